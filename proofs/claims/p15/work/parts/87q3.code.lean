set_option maxHeartbeats 1000000 in
theorem dy_dimensionsOf {g : xe_G} {M : mi_H} {f : Nat → Int32} {n N q : Nat} {E : List (Nat × Nat)} {j : Nat}  (hV : PV g f n N E q M) (hj : j < 65536) (ht : tg f E (fi f E j) = 1) : pt (mT g) 116 [.ref q, .int (nI j)] M (fun v M' => (v = some (.int (nI (dmN (tX f n E (fi f E j))))) ∧ M = M')) := by
  refine pt_in (b := mb_116 g) rfl (fun kf => ?_)
  show pl (mT g) kf (mb_116 g).2 (0, [(0, .ref q), (1, .int (nI j))], [], M) _
  have hV0 := hV
  obtain ⟨hL, H, m, qq, F, cc, hP, hT, hB, hb, hF, hS⟩ := hV0
  have h_q := hP.1
  have h_qq_1 := hP.2.1 1 (by decide) (by decide)
  have h_qq_2 := hP.2.1 2 (by decide) (by decide)
  have h_qq_3 := hP.2.1 3 (by decide) (by decide)
  have h_qq_4 := hP.2.1 4 (by decide) (by decide)
  have h_qq_5 := hP.2.1 5 (by decide) (by decide)
  have h_qq_6 := hP.2.2
  have hfi := fi_lt f E j
  have hl8 := tx_len f n E (fi f E j)
  obtain ⟨c0, a1, a2, a3, a4⟩ := hF.2.2.2.2 (fi f E j) ht
  have LL : ∀ (kf : Nat), (∀ (i : Nat), (i ≤ (tX f n E (fi f E j)).length) → (∀ i9, i9 < i → (tX f n E (fi f E j)).getD i9 0 = 91) →  pl (mT g) kf (mb_116 g).2 (8, [(0, .ref q), (2, .int (nI (fi f E j))), (3, .int (nI i))], [], M) (fun v M' => (v = some (.int (nI (dmN (tX f n E (fi f E j))))) ∧ M = M'))) := by
    intro kf
    induction kf with
    | zero => exact (by intros; exact pl_0)
    | succ kf ih =>
      intro i hi hs
      refine ps_st1 (S' := (9, [(0, .ref q), (2, .int (nI (fi f E j))), (3, .int (nI i))], [.int (nI i)], M)) rfl rfl rfl ?_
      refine ps_st (S' := (10, [(0, .ref q), (2, .int (nI (fi f E j))), (3, .int (nI i))], [.ref q, .int (nI i)], M)) rfl rfl rfl ?_
      refine ps_st (S' := (11, [(0, .ref q), (2, .int (nI (fi f E j))), (3, .int (nI i))], [.int (nI (fi f E j)), .ref q, .int (nI i)], M)) rfl rfl rfl ?_
      refine pl_call (a := [.ref q, .int (nI (fi f E j))]) (rest := [.int (nI i)]) rfl rfl rfl (dy_textLength (f := f) (n := n) (N := N) (q := q) (E := E) (j := (fi f E j)) (hV) (fi_lt _ _ _)) (fun v1 M2 q3 => ?_)
      obtain ⟨rfl, rfl⟩ := q3
      show pl _ _ _ (14, [(0, .ref q), (2, .int (nI (fi f E j))), (3, .int (nI i))], [.int (nI ((tX f n E (fi f E j)).length)), .int (nI i)], M) _
      refine ps_if2 (S1 := (41, [(3, .int (nI i))], [], M)) (S2 := (17, [(0, .ref q), (2, .int (nI (fi f E j))), (3, .int (nI i))], [], M)) rfl rfl rfl (fun c_14 => ?_) (fun c_14 => ?_)
      · have c_14 : (nI ((tX f n E (fi f E j)).length)) ≤ (nI i) := of_decide_eq_true c_14
        have n_14 : (tX f n E (fi f E j)).length ≤ i := (le_nI (p := (tX f n E (fi f E j)).length) (n := i) (Nat.lt_trans (tx_len _ _ _ _) (by decide)) (by omega)).mp c_14
        refine ps_st (S' := (42, [(3, .int (nI i))], [.int (nI i)], M)) rfl rfl rfl ?_
        exact ps_reti rfl (⟨by rw [dm_of hi hs (Or.inl (by omega))], rfl⟩)
      · have c_14 : ¬ ((nI ((tX f n E (fi f E j)).length)) ≤ (nI i)) := of_decide_eq_false c_14
        have n_14 : ¬ ((tX f n E (fi f E j)).length ≤ i) := fun h9 => c_14 ((le_nI (p := (tX f n E (fi f E j)).length) (n := i) (Nat.lt_trans (tx_len _ _ _ _) (by decide)) (by omega)).mpr h9)
        refine ps_st (S' := (18, [(0, .ref q), (2, .int (nI (fi f E j))), (3, .int (nI i))], [.ref q], M)) rfl rfl rfl ?_
        refine ps_get (S' := (21, [(0, .ref q), (2, .int (nI (fi f E j))), (3, .int (nI i))], [.ref (qq 6)], M)) rfl h_q rfl rfl ?_
        refine ps_st (S' := (22, [(0, .ref q), (2, .int (nI (fi f E j))), (3, .int (nI i))], [.ref q, .ref (qq 6)], M)) rfl rfl rfl ?_
        refine ps_get (S' := (25, [(0, .ref q), (2, .int (nI (fi f E j))), (3, .int (nI i))], [.ref (qq 3), .ref (qq 6)], M)) rfl h_q rfl rfl ?_
        refine ps_st (S' := (26, [(0, .ref q), (2, .int (nI (fi f E j))), (3, .int (nI i))], [.int (nI (fi f E j)), .ref (qq 3), .ref (qq 6)], M)) rfl rfl rfl ?_
        refine ps_ald (S' := (27, [(0, .ref q), (2, .int (nI (fi f E j))), (3, .int (nI i))], [.int ((F 3) (Int32.toNatClampNeg (nI (fi f E j)))), .ref (qq 6)], M)) rfl h_qq_3 rfl (fun i0_26 i1_26 => ?_)
        rw [show ((F 3) (Int32.toNatClampNeg (nI (fi f E j)))) = (nI c0) from (congrArg (F 3) (nI_toNat (k := fi f E j) (by omega))).trans (a1)]
        show pl _ _ _ (_, [(0, .ref q), (2, .int (nI (fi f E j))), (3, .int (nI i))], [.int (nI c0), .ref (qq 6)], M) _
        refine ps_st (S' := (28, [(0, .ref q), (2, .int (nI (fi f E j))), (3, .int (nI i))], [.int (nI i), .int (nI c0), .ref (qq 6)], M)) rfl rfl rfl ?_
        refine ps_st (S' := (29, [(0, .ref q), (2, .int (nI (fi f E j))), (3, .int (nI i))], [.int ((nI c0) + (nI i)), .ref (qq 6)], M)) rfl rfl rfl ?_
        rw [nI_add1 (p := c0) (k := i) (x := (nI i)) rfl (by omega)]
        show pl _ _ _ (_, [(0, .ref q), (2, .int (nI (fi f E j))), (3, .int (nI i))], [.int (nI (c0 + i)), .ref (qq 6)], M) _
        refine ps_ald (S' := (30, [(0, .ref q), (2, .int (nI (fi f E j))), (3, .int (nI i))], [.int ((F 6) (Int32.toNatClampNeg (nI (c0 + i))))], M)) rfl h_qq_6 rfl (fun i0_29 i1_29 => ?_)
        have hb_29 := tx_ch f n E (fi f E j) i
        rw [show ((F 6) (Int32.toNatClampNeg (nI (c0 + i)))) = (nI ((tX f n E (fi f E j)).getD i 0)) from (congrArg (F 6) (nI_toNat (k := c0 + i) (by omega))).trans (a4 i (by omega))]
        show pl _ _ _ (_, [(0, .ref q), (2, .int (nI (fi f E j))), (3, .int (nI i))], [.int (nI ((tX f n E (fi f E j)).getD i 0))], M) _
        refine ps_st (S' := (32, [(0, .ref q), (2, .int (nI (fi f E j))), (3, .int (nI i))], [.int 91, .int (nI ((tX f n E (fi f E j)).getD i 0))], M)) rfl rfl rfl ?_
        refine ps_if2 (S1 := (41, [(3, .int (nI i))], [], M)) (S2 := (35, [(0, .ref q), (2, .int (nI (fi f E j))), (3, .int (nI i))], [], M)) rfl rfl rfl (fun c_32 => ?_) (fun c_32 => ?_)
        · have c_32 : ¬ (nI ((tX f n E (fi f E j)).getD i 0)) = 91 := of_decide_eq_true c_32
          have n_32 : ¬ ((tX f n E (fi f E j)).getD i 0 = 91) := fun h9 => c_32 ((eq_nI (p := (tX f n E (fi f E j)).getD i 0) (n := 91) (Nat.lt_trans (tx_ch _ _ _ _ _) (by decide)) (by decide)).mpr h9)
          refine ps_st (S' := (42, [(3, .int (nI i))], [.int (nI i)], M)) rfl rfl rfl ?_
          exact ps_reti rfl (⟨by rw [dm_of hi hs (Or.inr (by omega))], rfl⟩)
        · have c_32 : ¬ (¬ (nI ((tX f n E (fi f E j)).getD i 0)) = 91) := of_decide_eq_false c_32
          have n_32 : (tX f n E (fi f E j)).getD i 0 = 91 := (eq_nI (p := (tX f n E (fi f E j)).getD i 0) (n := 91) (Nat.lt_trans (tx_ch _ _ _ _ _) (by decide)) (by decide)).mp (Decidable.not_not.mp c_32)
          refine ps_st (S' := (38, [(3, .int ((nI i) + 1)), (0, .ref q), (2, .int (nI (fi f E j)))], [], M)) rfl rfl rfl ?_
          rw [nI_add1 (p := i) (k := 1) (x := 1) rfl (by omega)]
          show pl _ _ _ (_, [(3, .int (nI (i + 1))), (0, .ref q), (2, .int (nI (fi f E j)))], [], M) _
          refine ps_st (S' := (8, [(0, .ref q), (2, .int (nI (fi f E j))), (3, .int (nI (i + 1)))], [], M)) rfl rfl rfl ?_
          exact ih (i + 1)  (by omega) (fun i9 h9 => (by by_cases e9 : i9 = i; rw [e9]; omega; exact hs i9 (by omega)))
  refine ps_st (S' := (1, [(0, .ref q), (1, .int (nI j))], [.ref q], M)) rfl rfl rfl ?_
  refine ps_st (S' := (2, [(0, .ref q), (1, .int (nI j))], [.int (nI j), .ref q], M)) rfl rfl rfl ?_
  refine pl_call (a := [.ref q, .int (nI j)]) (rest := []) rfl rfl rfl (dy_firstIndex (f := f) (n := n) (N := N) (q := q) (E := E) (j := j) (hV) (by omega)) (fun v4 M5 q6 => ?_)
  obtain ⟨rfl, rfl⟩ := q6
  show pl _ _ _ (5, [(0, .ref q), (1, .int (nI j))], [.int (nI (fi f E j))], M) _
  refine ps_st (S' := (6, [(2, .int (nI (fi f E j))), (0, .ref q), (1, .int (nI j))], [], M)) rfl rfl rfl ?_
  refine ps_st (S' := (7, [(2, .int (nI (fi f E j))), (0, .ref q), (1, .int (nI j))], [.int 0], M)) rfl rfl rfl ?_
  refine ps_st (S' := (8, [(0, .ref q), (2, .int (nI (fi f E j))), (3, .int 0)], [], M)) rfl rfl rfl ?_
  exact (LL kf) (0)  (Nat.zero_le _) (fun i9 h9 => absurd h9 (Nat.not_lt_zero _))
set_option maxHeartbeats 1000000 in
theorem dk_isMethodOfEither {g : xe_G} {M : mi_H} {f : Nat → Int32} {n N q : Nat} {E : List (Nat × Nat)} {cd on b cb L ml mj o v w lp : Nat} {c0 c2 c3 c4 y4 y8 y9 y10 y11 : Int32} {v8 v9 v10 : Value} {t : Nat} (h_cd : M.1 cd = some (ob 4 [.int c0, .int (nI ml), .int c2, .int c3, .int c4, .ref q, .int (nI mj), .ref on, v8, v9, v10])) (h_on : M.1 on = some (ob 5 [.ref b, .int (nI cb), .int (nI L), .int (nI o), .int y4, .int (nI v), .int (nI w), .int (nI lp), .int y8, .int y9, .int y10, .int y11])) (hmj : mj < 65536) (hml : ml < 65536) (ho : o < 256) (hv : v < 65536) (hw : w < 65536) (hlp : lp < 3) (h0 : tg f E 0 = 0) (hCP : CP f n E) (hV : PV g f n N E q M) (ht : t < 256) : pt (mT g) 78 [.ref cd, .int (nI t)] M (fun r9 M' => (r9 = some (.int (nI (meiN mj t))) ∧ M = M')) := by
  refine pt_in (b := mb_78 g) rfl (fun kf => ?_)
  show pl (mT g) kf (mb_78 g).2 (0, [(0, .ref cd), (1, .int (nI t))], [], M) _
  refine ps_st (S' := (1, [(0, .ref cd), (1, .int (nI t))], [.int (nI t)], M)) rfl rfl rfl ?_
  refine ps_st (S' := (3, [(0, .ref cd), (1, .int (nI t))], [.int 10, .int (nI t)], M)) rfl rfl rfl ?_
  refine ps_if2 (S1 := (21, [], [], M)) (S2 := (6, [(0, .ref cd), (1, .int (nI t))], [], M)) rfl rfl rfl (fun c_3 => ?_) (fun c_3 => ?_)
  · have c_3 : (nI t) = 10 := of_decide_eq_true c_3
    have n_3 : t = 10 := (eq_nI (p := t) (n := 10) (by omega) (by decide)).mp c_3
    refine ps_st (S' := (22, [], [.int 1], M)) rfl rfl rfl ?_
    refine ps_st (S' := (26, [], [.int 1], M)) rfl rfl rfl ?_
    exact ps_ret rfl rfl (⟨congrArg (fun x => some (Value.int (nI x))) (show 1 = meiN mj t from by unfold meiN; first | ((repeat first | rw [if_pos (by omega)] | rw [if_neg (by omega)]) <;> first | rfl | omega) | ((repeat' split) <;> first | rfl | (exfalso; omega) | omega)), rfl⟩)
  · have c_3 : ¬ ((nI t) = 10) := of_decide_eq_false c_3
    have n_3 : ¬ (t = 10) := fun h9 => c_3 ((eq_nI (p := t) (n := 10) (by omega) (by decide)).mpr h9)
    refine ps_st (S' := (7, [(0, .ref cd), (1, .int (nI t))], [.int (nI t)], M)) rfl rfl rfl ?_
    refine ps_st (S' := (9, [(0, .ref cd), (1, .int (nI t))], [.int 11, .int (nI t)], M)) rfl rfl rfl ?_
    refine ps_if2 (S1 := (25, [], [], M)) (S2 := (12, [(0, .ref cd), (1, .int (nI t))], [], M)) rfl rfl rfl (fun c_9 => ?_) (fun c_9 => ?_)
    · have c_9 : ¬ (nI t) = 11 := of_decide_eq_true c_9
      have n_9 : ¬ (t = 11) := fun h9 => c_9 ((eq_nI (p := t) (n := 11) (by omega) (by decide)).mpr h9)
      refine ps_st (S' := (26, [], [.int 0], M)) rfl rfl rfl ?_
      exact ps_ret rfl rfl (⟨congrArg (fun x => some (Value.int (nI x))) (show 0 = meiN mj t from by unfold meiN; first | ((repeat first | rw [if_pos (by omega)] | rw [if_neg (by omega)]) <;> first | rfl | omega) | ((repeat' split) <;> first | rfl | (exfalso; omega) | omega)), rfl⟩)
    · have c_9 : ¬ (¬ (nI t) = 11) := of_decide_eq_false c_9
      have n_9 : t = 11 := (eq_nI (p := t) (n := 11) (by omega) (by decide)).mp (Decidable.not_not.mp c_9)
      refine ps_st (S' := (13, [(0, .ref cd), (1, .int (nI t))], [.ref cd], M)) rfl rfl rfl ?_
      refine ps_get (S' := (16, [(0, .ref cd), (1, .int (nI t))], [.int (nI mj)], M)) rfl h_cd rfl rfl ?_
      refine ps_st (S' := (18, [(0, .ref cd), (1, .int (nI t))], [.int 52, .int (nI mj)], M)) rfl rfl rfl ?_
      refine ps_if2 (S1 := (25, [], [], M)) (S2 := (21, [], [], M)) rfl rfl rfl (fun c_18 => ?_) (fun c_18 => ?_)
      · have c_18 : (nI mj) < 52 := of_decide_eq_true c_18
        have n_18 : mj < 52 := (lt_nI (p := mj) (n := 52) (by omega) (by decide)).mp c_18
        refine ps_st (S' := (26, [], [.int 0], M)) rfl rfl rfl ?_
        exact ps_ret rfl rfl (⟨congrArg (fun x => some (Value.int (nI x))) (show 0 = meiN mj t from by unfold meiN; first | ((repeat first | rw [if_pos (by omega)] | rw [if_neg (by omega)]) <;> first | rfl | omega) | ((repeat' split) <;> first | rfl | (exfalso; omega) | omega)), rfl⟩)
      · have c_18 : ¬ ((nI mj) < 52) := of_decide_eq_false c_18
        have n_18 : ¬ (mj < 52) := fun h9 => c_18 ((lt_nI (p := mj) (n := 52) (by omega) (by decide)).mpr h9)
        refine ps_st (S' := (22, [], [.int 1], M)) rfl rfl rfl ?_
        refine ps_st (S' := (26, [], [.int 1], M)) rfl rfl rfl ?_
        exact ps_ret rfl rfl (⟨congrArg (fun x => some (Value.int (nI x))) (show 1 = meiN mj t from by unfold meiN; first | ((repeat first | rw [if_pos (by omega)] | rw [if_neg (by omega)]) <;> first | rfl | omega) | ((repeat' split) <;> first | rfl | (exfalso; omega) | omega)), rfl⟩)
set_option maxHeartbeats 1000000 in
theorem dk_isLoadedByLdc {g : xe_G} {M : mi_H} {f : Nat → Int32} {n N q : Nat} {E : List (Nat × Nat)} {cd on b cb L ml mj o v w lp : Nat} {c0 c2 c3 c4 y4 y8 y9 y10 y11 : Int32} {v8 v9 v10 : Value} {t : Nat} (h_cd : M.1 cd = some (ob 4 [.int c0, .int (nI ml), .int c2, .int c3, .int c4, .ref q, .int (nI mj), .ref on, v8, v9, v10])) (h_on : M.1 on = some (ob 5 [.ref b, .int (nI cb), .int (nI L), .int (nI o), .int y4, .int (nI v), .int (nI w), .int (nI lp), .int y8, .int y9, .int y10, .int y11])) (hmj : mj < 65536) (hml : ml < 65536) (ho : o < 256) (hv : v < 65536) (hw : w < 65536) (hlp : lp < 3) (h0 : tg f E 0 = 0) (hCP : CP f n E) (hV : PV g f n N E q M) (ht : t < 256) : pt (mT g) 77 [.ref cd, .int (nI t)] M (fun r9 M' => (r9 = some (.int (nI (ld1N f n E mj v t))) ∧ M = M')) := by
  refine pt_in (b := mb_77 g) rfl (fun kf => ?_)
  show pl (mT g) kf (mb_77 g).2 (0, [(0, .ref cd), (1, .int (nI t))], [], M) _
  refine ps_st (S' := (1, [(0, .ref cd), (1, .int (nI t))], [.int (nI t)], M)) rfl rfl rfl ?_
  refine pl_sw rfl (fun t_1 et_1 => ?_)
  have ht_1 : t_1 ∈ [76, 78, 93, 108, 148] := mi_sw_sub et_1 (by decide)
  simp only [List.mem_cons, List.not_mem_nil, or_false] at ht_1
  rcases ht_1 with rfl | rfl | rfl | rfl | rfl
  · show pl _ _ _ (76, [(0, .ref cd), (1, .int (nI t))], [], M) _
    have m_1 := sw_nat (t := t) (by omega) et_1
    simp at m_1
    refine ps_st (S' := (77, [(0, .ref cd), (1, .int (nI t))], [.int 1], M)) rfl rfl rfl ?_
    exact ps_ret rfl rfl (⟨congrArg (fun x => some (Value.int (nI x))) (show 1 = ld1N f n E mj v t from by unfold ld1N; repeat first | rw [if_pos (by omega)] | rw [if_neg (by omega)]), rfl⟩)
  · show pl _ _ _ (78, [(0, .ref cd), (1, .int (nI t))], [], M) _
    have m_1 := sw_nat (t := t) (by omega) et_1
    simp at m_1
    refine ps_st (S' := (79, [(0, .ref cd), (1, .int (nI t))], [.ref cd], M)) rfl rfl rfl ?_
    refine ps_get (S' := (82, [(0, .ref cd), (1, .int (nI t))], [.int (nI mj)], M)) rfl h_cd rfl rfl ?_
    refine ps_st (S' := (84, [(0, .ref cd), (1, .int (nI t))], [.int 49, .int (nI mj)], M)) rfl rfl rfl ?_
    refine ps_if2 (S1 := (91, [(0, .ref cd), (1, .int (nI t))], [], M)) (S2 := (87, [(0, .ref cd), (1, .int (nI t))], [], M)) rfl rfl rfl (fun c_84 => ?_) (fun c_84 => ?_)
    · have c_84 : (nI mj) < 49 := of_decide_eq_true c_84
      have n_84 : mj < 49 := (lt_nI (p := mj) (n := 49) (by omega) (by decide)).mp c_84
      refine ps_st (S' := (92, [], [.int 0], M)) rfl rfl rfl ?_
      exact ps_ret rfl rfl (⟨congrArg (fun x => some (Value.int (nI x))) (show 0 = ld1N f n E mj v t from by unfold ld1N; repeat first | rw [if_pos (by omega)] | rw [if_neg (by omega)]), rfl⟩)
    · have c_84 : ¬ ((nI mj) < 49) := of_decide_eq_false c_84
      have n_84 : ¬ (mj < 49) := fun h9 => c_84 ((lt_nI (p := mj) (n := 49) (by omega) (by decide)).mpr h9)
      refine ps_st (S' := (88, [(0, .ref cd), (1, .int (nI t))], [.int 1], M)) rfl rfl rfl ?_
      refine ps_st (S' := (92, [], [.int 1], M)) rfl rfl rfl ?_
      exact ps_ret rfl rfl (⟨congrArg (fun x => some (Value.int (nI x))) (show 1 = ld1N f n E mj v t from by unfold ld1N; repeat first | rw [if_pos (by omega)] | rw [if_neg (by omega)]), rfl⟩)
  · show pl _ _ _ (93, [(0, .ref cd), (1, .int (nI t))], [], M) _
    have m_1 := sw_nat (t := t) (by omega) et_1
    simp at m_1
    refine ps_st (S' := (94, [(0, .ref cd), (1, .int (nI t))], [.ref cd], M)) rfl rfl rfl ?_
    refine ps_get (S' := (97, [(0, .ref cd), (1, .int (nI t))], [.int (nI mj)], M)) rfl h_cd rfl rfl ?_
    refine ps_st (S' := (99, [(0, .ref cd), (1, .int (nI t))], [.int 51, .int (nI mj)], M)) rfl rfl rfl ?_
    refine ps_if2 (S1 := (106, [(0, .ref cd), (1, .int (nI t))], [], M)) (S2 := (102, [(0, .ref cd), (1, .int (nI t))], [], M)) rfl rfl rfl (fun c_99 => ?_) (fun c_99 => ?_)
    · have c_99 : (nI mj) < 51 := of_decide_eq_true c_99
      have n_99 : mj < 51 := (lt_nI (p := mj) (n := 51) (by omega) (by decide)).mp c_99
      refine ps_st (S' := (107, [], [.int 0], M)) rfl rfl rfl ?_
      exact ps_ret rfl rfl (⟨congrArg (fun x => some (Value.int (nI x))) (show 0 = ld1N f n E mj v t from by unfold ld1N; repeat first | rw [if_pos (by omega)] | rw [if_neg (by omega)]), rfl⟩)
    · have c_99 : ¬ ((nI mj) < 51) := of_decide_eq_false c_99
      have n_99 : ¬ (mj < 51) := fun h9 => c_99 ((lt_nI (p := mj) (n := 51) (by omega) (by decide)).mpr h9)
      refine ps_st (S' := (103, [(0, .ref cd), (1, .int (nI t))], [.int 1], M)) rfl rfl rfl ?_
      refine ps_st (S' := (107, [], [.int 1], M)) rfl rfl rfl ?_
      exact ps_ret rfl rfl (⟨congrArg (fun x => some (Value.int (nI x))) (show 1 = ld1N f n E mj v t from by unfold ld1N; repeat first | rw [if_pos (by omega)] | rw [if_neg (by omega)]), rfl⟩)
  · show pl _ _ _ (108, [(0, .ref cd), (1, .int (nI t))], [], M) _
    have m_1 := sw_nat (t := t) (by omega) et_1
    simp at m_1
    refine ps_st (S' := (109, [(0, .ref cd), (1, .int (nI t))], [.ref cd], M)) rfl rfl rfl ?_
    refine ps_get (S' := (112, [(0, .ref cd), (1, .int (nI t))], [.int (nI mj)], M)) rfl h_cd rfl rfl ?_
    refine ps_st (S' := (114, [(0, .ref cd), (1, .int (nI t))], [.int 55, .int (nI mj)], M)) rfl rfl rfl ?_
    refine ps_if2 (S1 := (146, [], [], M)) (S2 := (117, [(0, .ref cd), (1, .int (nI t))], [], M)) rfl rfl rfl (fun c_114 => ?_) (fun c_114 => ?_)
    · have c_114 : (nI mj) < 55 := of_decide_eq_true c_114
      have n_114 : mj < 55 := (lt_nI (p := mj) (n := 55) (by omega) (by decide)).mp c_114
      refine ps_st (S' := (147, [], [.int 0], M)) rfl rfl rfl ?_
      exact ps_ret rfl rfl (⟨congrArg (fun x => some (Value.int (nI x))) (show 0 = ld1N f n E mj v t from by unfold ld1N; repeat first | rw [if_pos (by omega)] | rw [if_neg (by omega)]), rfl⟩)
    · have c_114 : ¬ ((nI mj) < 55) := of_decide_eq_false c_114
      have n_114 : ¬ (mj < 55) := fun h9 => c_114 ((lt_nI (p := mj) (n := 55) (by omega) (by decide)).mpr h9)
      refine ps_st (S' := (118, [(0, .ref cd), (1, .int (nI t))], [.ref cd], M)) rfl rfl rfl ?_
      refine ps_get (S' := (121, [(0, .ref cd), (1, .int (nI t))], [.ref q], M)) rfl h_cd rfl rfl ?_
      refine ps_st (S' := (122, [(0, .ref cd), (1, .int (nI t))], [.ref cd, .ref q], M)) rfl rfl rfl ?_
      refine ps_get (S' := (125, [(0, .ref cd), (1, .int (nI t))], [.ref q, .ref q], M)) rfl h_cd rfl rfl ?_
      refine ps_st (S' := (126, [(0, .ref cd), (1, .int (nI t))], [.ref cd, .ref q, .ref q], M)) rfl rfl rfl ?_
      refine ps_get (S' := (129, [(0, .ref cd), (1, .int (nI t))], [.ref on, .ref q, .ref q], M)) rfl h_cd rfl rfl ?_
      refine ps_get (S' := (132, [(0, .ref cd), (1, .int (nI t))], [.int (nI v), .ref q, .ref q], M)) rfl h_on rfl rfl ?_
      refine pl_call (a := [.ref q, .int (nI v)]) (rest := [.ref q]) rfl rfl rfl (dy_descriptorOf (f := f) (n := n) (N := N) (q := q) (E := E) (j := v) (hV) (hv)) (fun v1 M2 q3 => ?_)
      obtain ⟨rfl, rfl⟩ := q3
      show pl _ _ _ (135, [(0, .ref cd), (1, .int (nI t))], [.int (nI (se f E (se f E v))), .ref q], M) _
      have hse := se_lt f E (se f E v)
      refine pl_call (a := [.ref q, .int (nI (se f E (se f E v)))]) (rest := []) rfl rfl rfl (dz_placesTold (f := f) (n := n) (N := N) (q := q) (E := E) (k := (nI (se f E (se f E v)))) (hV) (h0)) (fun v4 M5 q6 => ?_)
      obtain ⟨rfl, rfl⟩ := q6
      show pl _ _ _ (138, [(0, .ref cd), (1, .int (nI t))], [.int (plX f n E (nI (se f E (se f E v))))], M) _
      have hdc : dcI f n E v = plX f n E (nI (se f E (se f E v))) := rfl
      refine ps_st (S' := (139, [(0, .ref cd), (1, .int (nI t))], [.int 1, .int (plX f n E (nI (se f E (se f E v))))], M)) rfl rfl rfl ?_
      refine ps_if2 (S1 := (146, [], [], M)) (S2 := (142, [(0, .ref cd), (1, .int (nI t))], [], M)) rfl rfl rfl (fun c_139 => ?_) (fun c_139 => ?_)
      · have c_139 : ¬ (plX f n E (nI (se f E (se f E v)))) = 1 := of_decide_eq_true c_139
        refine ps_st (S' := (147, [], [.int 0], M)) rfl rfl rfl ?_
        have hdv : ¬ dcI f n E v = 1 := by rw [hdc]; exact c_139
        exact ps_ret rfl rfl (⟨congrArg (fun x => some (Value.int (nI x))) (show 0 = ld1N f n E mj v t from by unfold ld1N; repeat first | rw [if_pos (by omega)] | rw [if_neg (by omega)] | rw [if_neg (fun h9 => hdv h9.2)]), rfl⟩)
      · have c_139 : ¬ (¬ (plX f n E (nI (se f E (se f E v)))) = 1) := of_decide_eq_false c_139
        refine ps_st (S' := (143, [(0, .ref cd), (1, .int (nI t))], [.int 1], M)) rfl rfl rfl ?_
        refine ps_st (S' := (147, [], [.int 1], M)) rfl rfl rfl ?_
        have hdv : dcI f n E v = 1 := by rw [hdc]; exact Decidable.not_not.mp c_139
        exact ps_ret rfl rfl (⟨congrArg (fun x => some (Value.int (nI x))) (show 1 = ld1N f n E mj v t from by unfold ld1N; repeat first | rw [if_pos (by omega)] | rw [if_neg (by omega)] | rw [if_pos ⟨by omega, hdv⟩]), rfl⟩)
  · show pl _ _ _ (148, [(0, .ref cd), (1, .int (nI t))], [], M) _
    have m_1 := sw_nat (t := t) (by omega) et_1
    simp at m_1
    refine ps_st (S' := (149, [(0, .ref cd), (1, .int (nI t))], [.int 0], M)) rfl rfl rfl ?_
    exact ps_ret rfl rfl (⟨congrArg (fun x => some (Value.int (nI x))) (show 0 = ld1N f n E mj v t from by unfold ld1N; repeat first | rw [if_pos (by omega)] | rw [if_neg (by omega)]), rfl⟩)
set_option maxHeartbeats 1000000 in
theorem dk_isOfTwoPlaces {g : xe_G} {M : mi_H} {f : Nat → Int32} {n N q : Nat} {E : List (Nat × Nat)} {cd on b cb L ml mj o v w lp : Nat} {c0 c2 c3 c4 y4 y8 y9 y10 y11 : Int32} {v8 v9 v10 : Value} {t : Nat} (h_cd : M.1 cd = some (ob 4 [.int c0, .int (nI ml), .int c2, .int c3, .int c4, .ref q, .int (nI mj), .ref on, v8, v9, v10])) (h_on : M.1 on = some (ob 5 [.ref b, .int (nI cb), .int (nI L), .int (nI o), .int y4, .int (nI v), .int (nI w), .int (nI lp), .int y8, .int y9, .int y10, .int y11])) (hmj : mj < 65536) (hml : ml < 65536) (ho : o < 256) (hv : v < 65536) (hw : w < 65536) (hlp : lp < 3) (h0 : tg f E 0 = 0) (hCP : CP f n E) (hV : PV g f n N E q M) (ht : t < 256) : pt (mT g) 79 [.ref cd, .int (nI t)] M (fun r9 M' => (r9 = some (.int (nI (ld2N f n E v t))) ∧ M = M')) := by
  refine pt_in (b := mb_79 g) rfl (fun kf => ?_)
  show pl (mT g) kf (mb_79 g).2 (0, [(0, .ref cd), (1, .int (nI t))], [], M) _
  refine ps_st (S' := (1, [(0, .ref cd), (1, .int (nI t))], [.int (nI t)], M)) rfl rfl rfl ?_
  refine ps_st (S' := (2, [(0, .ref cd), (1, .int (nI t))], [.int 5, .int (nI t)], M)) rfl rfl rfl ?_
  refine ps_if2 (S1 := (42, [], [], M)) (S2 := (5, [(0, .ref cd), (1, .int (nI t))], [], M)) rfl rfl rfl (fun c_2 => ?_) (fun c_2 => ?_)
  · have c_2 : (nI t) = 5 := of_decide_eq_true c_2
    have n_2 : t = 5 := (eq_nI (p := t) (n := 5) (by omega) (by decide)).mp c_2
    refine ps_st (S' := (43, [], [.int 1], M)) rfl rfl rfl ?_
    refine ps_st (S' := (47, [], [.int 1], M)) rfl rfl rfl ?_
    exact ps_ret rfl rfl (⟨congrArg (fun x => some (Value.int (nI x))) (show 1 = ld2N f n E v t from by unfold ld2N; repeat first | rw [if_pos (by omega)] | rw [if_neg (by omega)]), rfl⟩)
  · have c_2 : ¬ ((nI t) = 5) := of_decide_eq_false c_2
    have n_2 : ¬ (t = 5) := fun h9 => c_2 ((eq_nI (p := t) (n := 5) (by omega) (by decide)).mpr h9)
    refine ps_st (S' := (6, [(0, .ref cd), (1, .int (nI t))], [.int (nI t)], M)) rfl rfl rfl ?_
    refine ps_st (S' := (8, [(0, .ref cd), (1, .int (nI t))], [.int 6, .int (nI t)], M)) rfl rfl rfl ?_
    refine ps_if2 (S1 := (42, [], [], M)) (S2 := (11, [(0, .ref cd), (1, .int (nI t))], [], M)) rfl rfl rfl (fun c_8 => ?_) (fun c_8 => ?_)
    · have c_8 : (nI t) = 6 := of_decide_eq_true c_8
      have n_8 : t = 6 := (eq_nI (p := t) (n := 6) (by omega) (by decide)).mp c_8
      refine ps_st (S' := (43, [], [.int 1], M)) rfl rfl rfl ?_
      refine ps_st (S' := (47, [], [.int 1], M)) rfl rfl rfl ?_
      exact ps_ret rfl rfl (⟨congrArg (fun x => some (Value.int (nI x))) (show 1 = ld2N f n E v t from by unfold ld2N; repeat first | rw [if_pos (by omega)] | rw [if_neg (by omega)]), rfl⟩)
    · have c_8 : ¬ ((nI t) = 6) := of_decide_eq_false c_8
      have n_8 : ¬ (t = 6) := fun h9 => c_8 ((eq_nI (p := t) (n := 6) (by omega) (by decide)).mpr h9)
      refine ps_st (S' := (12, [(0, .ref cd), (1, .int (nI t))], [.int (nI t)], M)) rfl rfl rfl ?_
      refine ps_st (S' := (14, [(0, .ref cd), (1, .int (nI t))], [.int 17, .int (nI t)], M)) rfl rfl rfl ?_
      refine ps_if2 (S1 := (46, [], [], M)) (S2 := (17, [(0, .ref cd), (1, .int (nI t))], [], M)) rfl rfl rfl (fun c_14 => ?_) (fun c_14 => ?_)
      · have c_14 : ¬ (nI t) = 17 := of_decide_eq_true c_14
        have n_14 : ¬ (t = 17) := fun h9 => c_14 ((eq_nI (p := t) (n := 17) (by omega) (by decide)).mpr h9)
        refine ps_st (S' := (47, [], [.int 0], M)) rfl rfl rfl ?_
        exact ps_ret rfl rfl (⟨congrArg (fun x => some (Value.int (nI x))) (show 0 = ld2N f n E v t from by unfold ld2N; repeat first | rw [if_pos (by omega)] | rw [if_neg (by omega)]), rfl⟩)
      · have c_14 : ¬ (¬ (nI t) = 17) := of_decide_eq_false c_14
        have n_14 : t = 17 := (eq_nI (p := t) (n := 17) (by omega) (by decide)).mp (Decidable.not_not.mp c_14)
        refine ps_st (S' := (18, [(0, .ref cd), (1, .int (nI t))], [.ref cd], M)) rfl rfl rfl ?_
        refine ps_get (S' := (21, [(0, .ref cd), (1, .int (nI t))], [.ref q], M)) rfl h_cd rfl rfl ?_
        refine ps_st (S' := (22, [(0, .ref cd), (1, .int (nI t))], [.ref cd, .ref q], M)) rfl rfl rfl ?_
        refine ps_get (S' := (25, [(0, .ref cd), (1, .int (nI t))], [.ref q, .ref q], M)) rfl h_cd rfl rfl ?_
        refine ps_st (S' := (26, [(0, .ref cd), (1, .int (nI t))], [.ref cd, .ref q, .ref q], M)) rfl rfl rfl ?_
        refine ps_get (S' := (29, [(0, .ref cd), (1, .int (nI t))], [.ref on, .ref q, .ref q], M)) rfl h_cd rfl rfl ?_
        refine ps_get (S' := (32, [(0, .ref cd), (1, .int (nI t))], [.int (nI v), .ref q, .ref q], M)) rfl h_on rfl rfl ?_
        refine pl_call (a := [.ref q, .int (nI v)]) (rest := [.ref q]) rfl rfl rfl (dy_descriptorOf (f := f) (n := n) (N := N) (q := q) (E := E) (j := v) (hV) (hv)) (fun v1 M2 q3 => ?_)
        obtain ⟨rfl, rfl⟩ := q3
        show pl _ _ _ (35, [(0, .ref cd), (1, .int (nI t))], [.int (nI (se f E (se f E v))), .ref q], M) _
        have hse := se_lt f E (se f E v)
        refine pl_call (a := [.ref q, .int (nI (se f E (se f E v)))]) (rest := []) rfl rfl rfl (dz_placesTold (f := f) (n := n) (N := N) (q := q) (E := E) (k := (nI (se f E (se f E v)))) (hV) (h0)) (fun v4 M5 q6 => ?_)
        obtain ⟨rfl, rfl⟩ := q6
        show pl _ _ _ (38, [(0, .ref cd), (1, .int (nI t))], [.int (plX f n E (nI (se f E (se f E v))))], M) _
        have hdc : dcI f n E v = plX f n E (nI (se f E (se f E v))) := rfl
        refine ps_st (S' := (39, [(0, .ref cd), (1, .int (nI t))], [.int 2, .int (plX f n E (nI (se f E (se f E v))))], M)) rfl rfl rfl ?_
        refine ps_if2 (S1 := (46, [], [], M)) (S2 := (42, [], [], M)) rfl rfl rfl (fun c_39 => ?_) (fun c_39 => ?_)
        · have c_39 : ¬ (plX f n E (nI (se f E (se f E v)))) = 2 := of_decide_eq_true c_39
          refine ps_st (S' := (47, [], [.int 0], M)) rfl rfl rfl ?_
          have hdv : ¬ dcI f n E v = 2 := by rw [hdc]; exact c_39
          exact ps_ret rfl rfl (⟨congrArg (fun x => some (Value.int (nI x))) (show 0 = ld2N f n E v t from by unfold ld2N; repeat first | rw [if_pos (by omega)] | rw [if_neg (by omega)] | rw [if_neg (fun h9 => hdv h9.2)]), rfl⟩)
        · have c_39 : ¬ (¬ (plX f n E (nI (se f E (se f E v)))) = 2) := of_decide_eq_false c_39
          refine ps_st (S' := (43, [], [.int 1], M)) rfl rfl rfl ?_
          refine ps_st (S' := (47, [], [.int 1], M)) rfl rfl rfl ?_
          have hdv : dcI f n E v = 2 := by rw [hdc]; exact Decidable.not_not.mp c_39
          exact ps_ret rfl rfl (⟨congrArg (fun x => some (Value.int (nI x))) (show 1 = ld2N f n E v t from by unfold ld2N; repeat first | rw [if_pos (by omega)] | rw [if_neg (by omega)] | rw [if_pos ⟨by omega, hdv⟩]), rfl⟩)
set_option maxHeartbeats 1000000 in
theorem dk_callHolds {g : xe_G} {M : mi_H} {f : Nat → Int32} {n N q : Nat} {E : List (Nat × Nat)} {cd on b cb L ml mj o v w lp : Nat} {c0 c2 c3 c4 y4 y8 y9 y10 y11 : Int32} {v8 v9 v10 : Value} {t : Nat} (h_cd : M.1 cd = some (ob 4 [.int c0, .int (nI ml), .int c2, .int c3, .int c4, .ref q, .int (nI mj), .ref on, v8, v9, v10])) (h_on : M.1 on = some (ob 5 [.ref b, .int (nI cb), .int (nI L), .int (nI o), .int y4, .int (nI v), .int (nI w), .int (nI lp), .int y8, .int y9, .int y10, .int y11])) (hmj : mj < 65536) (hml : ml < 65536) (ho : o < 256) (hv : v < 65536) (hw : w < 65536) (hlp : lp < 3) (h0 : tg f E 0 = 0) (hCP : CP f n E) (hV : PV g f n N E q M) (ht : t < 256) : pt (mT g) 75 [.ref cd, .int (nI t)] M (fun r9 M' => (r9 = some (.int (nI (caN f n E mj o v w t))) ∧ M = M')) := by
  refine pt_in (b := mb_75 g) rfl (fun kf => ?_)
  show pl (mT g) kf (mb_75 g).2 (0, [(0, .ref cd), (1, .int (nI t))], [], M) _
  refine ps_st (S' := (1, [(0, .ref cd), (1, .int (nI t))], [.ref cd], M)) rfl rfl rfl ?_
  refine ps_get (S' := (4, [(0, .ref cd), (1, .int (nI t))], [.ref on], M)) rfl h_cd rfl rfl ?_
  refine ps_get (S' := (7, [(0, .ref cd), (1, .int (nI t))], [.int (nI o)], M)) rfl h_on rfl rfl ?_
  refine pl_sw rfl (fun t_7 et_7 => ?_)
  have ht_7 : t_7 ∈ [40, 69, 75, 106, 151, 163] := mi_sw_sub et_7 (by decide)
  simp only [List.mem_cons, List.not_mem_nil, or_false] at ht_7
  rcases ht_7 with rfl | rfl | rfl | rfl | rfl | rfl
  · show pl _ _ _ (40, [(0, .ref cd), (1, .int (nI t))], [], M) _
    have m_7 := sw_nat (t := o) (by omega) et_7
    simp at m_7
    refine ps_st (S' := (41, [(0, .ref cd), (1, .int (nI t))], [.int (nI t)], M)) rfl rfl rfl ?_
    refine ps_st (S' := (43, [(0, .ref cd), (1, .int (nI t))], [.int 10, .int (nI t)], M)) rfl rfl rfl ?_
    refine ps_if2 (S1 := (67, [], [], M)) (S2 := (46, [(0, .ref cd), (1, .int (nI t))], [], M)) rfl rfl rfl (fun c_43 => ?_) (fun c_43 => ?_)
    · have c_43 : ¬ (nI t) = 10 := of_decide_eq_true c_43
      have n_43 : ¬ (t = 10) := fun h9 => c_43 ((eq_nI (p := t) (n := 10) (by omega) (by decide)).mpr h9)
      refine ps_st (S' := (68, [], [.int 0], M)) rfl rfl rfl ?_
      exact ps_ret rfl rfl (⟨congrArg (fun x => some (Value.int (nI x))) (show 0 = caN f n E mj o v w t from by unfold caN; first | ((repeat first | rw [if_pos (by omega)] | rw [if_neg (by omega)]) <;> first | rfl | omega) | ((repeat' split) <;> first | rfl | (exfalso; omega) | omega)), rfl⟩)
    · have c_43 : ¬ (¬ (nI t) = 10) := of_decide_eq_false c_43
      have n_43 : t = 10 := (eq_nI (p := t) (n := 10) (by omega) (by decide)).mp (Decidable.not_not.mp c_43)
      refine ps_st (S' := (47, [(0, .ref cd), (1, .int (nI t))], [.ref cd], M)) rfl rfl rfl ?_
      refine ps_get (S' := (50, [(0, .ref cd), (1, .int (nI t))], [.ref q], M)) rfl h_cd rfl rfl ?_
      refine ps_st (S' := (51, [(0, .ref cd), (1, .int (nI t))], [.ref cd, .ref q], M)) rfl rfl rfl ?_
      refine ps_get (S' := (54, [(0, .ref cd), (1, .int (nI t))], [.ref on, .ref q], M)) rfl h_cd rfl rfl ?_
      refine ps_get (S' := (57, [(0, .ref cd), (1, .int (nI t))], [.int (nI v), .ref q], M)) rfl h_on rfl rfl ?_
      refine pl_call (a := [.ref q, .int (nI v)]) (rest := []) rfl rfl rfl (dy_namesInit (f := f) (n := n) (N := N) (q := q) (E := E) (j := v) (hV) (hv)) (fun v1 M2 q3 => ?_)
      obtain ⟨rfl, rfl⟩ := q3
      show pl _ _ _ (60, [(0, .ref cd), (1, .int (nI t))], [.int (nI (eqN (tX f n E (fi f E (se f E v))) (ltx 14)))], M) _
      have hni := le1_eq (tX f n E (fi f E (se f E v))) (ltx 14)
      have hnd : niN f n E v = eqN (tX f n E (fi f E (se f E v))) (ltx 14) := rfl
      refine ps_if (S1 := (67, [], [], M)) (S2 := (63, [(0, .ref cd), (1, .int (nI t))], [], M)) rfl rfl rfl (fun c_60 => ?_) (fun c_60 => ?_)
      · have c_60 : ¬ (nI (eqN (tX f n E (fi f E (se f E v))) (ltx 14))) = 0 := of_decide_eq_true c_60
        have n_60 : ¬ (eqN (tX f n E (fi f E (se f E v))) (ltx 14) = 0) := fun h9 => c_60 ((eq_nI (p := eqN (tX f n E (fi f E (se f E v))) (ltx 14)) (n := 0) (Nat.lt_trans (le1_eq _ _) (by decide)) (by decide)).mpr h9)
        refine ps_st (S' := (68, [], [.int 0], M)) rfl rfl rfl ?_
        exact ps_ret rfl rfl (⟨congrArg (fun x => some (Value.int (nI x))) (show 0 = caN f n E mj o v w t from by unfold caN; first | ((repeat first | rw [if_pos (by omega)] | rw [if_neg (by omega)]) <;> first | rfl | omega) | ((repeat' split) <;> first | rfl | (exfalso; omega) | omega)), rfl⟩)
      · have c_60 : ¬ (¬ (nI (eqN (tX f n E (fi f E (se f E v))) (ltx 14))) = 0) := of_decide_eq_false c_60
        have n_60 : eqN (tX f n E (fi f E (se f E v))) (ltx 14) = 0 := (eq_nI (p := eqN (tX f n E (fi f E (se f E v))) (ltx 14)) (n := 0) (Nat.lt_trans (le1_eq _ _) (by decide)) (by decide)).mp (Decidable.not_not.mp c_60)
        refine ps_st (S' := (64, [(0, .ref cd), (1, .int (nI t))], [.int 1], M)) rfl rfl rfl ?_
        refine ps_st (S' := (68, [], [.int 1], M)) rfl rfl rfl ?_
        exact ps_ret rfl rfl (⟨congrArg (fun x => some (Value.int (nI x))) (show 1 = caN f n E mj o v w t from by unfold caN; first | ((repeat first | rw [if_pos (by omega)] | rw [if_neg (by omega)]) <;> first | rfl | omega) | ((repeat' split) <;> first | rfl | (exfalso; omega) | omega)), rfl⟩)
  · show pl _ _ _ (69, [(0, .ref cd), (1, .int (nI t))], [], M) _
    have m_7 := sw_nat (t := o) (by omega) et_7
    simp at m_7
    refine ps_st (S' := (70, [(0, .ref cd), (1, .int (nI t))], [.ref cd], M)) rfl rfl rfl ?_
    refine ps_st (S' := (71, [(0, .ref cd), (1, .int (nI t))], [.int (nI t), .ref cd], M)) rfl rfl rfl ?_
    refine pl_call (a := [.ref cd, .int (nI t)]) (rest := []) rfl rfl rfl (dk_isMethodOfEither (f := f) (n := n) (N := N) (q := q) (E := E) (cd := cd) (on := on) (b := b) (cb := cb) (L := L) (ml := ml) (mj := mj) (o := o) (v := v) (w := w) (lp := lp) (c0 := c0) (c2 := c2) (c3 := c3) (c4 := c4) (y4 := y4) (y8 := y8) (y9 := y9) (y10 := y10) (y11 := y11) (v8 := v8) (v9 := v9) (v10 := v10) (t := t) h_cd h_on (hmj) (hml) (ho) (hv) (hw) (hlp) (h0) (hCP) (hV) (ht)) (fun v4 M5 q6 => ?_)
    obtain ⟨rfl, rfl⟩ := q6
    show pl _ _ _ (74, [(0, .ref cd), (1, .int (nI t))], [.int (nI (meiN mj t))], M) _
    have hmo := le1_mo mj t
    exact ps_reti rfl (⟨congrArg (fun x => some (Value.int (nI x))) (show meiN mj t = caN f n E mj o v w t from by unfold caN; first | ((repeat first | rw [if_pos (by omega)] | rw [if_neg (by omega)]) <;> first | rfl | omega) | ((repeat' split) <;> first | rfl | (exfalso; omega) | omega)), rfl⟩)
  · show pl _ _ _ (75, [(0, .ref cd), (1, .int (nI t))], [], M) _
    have m_7 := sw_nat (t := o) (by omega) et_7
    simp at m_7
    refine ps_st (S' := (76, [(0, .ref cd), (1, .int (nI t))], [.ref cd], M)) rfl rfl rfl ?_
    refine ps_st (S' := (77, [(0, .ref cd), (1, .int (nI t))], [.int (nI t), .ref cd], M)) rfl rfl rfl ?_
    refine pl_call (a := [.ref cd, .int (nI t)]) (rest := []) rfl rfl rfl (dk_isMethodOfEither (f := f) (n := n) (N := N) (q := q) (E := E) (cd := cd) (on := on) (b := b) (cb := cb) (L := L) (ml := ml) (mj := mj) (o := o) (v := v) (w := w) (lp := lp) (c0 := c0) (c2 := c2) (c3 := c3) (c4 := c4) (y4 := y4) (y8 := y8) (y9 := y9) (y10 := y10) (y11 := y11) (v8 := v8) (v9 := v9) (v10 := v10) (t := t) h_cd h_on (hmj) (hml) (ho) (hv) (hw) (hlp) (h0) (hCP) (hV) (ht)) (fun v7 M8 q9 => ?_)
    obtain ⟨rfl, rfl⟩ := q9
    show pl _ _ _ (80, [(0, .ref cd), (1, .int (nI t))], [.int (nI (meiN mj t))], M) _
    have hmo := le1_mo mj t
    refine ps_if (S1 := (104, [], [], M)) (S2 := (83, [(0, .ref cd), (1, .int (nI t))], [], M)) rfl rfl rfl (fun c_80 => ?_) (fun c_80 => ?_)
    · have c_80 : (nI (meiN mj t)) = 0 := of_decide_eq_true c_80
      have n_80 : meiN mj t = 0 := (eq_nI (p := meiN mj t) (n := 0) (by omega) (by decide)).mp c_80
      refine ps_st (S' := (105, [], [.int 0], M)) rfl rfl rfl ?_
      exact ps_ret rfl rfl (⟨congrArg (fun x => some (Value.int (nI x))) (show 0 = caN f n E mj o v w t from by unfold caN; first | ((repeat first | rw [if_pos (by omega)] | rw [if_neg (by omega)]) <;> first | rfl | omega) | ((repeat' split) <;> first | rfl | (exfalso; omega) | omega)), rfl⟩)
    · have c_80 : ¬ ((nI (meiN mj t)) = 0) := of_decide_eq_false c_80
      have n_80 : ¬ (meiN mj t = 0) := fun h9 => c_80 ((eq_nI (p := meiN mj t) (n := 0) (by omega) (by decide)).mpr h9)
      refine ps_st (S' := (84, [(0, .ref cd), (1, .int (nI t))], [.ref cd], M)) rfl rfl rfl ?_
      refine ps_get (S' := (87, [(0, .ref cd), (1, .int (nI t))], [.ref q], M)) rfl h_cd rfl rfl ?_
      refine ps_st (S' := (88, [(0, .ref cd), (1, .int (nI t))], [.ref cd, .ref q], M)) rfl rfl rfl ?_
      refine ps_get (S' := (91, [(0, .ref cd), (1, .int (nI t))], [.ref on, .ref q], M)) rfl h_cd rfl rfl ?_
      refine ps_get (S' := (94, [(0, .ref cd), (1, .int (nI t))], [.int (nI v), .ref q], M)) rfl h_on rfl rfl ?_
      refine pl_call (a := [.ref q, .int (nI v)]) (rest := []) rfl rfl rfl (dy_namesInit (f := f) (n := n) (N := N) (q := q) (E := E) (j := v) (hV) (hv)) (fun v10 M11 q12 => ?_)
      obtain ⟨rfl, rfl⟩ := q12
      show pl _ _ _ (97, [(0, .ref cd), (1, .int (nI t))], [.int (nI (eqN (tX f n E (fi f E (se f E v))) (ltx 14)))], M) _
      have hni := le1_eq (tX f n E (fi f E (se f E v))) (ltx 14)
      have hnd : niN f n E v = eqN (tX f n E (fi f E (se f E v))) (ltx 14) := rfl
      refine ps_if (S1 := (104, [], [], M)) (S2 := (100, [(0, .ref cd), (1, .int (nI t))], [], M)) rfl rfl rfl (fun c_97 => ?_) (fun c_97 => ?_)
      · have c_97 : ¬ (nI (eqN (tX f n E (fi f E (se f E v))) (ltx 14))) = 0 := of_decide_eq_true c_97
        have n_97 : ¬ (eqN (tX f n E (fi f E (se f E v))) (ltx 14) = 0) := fun h9 => c_97 ((eq_nI (p := eqN (tX f n E (fi f E (se f E v))) (ltx 14)) (n := 0) (Nat.lt_trans (le1_eq _ _) (by decide)) (by decide)).mpr h9)
        refine ps_st (S' := (105, [], [.int 0], M)) rfl rfl rfl ?_
        exact ps_ret rfl rfl (⟨congrArg (fun x => some (Value.int (nI x))) (show 0 = caN f n E mj o v w t from by unfold caN; first | ((repeat first | rw [if_pos (by omega)] | rw [if_neg (by omega)]) <;> first | rfl | omega) | ((repeat' split) <;> first | rfl | (exfalso; omega) | omega)), rfl⟩)
      · have c_97 : ¬ (¬ (nI (eqN (tX f n E (fi f E (se f E v))) (ltx 14))) = 0) := of_decide_eq_false c_97
        have n_97 : eqN (tX f n E (fi f E (se f E v))) (ltx 14) = 0 := (eq_nI (p := eqN (tX f n E (fi f E (se f E v))) (ltx 14)) (n := 0) (Nat.lt_trans (le1_eq _ _) (by decide)) (by decide)).mp (Decidable.not_not.mp c_97)
        refine ps_st (S' := (101, [(0, .ref cd), (1, .int (nI t))], [.int 1], M)) rfl rfl rfl ?_
        refine ps_st (S' := (105, [], [.int 1], M)) rfl rfl rfl ?_
        exact ps_ret rfl rfl (⟨congrArg (fun x => some (Value.int (nI x))) (show 1 = caN f n E mj o v w t from by unfold caN; first | ((repeat first | rw [if_pos (by omega)] | rw [if_neg (by omega)]) <;> first | rfl | omega) | ((repeat' split) <;> first | rfl | (exfalso; omega) | omega)), rfl⟩)
  · show pl _ _ _ (106, [(0, .ref cd), (1, .int (nI t))], [], M) _
    have m_7 := sw_nat (t := o) (by omega) et_7
    simp at m_7
    refine ps_st (S' := (107, [(0, .ref cd), (1, .int (nI t))], [.int (nI t)], M)) rfl rfl rfl ?_
    refine ps_st (S' := (109, [(0, .ref cd), (1, .int (nI t))], [.int 11, .int (nI t)], M)) rfl rfl rfl ?_
    refine ps_if2 (S1 := (149, [], [], M)) (S2 := (112, [(0, .ref cd), (1, .int (nI t))], [], M)) rfl rfl rfl (fun c_109 => ?_) (fun c_109 => ?_)
    · have c_109 : ¬ (nI t) = 11 := of_decide_eq_true c_109
      have n_109 : ¬ (t = 11) := fun h9 => c_109 ((eq_nI (p := t) (n := 11) (by omega) (by decide)).mpr h9)
      refine ps_st (S' := (150, [], [.int 0], M)) rfl rfl rfl ?_
      exact ps_ret rfl rfl (⟨congrArg (fun x => some (Value.int (nI x))) (show 0 = caN f n E mj o v w t from by unfold caN; first | ((repeat first | rw [if_pos (by omega)] | rw [if_neg (by omega)]) <;> first | rfl | omega) | ((repeat' split) <;> first | rfl | (exfalso; omega) | omega)), rfl⟩)
    · have c_109 : ¬ (¬ (nI t) = 11) := of_decide_eq_false c_109
      have n_109 : t = 11 := (eq_nI (p := t) (n := 11) (by omega) (by decide)).mp (Decidable.not_not.mp c_109)
      refine ps_st (S' := (113, [(0, .ref cd), (1, .int (nI t))], [.ref cd], M)) rfl rfl rfl ?_
      refine ps_get (S' := (116, [(0, .ref cd), (1, .int (nI t))], [.ref on], M)) rfl h_cd rfl rfl ?_
      refine ps_get (S' := (119, [(0, .ref cd), (1, .int (nI t))], [.int (nI w)], M)) rfl h_on rfl rfl ?_
      refine ps_st (S' := (120, [(0, .ref cd), (1, .int (nI t))], [.ref cd, .int (nI w)], M)) rfl rfl rfl ?_
      refine ps_get (S' := (123, [(0, .ref cd), (1, .int (nI t))], [.ref q, .int (nI w)], M)) rfl h_cd rfl rfl ?_
      refine ps_st (S' := (124, [(0, .ref cd), (1, .int (nI t))], [.ref cd, .ref q, .int (nI w)], M)) rfl rfl rfl ?_
      refine ps_get (S' := (127, [(0, .ref cd), (1, .int (nI t))], [.ref q, .ref q, .int (nI w)], M)) rfl h_cd rfl rfl ?_
      refine ps_st (S' := (128, [(0, .ref cd), (1, .int (nI t))], [.ref cd, .ref q, .ref q, .int (nI w)], M)) rfl rfl rfl ?_
      refine ps_get (S' := (131, [(0, .ref cd), (1, .int (nI t))], [.ref on, .ref q, .ref q, .int (nI w)], M)) rfl h_cd rfl rfl ?_
      refine ps_get (S' := (134, [(0, .ref cd), (1, .int (nI t))], [.int (nI v), .ref q, .ref q, .int (nI w)], M)) rfl h_on rfl rfl ?_
      refine pl_call (a := [.ref q, .int (nI v)]) (rest := [.ref q, .int (nI w)]) rfl rfl rfl (dy_descriptorOf (f := f) (n := n) (N := N) (q := q) (E := E) (j := v) (hV) (hv)) (fun v13 M14 q15 => ?_)
      obtain ⟨rfl, rfl⟩ := q15
      show pl _ _ _ (137, [(0, .ref cd), (1, .int (nI t))], [.int (nI (se f E (se f E v))), .ref q, .int (nI w)], M) _
      have hse := se_lt f E (se f E v)
      refine pl_call (a := [.ref q, .int (nI (se f E (se f E v)))]) (rest := [.int (nI w)]) rfl rfl rfl (dy_argumentPlaces (f := f) (n := n) (N := N) (q := q) (E := E) (j := (se f E (se f E v))) (hV) (by omega)) (fun v16 M17 q18 => ?_)
      obtain ⟨rfl, rfl⟩ := q18
      show pl _ _ _ (140, [(0, .ref cd), (1, .int (nI t))], [.int (nI (argN (tX f n E (se f E (se f E v))))), .int (nI w)], M) _
      have hag := argN_lt (tX f n E (se f E (se f E v)))
      refine ps_st (S' := (141, [(0, .ref cd), (1, .int (nI t))], [.int 1, .int (nI (argN (tX f n E (se f E (se f E v))))), .int (nI w)], M)) rfl rfl rfl ?_
      refine ps_st (S' := (142, [(0, .ref cd), (1, .int (nI t))], [.int ((nI (argN (tX f n E (se f E (se f E v))))) + 1), .int (nI w)], M)) rfl rfl rfl ?_
      rw [nI_add1 (p := argN (tX f n E (se f E (se f E v)))) (k := 1) (x := 1) rfl (by omega)]
      show pl _ _ _ (_, [(0, .ref cd), (1, .int (nI t))], [.int (nI (argN (tX f n E (se f E (se f E v))) + 1)), .int (nI w)], M) _
      refine ps_if2 (S1 := (149, [], [], M)) (S2 := (145, [(0, .ref cd), (1, .int (nI t))], [], M)) rfl rfl rfl (fun c_142 => ?_) (fun c_142 => ?_)
      · have c_142 : ¬ (nI w) = (nI (argN (tX f n E (se f E (se f E v))) + 1)) := of_decide_eq_true c_142
        have n_142 : ¬ (w = argN (tX f n E (se f E (se f E v))) + 1) := fun h9 => c_142 ((eq_nI (p := w) (n := argN (tX f n E (se f E (se f E v))) + 1) (by omega) (by omega)).mpr h9)
        refine ps_st (S' := (150, [], [.int 0], M)) rfl rfl rfl ?_
        exact ps_ret rfl rfl (⟨congrArg (fun x => some (Value.int (nI x))) (show 0 = caN f n E mj o v w t from by unfold caN; first | ((repeat first | rw [if_pos (by omega)] | rw [if_neg (by omega)]) <;> first | rfl | omega) | ((repeat' split) <;> first | rfl | (exfalso; omega) | omega)), rfl⟩)
      · have c_142 : ¬ (¬ (nI w) = (nI (argN (tX f n E (se f E (se f E v))) + 1))) := of_decide_eq_false c_142
        have n_142 : w = argN (tX f n E (se f E (se f E v))) + 1 := (eq_nI (p := w) (n := argN (tX f n E (se f E (se f E v))) + 1) (by omega) (by omega)).mp (Decidable.not_not.mp c_142)
        refine ps_st (S' := (146, [(0, .ref cd), (1, .int (nI t))], [.int 1], M)) rfl rfl rfl ?_
        refine ps_st (S' := (150, [], [.int 1], M)) rfl rfl rfl ?_
        exact ps_ret rfl rfl (⟨congrArg (fun x => some (Value.int (nI x))) (show 1 = caN f n E mj o v w t from by unfold caN; first | ((repeat first | rw [if_pos (by omega)] | rw [if_neg (by omega)]) <;> first | rfl | omega) | ((repeat' split) <;> first | rfl | (exfalso; omega) | omega)), rfl⟩)
  · show pl _ _ _ (151, [(0, .ref cd), (1, .int (nI t))], [], M) _
    have m_7 := sw_nat (t := o) (by omega) et_7
    simp at m_7
    refine ps_st (S' := (152, [(0, .ref cd), (1, .int (nI t))], [.int (nI t)], M)) rfl rfl rfl ?_
    refine ps_st (S' := (154, [(0, .ref cd), (1, .int (nI t))], [.int 18, .int (nI t)], M)) rfl rfl rfl ?_
    refine ps_if2 (S1 := (161, [(0, .ref cd), (1, .int (nI t))], [], M)) (S2 := (157, [(0, .ref cd), (1, .int (nI t))], [], M)) rfl rfl rfl (fun c_154 => ?_) (fun c_154 => ?_)
    · have c_154 : ¬ (nI t) = 18 := of_decide_eq_true c_154
      have n_154 : ¬ (t = 18) := fun h9 => c_154 ((eq_nI (p := t) (n := 18) (by omega) (by decide)).mpr h9)
      refine ps_st (S' := (162, [], [.int 0], M)) rfl rfl rfl ?_
      exact ps_ret rfl rfl (⟨congrArg (fun x => some (Value.int (nI x))) (show 0 = caN f n E mj o v w t from by unfold caN; first | ((repeat first | rw [if_pos (by omega)] | rw [if_neg (by omega)]) <;> first | rfl | omega) | ((repeat' split) <;> first | rfl | (exfalso; omega) | omega)), rfl⟩)
    · have c_154 : ¬ (¬ (nI t) = 18) := of_decide_eq_false c_154
      have n_154 : t = 18 := (eq_nI (p := t) (n := 18) (by omega) (by decide)).mp (Decidable.not_not.mp c_154)
      refine ps_st (S' := (158, [(0, .ref cd), (1, .int (nI t))], [.int 1], M)) rfl rfl rfl ?_
      refine ps_st (S' := (162, [], [.int 1], M)) rfl rfl rfl ?_
      exact ps_ret rfl rfl (⟨congrArg (fun x => some (Value.int (nI x))) (show 1 = caN f n E mj o v w t from by unfold caN; first | ((repeat first | rw [if_pos (by omega)] | rw [if_neg (by omega)]) <;> first | rfl | omega) | ((repeat' split) <;> first | rfl | (exfalso; omega) | omega)), rfl⟩)
  · show pl _ _ _ (163, [(0, .ref cd), (1, .int (nI t))], [], M) _
    have m_7 := sw_nat (t := o) (by omega) et_7
    simp at m_7
    refine ps_st (S' := (164, [(0, .ref cd), (1, .int (nI t))], [.int 1], M)) rfl rfl rfl ?_
    exact ps_ret rfl rfl (⟨congrArg (fun x => some (Value.int (nI x))) (show 1 = caN f n E mj o v w t from by unfold caN; first | ((repeat first | rw [if_pos (by omega)] | rw [if_neg (by omega)]) <;> first | rfl | omega) | ((repeat' split) <;> first | rfl | (exfalso; omega) | omega)), rfl⟩)
set_option maxHeartbeats 1000000 in
theorem dk_operandsHold {g : xe_G} {M : mi_H} {f : Nat → Int32} {n N q : Nat} {E : List (Nat × Nat)} {cd on b cb L ml mj o v w lp : Nat} {c0 c2 c3 c4 y4 y8 y9 y10 y11 : Int32} {v8 v9 v10 : Value} (h_cd : M.1 cd = some (ob 4 [.int c0, .int (nI ml), .int c2, .int c3, .int c4, .ref q, .int (nI mj), .ref on, v8, v9, v10])) (h_on : M.1 on = some (ob 5 [.ref b, .int (nI cb), .int (nI L), .int (nI o), .int y4, .int (nI v), .int (nI w), .int (nI lp), .int y8, .int y9, .int y10, .int y11])) (hmj : mj < 65536) (hml : ml < 65536) (ho : o < 256) (hv : v < 65536) (hw : w < 65536) (hlp : lp < 3) (h0 : tg f E 0 = 0) (hCP : CP f n E) (hV : PV g f n N E q M) : pt (mT g) 82 [.ref cd] M (fun r9 M' => (r9 = some (.int (nI (ohN f n E mj ml o v w lp))) ∧ M = M')) := by
  refine pt_in (b := mb_82 g) rfl (fun kf => ?_)
  show pl (mT g) kf (mb_82 g).2 (0, [(0, .ref cd)], [], M) _
  refine ps_st (S' := (1, [(0, .ref cd)], [.ref cd], M)) rfl rfl rfl ?_
  refine ps_get (S' := (4, [(0, .ref cd)], [.ref on], M)) rfl h_cd rfl rfl ?_
  refine ps_get (S' := (7, [(0, .ref cd)], [.int (nI lp)], M)) rfl h_on rfl rfl ?_
  refine ps_if (S1 := (70, [(0, .ref cd)], [], M)) (S2 := (10, [(0, .ref cd)], [], M)) rfl rfl rfl (fun c_7 => ?_) (fun c_7 => ?_)
  · have c_7 : (nI lp) ≤ 0 := of_decide_eq_true c_7
    have n_7 : lp ≤ 0 := (le_nI (p := lp) (n := 0) (by omega) (by decide)).mp c_7
    refine ps_st (S' := (71, [(0, .ref cd)], [.ref cd], M)) rfl rfl rfl ?_
    refine ps_get (S' := (74, [(0, .ref cd)], [.ref on], M)) rfl h_cd rfl rfl ?_
    refine ps_get (S' := (77, [(0, .ref cd)], [.int (nI o)], M)) rfl h_on rfl rfl ?_
    refine pl_sw rfl (fun t_77 et_77 => ?_)
    have ht_77 : t_77 ∈ [192, 207, 236, 255, 274, 299, 314, 359, 384, 444] := mi_sw_sub et_77 (by decide)
    simp only [List.mem_cons, List.not_mem_nil, or_false] at ht_77
    rcases ht_77 with rfl | rfl | rfl | rfl | rfl | rfl | rfl | rfl | rfl | rfl
    · show pl _ _ _ (192, [(0, .ref cd)], [], M) _
      have m_77 := sw_nat (t := o) (by omega) et_77
      simp at m_77
      refine ps_st (S' := (193, [(0, .ref cd)], [.ref cd], M)) rfl rfl rfl ?_
      refine ps_get (S' := (196, [(0, .ref cd)], [.int (nI mj)], M)) rfl h_cd rfl rfl ?_
      refine ps_st (S' := (198, [(0, .ref cd)], [.int 51, .int (nI mj)], M)) rfl rfl rfl ?_
      refine ps_if2 (S1 := (205, [(0, .ref cd)], [], M)) (S2 := (201, [(0, .ref cd)], [], M)) rfl rfl rfl (fun c_198 => ?_) (fun c_198 => ?_)
      · have c_198 : 51 ≤ (nI mj) := of_decide_eq_true c_198
        have n_198 : 51 ≤ mj := (le_nI (p := 51) (n := mj) (by decide) (by omega)).mp c_198
        refine ps_st (S' := (206, [], [.int 0], M)) rfl rfl rfl ?_
        exact ps_ret rfl rfl (⟨congrArg (fun x => some (Value.int (nI x))) (show 0 = ohN f n E mj ml o v w lp from by unfold ohN; first | ((repeat first | rw [if_pos (by omega)] | rw [if_neg (by omega)]) <;> first | rfl | omega) | ((repeat' split) <;> first | rfl | (exfalso; omega) | omega)), rfl⟩)
      · have c_198 : ¬ (51 ≤ (nI mj)) := of_decide_eq_false c_198
        have n_198 : ¬ (51 ≤ mj) := fun h9 => c_198 ((le_nI (p := 51) (n := mj) (by decide) (by omega)).mpr h9)
        refine ps_st (S' := (202, [(0, .ref cd)], [.int 1], M)) rfl rfl rfl ?_
        refine ps_st (S' := (206, [], [.int 1], M)) rfl rfl rfl ?_
        exact ps_ret rfl rfl (⟨congrArg (fun x => some (Value.int (nI x))) (show 1 = ohN f n E mj ml o v w lp from by unfold ohN; first | ((repeat first | rw [if_pos (by omega)] | rw [if_neg (by omega)]) <;> first | rfl | omega) | ((repeat' split) <;> first | rfl | (exfalso; omega) | omega)), rfl⟩)
    · show pl _ _ _ (207, [(0, .ref cd)], [], M) _
      have m_77 := sw_nat (t := o) (by omega) et_77
      simp at m_77
      refine ps_st (S' := (208, [(0, .ref cd)], [.ref cd], M)) rfl rfl rfl ?_
      refine ps_get (S' := (211, [(0, .ref cd)], [.ref on], M)) rfl h_cd rfl rfl ?_
      refine ps_get (S' := (214, [(0, .ref cd)], [.int (nI v)], M)) rfl h_on rfl rfl ?_
      refine ps_st (S' := (215, [(0, .ref cd)], [.int 4, .int (nI v)], M)) rfl rfl rfl ?_
      refine ps_if2 (S1 := (234, [], [], M)) (S2 := (218, [(0, .ref cd)], [], M)) rfl rfl rfl (fun c_215 => ?_) (fun c_215 => ?_)
      · have c_215 : (nI v) < 4 := of_decide_eq_true c_215
        have n_215 : v < 4 := (lt_nI (p := v) (n := 4) (by omega) (by decide)).mp c_215
        refine ps_st (S' := (235, [], [.int 0], M)) rfl rfl rfl ?_
        exact ps_ret rfl rfl (⟨congrArg (fun x => some (Value.int (nI x))) (show 0 = ohN f n E mj ml o v w lp from by unfold ohN; first | ((repeat first | rw [if_pos (by omega)] | rw [if_neg (by omega)]) <;> first | rfl | omega) | ((repeat' split) <;> first | rfl | (exfalso; omega) | omega)), rfl⟩)
      · have c_215 : ¬ ((nI v) < 4) := of_decide_eq_false c_215
        have n_215 : ¬ (v < 4) := fun h9 => c_215 ((lt_nI (p := v) (n := 4) (by omega) (by decide)).mpr h9)
        refine ps_st (S' := (219, [(0, .ref cd)], [.ref cd], M)) rfl rfl rfl ?_
        refine ps_get (S' := (222, [(0, .ref cd)], [.ref on], M)) rfl h_cd rfl rfl ?_
        refine ps_get (S' := (225, [(0, .ref cd)], [.int (nI v)], M)) rfl h_on rfl rfl ?_
        refine ps_st (S' := (227, [(0, .ref cd)], [.int 11, .int (nI v)], M)) rfl rfl rfl ?_
        refine ps_if2 (S1 := (234, [], [], M)) (S2 := (230, [(0, .ref cd)], [], M)) rfl rfl rfl (fun c_227 => ?_) (fun c_227 => ?_)
        · have c_227 : 11 < (nI v) := of_decide_eq_true c_227
          have n_227 : 11 < v := (lt_nI (p := 11) (n := v) (by decide) (by omega)).mp c_227
          refine ps_st (S' := (235, [], [.int 0], M)) rfl rfl rfl ?_
          exact ps_ret rfl rfl (⟨congrArg (fun x => some (Value.int (nI x))) (show 0 = ohN f n E mj ml o v w lp from by unfold ohN; first | ((repeat first | rw [if_pos (by omega)] | rw [if_neg (by omega)]) <;> first | rfl | omega) | ((repeat' split) <;> first | rfl | (exfalso; omega) | omega)), rfl⟩)
        · have c_227 : ¬ (11 < (nI v)) := of_decide_eq_false c_227
          have n_227 : ¬ (11 < v) := fun h9 => c_227 ((lt_nI (p := 11) (n := v) (by decide) (by omega)).mpr h9)
          refine ps_st (S' := (231, [(0, .ref cd)], [.int 1], M)) rfl rfl rfl ?_
          refine ps_st (S' := (235, [], [.int 1], M)) rfl rfl rfl ?_
          exact ps_ret rfl rfl (⟨congrArg (fun x => some (Value.int (nI x))) (show 1 = ohN f n E mj ml o v w lp from by unfold ohN; first | ((repeat first | rw [if_pos (by omega)] | rw [if_neg (by omega)]) <;> first | rfl | omega) | ((repeat' split) <;> first | rfl | (exfalso; omega) | omega)), rfl⟩)
    · show pl _ _ _ (236, [(0, .ref cd)], [], M) _
      have m_77 := sw_nat (t := o) (by omega) et_77
      simp at m_77
      refine ps_st (S' := (237, [(0, .ref cd)], [.ref cd], M)) rfl rfl rfl ?_
      refine ps_st (S' := (238, [(0, .ref cd)], [.ref cd, .ref cd], M)) rfl rfl rfl ?_
      refine ps_get (S' := (241, [(0, .ref cd)], [.ref q, .ref cd], M)) rfl h_cd rfl rfl ?_
      refine ps_st (S' := (242, [(0, .ref cd)], [.ref cd, .ref q, .ref cd], M)) rfl rfl rfl ?_
      refine ps_get (S' := (245, [(0, .ref cd)], [.ref on, .ref q, .ref cd], M)) rfl h_cd rfl rfl ?_
      refine ps_get (S' := (248, [(0, .ref cd)], [.int (nI v), .ref q, .ref cd], M)) rfl h_on rfl rfl ?_
      refine pl_call (a := [.ref q, .int (nI v)]) (rest := [.ref cd]) rfl rfl rfl (dy_tagOf (f := f) (n := n) (N := N) (q := q) (E := E) (j := v) (hV) (hv)) (fun v1 M2 q3 => ?_)
      obtain ⟨rfl, rfl⟩ := q3
      show pl _ _ _ (251, [(0, .ref cd)], [.int (nI (tg f E v)), .ref cd], M) _
      have htg := tg_lt f E v
      refine pl_call (a := [.ref cd, .int (nI (tg f E v))]) (rest := []) rfl rfl rfl (dk_isLoadedByLdc (f := f) (n := n) (N := N) (q := q) (E := E) (cd := cd) (on := on) (b := b) (cb := cb) (L := L) (ml := ml) (mj := mj) (o := o) (v := v) (w := w) (lp := lp) (c0 := c0) (c2 := c2) (c3 := c3) (c4 := c4) (y4 := y4) (y8 := y8) (y9 := y9) (y10 := y10) (y11 := y11) (v8 := v8) (v9 := v9) (v10 := v10) (t := (tg f E v)) h_cd h_on (hmj) (hml) (ho) (hv) (hw) (hlp) (h0) (hCP) (hV) (tg_lt _ _ _)) (fun v4 M5 q6 => ?_)
      obtain ⟨rfl, rfl⟩ := q6
      show pl _ _ _ (254, [(0, .ref cd)], [.int (nI (ld1N f n E mj v (tg f E v)))], M) _
      exact ps_reti rfl (⟨congrArg (fun x => some (Value.int (nI x))) (show ld1N f n E mj v (tg f E v) = ohN f n E mj ml o v w lp from by unfold ohN; first | ((repeat first | rw [if_pos (by omega)] | rw [if_neg (by omega)]) <;> first | rfl | omega) | ((repeat' split) <;> first | rfl | (exfalso; omega) | omega)), rfl⟩)
    · show pl _ _ _ (255, [(0, .ref cd)], [], M) _
      have m_77 := sw_nat (t := o) (by omega) et_77
      simp at m_77
      refine ps_st (S' := (256, [(0, .ref cd)], [.ref cd], M)) rfl rfl rfl ?_
      refine ps_st (S' := (257, [(0, .ref cd)], [.ref cd, .ref cd], M)) rfl rfl rfl ?_
      refine ps_get (S' := (260, [(0, .ref cd)], [.ref q, .ref cd], M)) rfl h_cd rfl rfl ?_
      refine ps_st (S' := (261, [(0, .ref cd)], [.ref cd, .ref q, .ref cd], M)) rfl rfl rfl ?_
      refine ps_get (S' := (264, [(0, .ref cd)], [.ref on, .ref q, .ref cd], M)) rfl h_cd rfl rfl ?_
      refine ps_get (S' := (267, [(0, .ref cd)], [.int (nI v), .ref q, .ref cd], M)) rfl h_on rfl rfl ?_
      refine pl_call (a := [.ref q, .int (nI v)]) (rest := [.ref cd]) rfl rfl rfl (dy_tagOf (f := f) (n := n) (N := N) (q := q) (E := E) (j := v) (hV) (hv)) (fun v7 M8 q9 => ?_)
      obtain ⟨rfl, rfl⟩ := q9
      show pl _ _ _ (270, [(0, .ref cd)], [.int (nI (tg f E v)), .ref cd], M) _
      have htg := tg_lt f E v
      refine pl_call (a := [.ref cd, .int (nI (tg f E v))]) (rest := []) rfl rfl rfl (dk_isOfTwoPlaces (f := f) (n := n) (N := N) (q := q) (E := E) (cd := cd) (on := on) (b := b) (cb := cb) (L := L) (ml := ml) (mj := mj) (o := o) (v := v) (w := w) (lp := lp) (c0 := c0) (c2 := c2) (c3 := c3) (c4 := c4) (y4 := y4) (y8 := y8) (y9 := y9) (y10 := y10) (y11 := y11) (v8 := v8) (v9 := v9) (v10 := v10) (t := (tg f E v)) h_cd h_on (hmj) (hml) (ho) (hv) (hw) (hlp) (h0) (hCP) (hV) (tg_lt _ _ _)) (fun v10 M11 q12 => ?_)
      obtain ⟨rfl, rfl⟩ := q12
      show pl _ _ _ (273, [(0, .ref cd)], [.int (nI (ld2N f n E v (tg f E v)))], M) _
      exact ps_reti rfl (⟨congrArg (fun x => some (Value.int (nI x))) (show ld2N f n E v (tg f E v) = ohN f n E mj ml o v w lp from by unfold ohN; first | ((repeat first | rw [if_pos (by omega)] | rw [if_neg (by omega)]) <;> first | rfl | omega) | ((repeat' split) <;> first | rfl | (exfalso; omega) | omega)), rfl⟩)
    · show pl _ _ _ (274, [(0, .ref cd)], [], M) _
      have m_77 := sw_nat (t := o) (by omega) et_77
      simp at m_77
      refine ps_st (S' := (275, [(0, .ref cd)], [.ref cd], M)) rfl rfl rfl ?_
      refine ps_get (S' := (278, [(0, .ref cd)], [.ref q], M)) rfl h_cd rfl rfl ?_
      refine ps_st (S' := (279, [(0, .ref cd)], [.ref cd, .ref q], M)) rfl rfl rfl ?_
      refine ps_get (S' := (282, [(0, .ref cd)], [.ref on, .ref q], M)) rfl h_cd rfl rfl ?_
      refine ps_get (S' := (285, [(0, .ref cd)], [.int (nI v), .ref q], M)) rfl h_on rfl rfl ?_
      refine pl_call (a := [.ref q, .int (nI v)]) (rest := []) rfl rfl rfl (dy_tagOf (f := f) (n := n) (N := N) (q := q) (E := E) (j := v) (hV) (hv)) (fun v13 M14 q15 => ?_)
      obtain ⟨rfl, rfl⟩ := q15
      show pl _ _ _ (288, [(0, .ref cd)], [.int (nI (tg f E v))], M) _
      have htg := tg_lt f E v
      refine ps_st (S' := (290, [(0, .ref cd)], [.int 9, .int (nI (tg f E v))], M)) rfl rfl rfl ?_
      refine ps_if2 (S1 := (297, [(0, .ref cd)], [], M)) (S2 := (293, [(0, .ref cd)], [], M)) rfl rfl rfl (fun c_290 => ?_) (fun c_290 => ?_)
      · have c_290 : ¬ (nI (tg f E v)) = 9 := of_decide_eq_true c_290
        have n_290 : ¬ (tg f E v = 9) := fun h9 => c_290 ((eq_nI (p := tg f E v) (n := 9) (Nat.lt_trans (tg_lt _ _ _) (by decide)) (by decide)).mpr h9)
        refine ps_st (S' := (298, [], [.int 0], M)) rfl rfl rfl ?_
        exact ps_ret rfl rfl (⟨congrArg (fun x => some (Value.int (nI x))) (show 0 = ohN f n E mj ml o v w lp from by unfold ohN; first | ((repeat first | rw [if_pos (by omega)] | rw [if_neg (by omega)]) <;> first | rfl | omega) | ((repeat' split) <;> first | rfl | (exfalso; omega) | omega)), rfl⟩)
      · have c_290 : ¬ (¬ (nI (tg f E v)) = 9) := of_decide_eq_false c_290
        have n_290 : tg f E v = 9 := (eq_nI (p := tg f E v) (n := 9) (Nat.lt_trans (tg_lt _ _ _) (by decide)) (by decide)).mp (Decidable.not_not.mp c_290)
        refine ps_st (S' := (294, [(0, .ref cd)], [.int 1], M)) rfl rfl rfl ?_
        refine ps_st (S' := (298, [], [.int 1], M)) rfl rfl rfl ?_
        exact ps_ret rfl rfl (⟨congrArg (fun x => some (Value.int (nI x))) (show 1 = ohN f n E mj ml o v w lp from by unfold ohN; first | ((repeat first | rw [if_pos (by omega)] | rw [if_neg (by omega)]) <;> first | rfl | omega) | ((repeat' split) <;> first | rfl | (exfalso; omega) | omega)), rfl⟩)
    · show pl _ _ _ (299, [(0, .ref cd)], [], M) _
      have m_77 := sw_nat (t := o) (by omega) et_77
      simp at m_77
      refine ps_st (S' := (300, [(0, .ref cd)], [.ref cd], M)) rfl rfl rfl ?_
      refine ps_get (S' := (303, [(0, .ref cd)], [.ref q], M)) rfl h_cd rfl rfl ?_
      refine ps_st (S' := (304, [(0, .ref cd)], [.ref cd, .ref q], M)) rfl rfl rfl ?_
      refine ps_get (S' := (307, [(0, .ref cd)], [.ref on, .ref q], M)) rfl h_cd rfl rfl ?_
      refine ps_get (S' := (310, [(0, .ref cd)], [.int (nI v), .ref q], M)) rfl h_on rfl rfl ?_
      refine pl_call (a := [.ref q, .int (nI v)]) (rest := []) rfl rfl rfl (dy_isPlainClass (f := f) (n := n) (N := N) (q := q) (E := E) (j := v) (hV) (hv)) (fun v16 M17 q18 => ?_)
      obtain ⟨rfl, rfl⟩ := q18
      show pl _ _ _ (313, [(0, .ref cd)], [.int (nI (plnN f n E v))], M) _
      exact ps_reti rfl (⟨congrArg (fun x => some (Value.int (nI x))) (show plnN f n E v = ohN f n E mj ml o v w lp from by unfold ohN; first | ((repeat first | rw [if_pos (by omega)] | rw [if_neg (by omega)]) <;> first | rfl | omega) | ((repeat' split) <;> first | rfl | (exfalso; omega) | omega)), rfl⟩)
    · show pl _ _ _ (314, [(0, .ref cd)], [], M) _
      have m_77 := sw_nat (t := o) (by omega) et_77
      simp at m_77
      refine ps_st (S' := (315, [(0, .ref cd)], [.ref cd], M)) rfl rfl rfl ?_
      refine ps_get (S' := (318, [(0, .ref cd)], [.ref q], M)) rfl h_cd rfl rfl ?_
      refine ps_st (S' := (319, [(0, .ref cd)], [.ref cd, .ref q], M)) rfl rfl rfl ?_
      refine ps_get (S' := (322, [(0, .ref cd)], [.ref on, .ref q], M)) rfl h_cd rfl rfl ?_
      refine ps_get (S' := (325, [(0, .ref cd)], [.int (nI v), .ref q], M)) rfl h_on rfl rfl ?_
      refine pl_call (a := [.ref q, .int (nI v)]) (rest := []) rfl rfl rfl (dy_tagOf (f := f) (n := n) (N := N) (q := q) (E := E) (j := v) (hV) (hv)) (fun v19 M20 q21 => ?_)
      obtain ⟨rfl, rfl⟩ := q21
      show pl _ _ _ (328, [(0, .ref cd)], [.int (nI (tg f E v))], M) _
      have htg := tg_lt f E v
      refine ps_st (S' := (330, [(0, .ref cd)], [.int 7, .int (nI (tg f E v))], M)) rfl rfl rfl ?_
      refine ps_if2 (S1 := (357, [], [], M)) (S2 := (333, [(0, .ref cd)], [], M)) rfl rfl rfl (fun c_330 => ?_) (fun c_330 => ?_)
      · have c_330 : ¬ (nI (tg f E v)) = 7 := of_decide_eq_true c_330
        have n_330 : ¬ (tg f E v = 7) := fun h9 => c_330 ((eq_nI (p := tg f E v) (n := 7) (Nat.lt_trans (tg_lt _ _ _) (by decide)) (by decide)).mpr h9)
        refine ps_st (S' := (358, [], [.int 0], M)) rfl rfl rfl ?_
        exact ps_ret rfl rfl (⟨congrArg (fun x => some (Value.int (nI x))) (show 0 = ohN f n E mj ml o v w lp from by unfold ohN; first | ((repeat first | rw [if_pos (by omega)] | rw [if_neg (by omega)]) <;> first | rfl | omega) | ((repeat' split) <;> first | rfl | (exfalso; omega) | omega)), rfl⟩)
      · have c_330 : ¬ (¬ (nI (tg f E v)) = 7) := of_decide_eq_false c_330
        have n_330 : tg f E v = 7 := (eq_nI (p := tg f E v) (n := 7) (Nat.lt_trans (tg_lt _ _ _) (by decide)) (by decide)).mp (Decidable.not_not.mp c_330)
        refine ps_st (S' := (334, [(0, .ref cd)], [.ref cd], M)) rfl rfl rfl ?_
        refine ps_get (S' := (337, [(0, .ref cd)], [.ref q], M)) rfl h_cd rfl rfl ?_
        refine ps_st (S' := (338, [(0, .ref cd)], [.ref cd, .ref q], M)) rfl rfl rfl ?_
        refine ps_get (S' := (341, [(0, .ref cd)], [.ref on, .ref q], M)) rfl h_cd rfl rfl ?_
        refine ps_get (S' := (344, [(0, .ref cd)], [.int (nI v), .ref q], M)) rfl h_on rfl rfl ?_
        refine pl_call (a := [.ref q, .int (nI v)]) (rest := []) rfl rfl rfl (dy_dimensionsOf (f := f) (n := n) (N := N) (q := q) (E := E) (j := v) (hV) (hv) ((hCP v (by omega)).1)) (fun v22 M23 q24 => ?_)
        obtain ⟨rfl, rfl⟩ := q24
        show pl _ _ _ (347, [(0, .ref cd)], [.int (nI (dmN (tX f n E (fi f E v))))], M) _
        have hdl := dm_le (tX f n E (fi f E v))
        have hdx := tx_len f n E (fi f E v)
        refine ps_st (S' := (350, [(0, .ref cd)], [.int 255, .int (nI (dmN (tX f n E (fi f E v))))], M)) rfl rfl rfl ?_
        refine ps_if2 (S1 := (357, [], [], M)) (S2 := (353, [(0, .ref cd)], [], M)) rfl rfl rfl (fun c_350 => ?_) (fun c_350 => ?_)
        · have c_350 : 255 ≤ (nI (dmN (tX f n E (fi f E v)))) := of_decide_eq_true c_350
          have n_350 : 255 ≤ dmN (tX f n E (fi f E v)) := (le_nI (p := 255) (n := dmN (tX f n E (fi f E v))) (by decide) (by omega)).mp c_350
          refine ps_st (S' := (358, [], [.int 0], M)) rfl rfl rfl ?_
          exact ps_ret rfl rfl (⟨congrArg (fun x => some (Value.int (nI x))) (show 0 = ohN f n E mj ml o v w lp from by unfold ohN; first | ((repeat first | rw [if_pos (by omega)] | rw [if_neg (by omega)]) <;> first | rfl | omega) | ((repeat' split) <;> first | rfl | (exfalso; omega) | omega)), rfl⟩)
        · have c_350 : ¬ (255 ≤ (nI (dmN (tX f n E (fi f E v))))) := of_decide_eq_false c_350
          have n_350 : ¬ (255 ≤ dmN (tX f n E (fi f E v))) := fun h9 => c_350 ((le_nI (p := 255) (n := dmN (tX f n E (fi f E v))) (by decide) (by omega)).mpr h9)
          refine ps_st (S' := (354, [(0, .ref cd)], [.int 1], M)) rfl rfl rfl ?_
          refine ps_st (S' := (358, [], [.int 1], M)) rfl rfl rfl ?_
          exact ps_ret rfl rfl (⟨congrArg (fun x => some (Value.int (nI x))) (show 1 = ohN f n E mj ml o v w lp from by unfold ohN; first | ((repeat first | rw [if_pos (by omega)] | rw [if_neg (by omega)]) <;> first | rfl | omega) | ((repeat' split) <;> first | rfl | (exfalso; omega) | omega)), rfl⟩)
    · show pl _ _ _ (359, [(0, .ref cd)], [], M) _
      have m_77 := sw_nat (t := o) (by omega) et_77
      simp at m_77
      refine ps_st (S' := (360, [(0, .ref cd)], [.ref cd], M)) rfl rfl rfl ?_
      refine ps_get (S' := (363, [(0, .ref cd)], [.ref q], M)) rfl h_cd rfl rfl ?_
      refine ps_st (S' := (364, [(0, .ref cd)], [.ref cd, .ref q], M)) rfl rfl rfl ?_
      refine ps_get (S' := (367, [(0, .ref cd)], [.ref on, .ref q], M)) rfl h_cd rfl rfl ?_
      refine ps_get (S' := (370, [(0, .ref cd)], [.int (nI v), .ref q], M)) rfl h_on rfl rfl ?_
      refine pl_call (a := [.ref q, .int (nI v)]) (rest := []) rfl rfl rfl (dy_tagOf (f := f) (n := n) (N := N) (q := q) (E := E) (j := v) (hV) (hv)) (fun v25 M26 q27 => ?_)
      obtain ⟨rfl, rfl⟩ := q27
      show pl _ _ _ (373, [(0, .ref cd)], [.int (nI (tg f E v))], M) _
      have htg := tg_lt f E v
      refine ps_st (S' := (375, [(0, .ref cd)], [.int 7, .int (nI (tg f E v))], M)) rfl rfl rfl ?_
      refine ps_if2 (S1 := (382, [(0, .ref cd)], [], M)) (S2 := (378, [(0, .ref cd)], [], M)) rfl rfl rfl (fun c_375 => ?_) (fun c_375 => ?_)
      · have c_375 : ¬ (nI (tg f E v)) = 7 := of_decide_eq_true c_375
        have n_375 : ¬ (tg f E v = 7) := fun h9 => c_375 ((eq_nI (p := tg f E v) (n := 7) (Nat.lt_trans (tg_lt _ _ _) (by decide)) (by decide)).mpr h9)
        refine ps_st (S' := (383, [], [.int 0], M)) rfl rfl rfl ?_
        exact ps_ret rfl rfl (⟨congrArg (fun x => some (Value.int (nI x))) (show 0 = ohN f n E mj ml o v w lp from by unfold ohN; first | ((repeat first | rw [if_pos (by omega)] | rw [if_neg (by omega)]) <;> first | rfl | omega) | ((repeat' split) <;> first | rfl | (exfalso; omega) | omega)), rfl⟩)
      · have c_375 : ¬ (¬ (nI (tg f E v)) = 7) := of_decide_eq_false c_375
        have n_375 : tg f E v = 7 := (eq_nI (p := tg f E v) (n := 7) (Nat.lt_trans (tg_lt _ _ _) (by decide)) (by decide)).mp (Decidable.not_not.mp c_375)
        refine ps_st (S' := (379, [(0, .ref cd)], [.int 1], M)) rfl rfl rfl ?_
        refine ps_st (S' := (383, [], [.int 1], M)) rfl rfl rfl ?_
        exact ps_ret rfl rfl (⟨congrArg (fun x => some (Value.int (nI x))) (show 1 = ohN f n E mj ml o v w lp from by unfold ohN; first | ((repeat first | rw [if_pos (by omega)] | rw [if_neg (by omega)]) <;> first | rfl | omega) | ((repeat' split) <;> first | rfl | (exfalso; omega) | omega)), rfl⟩)
    · show pl _ _ _ (384, [(0, .ref cd)], [], M) _
      have m_77 := sw_nat (t := o) (by omega) et_77
      simp at m_77
      refine ps_st (S' := (385, [(0, .ref cd)], [.ref cd], M)) rfl rfl rfl ?_
      refine ps_get (S' := (388, [(0, .ref cd)], [.ref q], M)) rfl h_cd rfl rfl ?_
      refine ps_st (S' := (389, [(0, .ref cd)], [.ref cd, .ref q], M)) rfl rfl rfl ?_
      refine ps_get (S' := (392, [(0, .ref cd)], [.ref on, .ref q], M)) rfl h_cd rfl rfl ?_
      refine ps_get (S' := (395, [(0, .ref cd)], [.int (nI v), .ref q], M)) rfl h_on rfl rfl ?_
      refine pl_call (a := [.ref q, .int (nI v)]) (rest := []) rfl rfl rfl (dy_tagOf (f := f) (n := n) (N := N) (q := q) (E := E) (j := v) (hV) (hv)) (fun v28 M29 q30 => ?_)
      obtain ⟨rfl, rfl⟩ := q30
      show pl _ _ _ (398, [(0, .ref cd)], [.int (nI (tg f E v))], M) _
      have htg := tg_lt f E v
      refine ps_st (S' := (400, [(0, .ref cd)], [.int 7, .int (nI (tg f E v))], M)) rfl rfl rfl ?_
      refine ps_if2 (S1 := (442, [], [], M)) (S2 := (403, [(0, .ref cd)], [], M)) rfl rfl rfl (fun c_400 => ?_) (fun c_400 => ?_)
      · have c_400 : ¬ (nI (tg f E v)) = 7 := of_decide_eq_true c_400
        have n_400 : ¬ (tg f E v = 7) := fun h9 => c_400 ((eq_nI (p := tg f E v) (n := 7) (Nat.lt_trans (tg_lt _ _ _) (by decide)) (by decide)).mpr h9)
        refine ps_st (S' := (443, [], [.int 0], M)) rfl rfl rfl ?_
        exact ps_ret rfl rfl (⟨congrArg (fun x => some (Value.int (nI x))) (show 0 = ohN f n E mj ml o v w lp from by unfold ohN; first | ((repeat first | rw [if_pos (by omega)] | rw [if_neg (by omega)]) <;> first | rfl | omega) | ((repeat' split) <;> first | rfl | (exfalso; omega) | omega)), rfl⟩)
      · have c_400 : ¬ (¬ (nI (tg f E v)) = 7) := of_decide_eq_false c_400
        have n_400 : tg f E v = 7 := (eq_nI (p := tg f E v) (n := 7) (Nat.lt_trans (tg_lt _ _ _) (by decide)) (by decide)).mp (Decidable.not_not.mp c_400)
        refine ps_st (S' := (404, [(0, .ref cd)], [.ref cd], M)) rfl rfl rfl ?_
        refine ps_get (S' := (407, [(0, .ref cd)], [.ref on], M)) rfl h_cd rfl rfl ?_
        refine ps_get (S' := (410, [(0, .ref cd)], [.int (nI w)], M)) rfl h_on rfl rfl ?_
        refine ps_st (S' := (411, [(0, .ref cd)], [.int 1, .int (nI w)], M)) rfl rfl rfl ?_
        refine ps_if2 (S1 := (442, [], [], M)) (S2 := (414, [(0, .ref cd)], [], M)) rfl rfl rfl (fun c_411 => ?_) (fun c_411 => ?_)
        · have c_411 : (nI w) < 1 := of_decide_eq_true c_411
          have n_411 : w < 1 := (lt_nI (p := w) (n := 1) (by omega) (by decide)).mp c_411
          refine ps_st (S' := (443, [], [.int 0], M)) rfl rfl rfl ?_
          exact ps_ret rfl rfl (⟨congrArg (fun x => some (Value.int (nI x))) (show 0 = ohN f n E mj ml o v w lp from by unfold ohN; first | ((repeat first | rw [if_pos (by omega)] | rw [if_neg (by omega)]) <;> first | rfl | omega) | ((repeat' split) <;> first | rfl | (exfalso; omega) | omega)), rfl⟩)
        · have c_411 : ¬ ((nI w) < 1) := of_decide_eq_false c_411
          have n_411 : ¬ (w < 1) := fun h9 => c_411 ((lt_nI (p := w) (n := 1) (by omega) (by decide)).mpr h9)
          refine ps_st (S' := (415, [(0, .ref cd)], [.ref cd], M)) rfl rfl rfl ?_
          refine ps_get (S' := (418, [(0, .ref cd)], [.ref on], M)) rfl h_cd rfl rfl ?_
          refine ps_get (S' := (421, [(0, .ref cd)], [.int (nI w)], M)) rfl h_on rfl rfl ?_
          refine ps_st (S' := (422, [(0, .ref cd)], [.ref cd, .int (nI w)], M)) rfl rfl rfl ?_
          refine ps_get (S' := (425, [(0, .ref cd)], [.ref q, .int (nI w)], M)) rfl h_cd rfl rfl ?_
          refine ps_st (S' := (426, [(0, .ref cd)], [.ref cd, .ref q, .int (nI w)], M)) rfl rfl rfl ?_
          refine ps_get (S' := (429, [(0, .ref cd)], [.ref on, .ref q, .int (nI w)], M)) rfl h_cd rfl rfl ?_
          refine ps_get (S' := (432, [(0, .ref cd)], [.int (nI v), .ref q, .int (nI w)], M)) rfl h_on rfl rfl ?_
          refine pl_call (a := [.ref q, .int (nI v)]) (rest := [.int (nI w)]) rfl rfl rfl (dy_dimensionsOf (f := f) (n := n) (N := N) (q := q) (E := E) (j := v) (hV) (hv) ((hCP v (by omega)).1)) (fun v31 M32 q33 => ?_)
          obtain ⟨rfl, rfl⟩ := q33
          show pl _ _ _ (435, [(0, .ref cd)], [.int (nI (dmN (tX f n E (fi f E v)))), .int (nI w)], M) _
          have hdl := dm_le (tX f n E (fi f E v))
          have hdx := tx_len f n E (fi f E v)
          refine ps_if2 (S1 := (442, [], [], M)) (S2 := (438, [(0, .ref cd)], [], M)) rfl rfl rfl (fun c_435 => ?_) (fun c_435 => ?_)
          · have c_435 : (nI (dmN (tX f n E (fi f E v)))) < (nI w) := of_decide_eq_true c_435
            have n_435 : dmN (tX f n E (fi f E v)) < w := (lt_nI (p := dmN (tX f n E (fi f E v))) (n := w) (by omega) (by omega)).mp c_435
            refine ps_st (S' := (443, [], [.int 0], M)) rfl rfl rfl ?_
            exact ps_ret rfl rfl (⟨congrArg (fun x => some (Value.int (nI x))) (show 0 = ohN f n E mj ml o v w lp from by unfold ohN; first | ((repeat first | rw [if_pos (by omega)] | rw [if_neg (by omega)]) <;> first | rfl | omega) | ((repeat' split) <;> first | rfl | (exfalso; omega) | omega)), rfl⟩)
          · have c_435 : ¬ ((nI (dmN (tX f n E (fi f E v)))) < (nI w)) := of_decide_eq_false c_435
            have n_435 : ¬ (dmN (tX f n E (fi f E v)) < w) := fun h9 => c_435 ((lt_nI (p := dmN (tX f n E (fi f E v))) (n := w) (by omega) (by omega)).mpr h9)
            refine ps_st (S' := (439, [(0, .ref cd)], [.int 1], M)) rfl rfl rfl ?_
            refine ps_st (S' := (443, [], [.int 1], M)) rfl rfl rfl ?_
            exact ps_ret rfl rfl (⟨congrArg (fun x => some (Value.int (nI x))) (show 1 = ohN f n E mj ml o v w lp from by unfold ohN; first | ((repeat first | rw [if_pos (by omega)] | rw [if_neg (by omega)]) <;> first | rfl | omega) | ((repeat' split) <;> first | rfl | (exfalso; omega) | omega)), rfl⟩)
    · show pl _ _ _ (444, [(0, .ref cd)], [], M) _
      have m_77 := sw_nat (t := o) (by omega) et_77
      simp at m_77
      refine ps_st (S' := (445, [(0, .ref cd)], [.ref cd], M)) rfl rfl rfl ?_
      refine ps_st (S' := (446, [(0, .ref cd)], [.ref cd, .ref cd], M)) rfl rfl rfl ?_
      refine ps_get (S' := (449, [(0, .ref cd)], [.ref q, .ref cd], M)) rfl h_cd rfl rfl ?_
      refine ps_st (S' := (450, [(0, .ref cd)], [.ref cd, .ref q, .ref cd], M)) rfl rfl rfl ?_
      refine ps_get (S' := (453, [(0, .ref cd)], [.ref on, .ref q, .ref cd], M)) rfl h_cd rfl rfl ?_
      refine ps_get (S' := (456, [(0, .ref cd)], [.int (nI v), .ref q, .ref cd], M)) rfl h_on rfl rfl ?_
      refine pl_call (a := [.ref q, .int (nI v)]) (rest := [.ref cd]) rfl rfl rfl (dy_tagOf (f := f) (n := n) (N := N) (q := q) (E := E) (j := v) (hV) (hv)) (fun v34 M35 q36 => ?_)
      obtain ⟨rfl, rfl⟩ := q36
      show pl _ _ _ (459, [(0, .ref cd)], [.int (nI (tg f E v)), .ref cd], M) _
      have htg := tg_lt f E v
      refine pl_call (a := [.ref cd, .int (nI (tg f E v))]) (rest := []) rfl rfl rfl (dk_callHolds (f := f) (n := n) (N := N) (q := q) (E := E) (cd := cd) (on := on) (b := b) (cb := cb) (L := L) (ml := ml) (mj := mj) (o := o) (v := v) (w := w) (lp := lp) (c0 := c0) (c2 := c2) (c3 := c3) (c4 := c4) (y4 := y4) (y8 := y8) (y9 := y9) (y10 := y10) (y11 := y11) (v8 := v8) (v9 := v9) (v10 := v10) (t := (tg f E v)) h_cd h_on (hmj) (hml) (ho) (hv) (hw) (hlp) (h0) (hCP) (hV) (tg_lt _ _ _)) (fun v37 M38 q39 => ?_)
      obtain ⟨rfl, rfl⟩ := q39
      show pl _ _ _ (462, [(0, .ref cd)], [.int (nI (caN f n E mj o v w (tg f E v)))], M) _
      exact ps_reti rfl (⟨congrArg (fun x => some (Value.int (nI x))) (show caN f n E mj o v w (tg f E v) = ohN f n E mj ml o v w lp from by unfold ohN; first | ((repeat first | rw [if_pos (by omega)] | rw [if_neg (by omega)]) <;> first | rfl | omega) | ((repeat' split) <;> first | rfl | (exfalso; omega) | omega)), rfl⟩)
  · have c_7 : ¬ ((nI lp) ≤ 0) := of_decide_eq_false c_7
    have n_7 : ¬ (lp ≤ 0) := fun h9 => c_7 ((le_nI (p := lp) (n := 0) (by omega) (by decide)).mpr h9)
    refine ps_st (S' := (11, [(0, .ref cd)], [.ref cd], M)) rfl rfl rfl ?_
    refine ps_get (S' := (14, [(0, .ref cd)], [.ref on], M)) rfl h_cd rfl rfl ?_
    refine ps_get (S' := (17, [(0, .ref cd)], [.int (nI o)], M)) rfl h_on rfl rfl ?_
    refine ps_st (S' := (20, [(0, .ref cd)], [.int 169, .int (nI o)], M)) rfl rfl rfl ?_
    refine ps_if2 (S1 := (36, [(0, .ref cd)], [], M)) (S2 := (23, [(0, .ref cd)], [], M)) rfl rfl rfl (fun c_20 => ?_) (fun c_20 => ?_)
    · have c_20 : ¬ (nI o) = 169 := of_decide_eq_true c_20
      have n_20 : ¬ (o = 169) := fun h9 => c_20 ((eq_nI (p := o) (n := 169) (by omega) (by decide)).mpr h9)
      refine ps_st (S' := (37, [(0, .ref cd)], [.int 0], M)) rfl rfl rfl ?_
      refine ps_st (S' := (38, [(1, .int 0), (0, .ref cd)], [], M)) rfl rfl rfl ?_
      refine ps_st (S' := (39, [(1, .int 0), (0, .ref cd)], [.int 0], M)) rfl rfl rfl ?_
      refine ps_if (S1 := (68, [], [], M)) (S2 := (42, [(1, .int 0), (0, .ref cd)], [], M)) rfl rfl rfl (fun c_39 => ?_) (fun c_39 => ?_)
      · exact absurd (of_decide_eq_true c_39) (by decide)
      refine ps_st (S' := (43, [(1, .int 0), (0, .ref cd)], [.ref cd], M)) rfl rfl rfl ?_
      refine ps_get (S' := (46, [(1, .int 0), (0, .ref cd)], [.ref on], M)) rfl h_cd rfl rfl ?_
      refine ps_get (S' := (49, [(1, .int 0), (0, .ref cd)], [.int (nI v)], M)) rfl h_on rfl rfl ?_
      refine ps_st (S' := (50, [(1, .int 0), (0, .ref cd)], [.ref cd, .int (nI v)], M)) rfl rfl rfl ?_
      refine ps_get (S' := (53, [(1, .int 0), (0, .ref cd)], [.ref on, .int (nI v)], M)) rfl h_cd rfl rfl ?_
      refine ps_get (S' := (56, [(1, .int 0), (0, .ref cd)], [.int (nI lp), .int (nI v)], M)) rfl h_on rfl rfl ?_
      refine ps_st (S' := (57, [(1, .int 0), (0, .ref cd)], [.int ((nI v) + (nI lp))], M)) rfl rfl rfl ?_
      rw [nI_add1 (p := v) (k := lp) (x := (nI lp)) rfl (by omega)]
      show pl _ _ _ (_, [(1, .int 0), (0, .ref cd)], [.int (nI (v + lp))], M) _
      refine ps_st (S' := (58, [(1, .int 0), (0, .ref cd)], [.ref cd, .int (nI (v + lp))], M)) rfl rfl rfl ?_
      refine ps_get (S' := (61, [(1, .int 0), (0, .ref cd)], [.int (nI ml), .int (nI (v + lp))], M)) rfl h_cd rfl rfl ?_
      refine ps_if2 (S1 := (68, [], [], M)) (S2 := (64, [(1, .int 0), (0, .ref cd)], [], M)) rfl rfl rfl (fun c_61 => ?_) (fun c_61 => ?_)
      · have c_61 : (nI ml) < (nI (v + lp)) := of_decide_eq_true c_61
        have n_61 : ml < v + lp := (lt_nI (p := ml) (n := v + lp) (by omega) (by omega)).mp c_61
        refine ps_st (S' := (69, [], [.int 0], M)) rfl rfl rfl ?_
        exact ps_ret rfl rfl (⟨congrArg (fun x => some (Value.int (nI x))) (show 0 = ohN f n E mj ml o v w lp from by unfold ohN; first | ((repeat first | rw [if_pos (by omega)] | rw [if_neg (by omega)]) <;> first | rfl | omega) | ((repeat' split) <;> first | rfl | (exfalso; omega) | omega)), rfl⟩)
      · have c_61 : ¬ ((nI ml) < (nI (v + lp))) := of_decide_eq_false c_61
        have n_61 : ¬ (ml < v + lp) := fun h9 => c_61 ((lt_nI (p := ml) (n := v + lp) (by omega) (by omega)).mpr h9)
        refine ps_st (S' := (65, [(1, .int 0), (0, .ref cd)], [.int 1], M)) rfl rfl rfl ?_
        refine ps_st (S' := (69, [], [.int 1], M)) rfl rfl rfl ?_
        exact ps_ret rfl rfl (⟨congrArg (fun x => some (Value.int (nI x))) (show 1 = ohN f n E mj ml o v w lp from by unfold ohN; first | ((repeat first | rw [if_pos (by omega)] | rw [if_neg (by omega)]) <;> first | rfl | omega) | ((repeat' split) <;> first | rfl | (exfalso; omega) | omega)), rfl⟩)
    · have c_20 : ¬ (¬ (nI o) = 169) := of_decide_eq_false c_20
      have n_20 : o = 169 := (eq_nI (p := o) (n := 169) (by omega) (by decide)).mp (Decidable.not_not.mp c_20)
      refine ps_st (S' := (24, [(0, .ref cd)], [.ref cd], M)) rfl rfl rfl ?_
      refine ps_get (S' := (27, [(0, .ref cd)], [.int (nI mj)], M)) rfl h_cd rfl rfl ?_
      refine ps_st (S' := (29, [(0, .ref cd)], [.int 51, .int (nI mj)], M)) rfl rfl rfl ?_
      refine ps_if2 (S1 := (36, [(0, .ref cd)], [], M)) (S2 := (32, [(0, .ref cd)], [], M)) rfl rfl rfl (fun c_29 => ?_) (fun c_29 => ?_)
      · have c_29 : (nI mj) < 51 := of_decide_eq_true c_29
        have n_29 : mj < 51 := (lt_nI (p := mj) (n := 51) (by omega) (by decide)).mp c_29
        refine ps_st (S' := (37, [(0, .ref cd)], [.int 0], M)) rfl rfl rfl ?_
        refine ps_st (S' := (38, [(1, .int 0), (0, .ref cd)], [], M)) rfl rfl rfl ?_
        refine ps_st (S' := (39, [(1, .int 0), (0, .ref cd)], [.int 0], M)) rfl rfl rfl ?_
        refine ps_if (S1 := (68, [], [], M)) (S2 := (42, [(1, .int 0), (0, .ref cd)], [], M)) rfl rfl rfl (fun c_39 => ?_) (fun c_39 => ?_)
        · exact absurd (of_decide_eq_true c_39) (by decide)
        refine ps_st (S' := (43, [(1, .int 0), (0, .ref cd)], [.ref cd], M)) rfl rfl rfl ?_
        refine ps_get (S' := (46, [(1, .int 0), (0, .ref cd)], [.ref on], M)) rfl h_cd rfl rfl ?_
        refine ps_get (S' := (49, [(1, .int 0), (0, .ref cd)], [.int (nI v)], M)) rfl h_on rfl rfl ?_
        refine ps_st (S' := (50, [(1, .int 0), (0, .ref cd)], [.ref cd, .int (nI v)], M)) rfl rfl rfl ?_
        refine ps_get (S' := (53, [(1, .int 0), (0, .ref cd)], [.ref on, .int (nI v)], M)) rfl h_cd rfl rfl ?_
        refine ps_get (S' := (56, [(1, .int 0), (0, .ref cd)], [.int (nI lp), .int (nI v)], M)) rfl h_on rfl rfl ?_
        refine ps_st (S' := (57, [(1, .int 0), (0, .ref cd)], [.int ((nI v) + (nI lp))], M)) rfl rfl rfl ?_
        rw [nI_add1 (p := v) (k := lp) (x := (nI lp)) rfl (by omega)]
        show pl _ _ _ (_, [(1, .int 0), (0, .ref cd)], [.int (nI (v + lp))], M) _
        refine ps_st (S' := (58, [(1, .int 0), (0, .ref cd)], [.ref cd, .int (nI (v + lp))], M)) rfl rfl rfl ?_
        refine ps_get (S' := (61, [(1, .int 0), (0, .ref cd)], [.int (nI ml), .int (nI (v + lp))], M)) rfl h_cd rfl rfl ?_
        refine ps_if2 (S1 := (68, [], [], M)) (S2 := (64, [(1, .int 0), (0, .ref cd)], [], M)) rfl rfl rfl (fun c_61 => ?_) (fun c_61 => ?_)
        · have c_61 : (nI ml) < (nI (v + lp)) := of_decide_eq_true c_61
          have n_61 : ml < v + lp := (lt_nI (p := ml) (n := v + lp) (by omega) (by omega)).mp c_61
          refine ps_st (S' := (69, [], [.int 0], M)) rfl rfl rfl ?_
          exact ps_ret rfl rfl (⟨congrArg (fun x => some (Value.int (nI x))) (show 0 = ohN f n E mj ml o v w lp from by unfold ohN; first | ((repeat first | rw [if_pos (by omega)] | rw [if_neg (by omega)]) <;> first | rfl | omega) | ((repeat' split) <;> first | rfl | (exfalso; omega) | omega)), rfl⟩)
        · have c_61 : ¬ ((nI ml) < (nI (v + lp))) := of_decide_eq_false c_61
          have n_61 : ¬ (ml < v + lp) := fun h9 => c_61 ((lt_nI (p := ml) (n := v + lp) (by omega) (by omega)).mpr h9)
          refine ps_st (S' := (65, [(1, .int 0), (0, .ref cd)], [.int 1], M)) rfl rfl rfl ?_
          refine ps_st (S' := (69, [], [.int 1], M)) rfl rfl rfl ?_
          exact ps_ret rfl rfl (⟨congrArg (fun x => some (Value.int (nI x))) (show 1 = ohN f n E mj ml o v w lp from by unfold ohN; first | ((repeat first | rw [if_pos (by omega)] | rw [if_neg (by omega)]) <;> first | rfl | omega) | ((repeat' split) <;> first | rfl | (exfalso; omega) | omega)), rfl⟩)
      · have c_29 : ¬ ((nI mj) < 51) := of_decide_eq_false c_29
        have n_29 : ¬ (mj < 51) := fun h9 => c_29 ((lt_nI (p := mj) (n := 51) (by omega) (by decide)).mpr h9)
        refine ps_st (S' := (33, [(0, .ref cd)], [.int 1], M)) rfl rfl rfl ?_
        refine ps_st (S' := (37, [(0, .ref cd)], [.int 1], M)) rfl rfl rfl ?_
        refine ps_st (S' := (38, [(1, .int 1), (0, .ref cd)], [], M)) rfl rfl rfl ?_
        refine ps_st (S' := (39, [(1, .int 1), (0, .ref cd)], [.int 1], M)) rfl rfl rfl ?_
        refine ps_if (S1 := (68, [], [], M)) (S2 := (42, [(1, .int 1), (0, .ref cd)], [], M)) rfl rfl rfl (fun c_39 => ?_) (fun c_39 => ?_)
        rotate_left
        · exact absurd (by decide) (of_decide_eq_false c_39)
        refine ps_st (S' := (69, [], [.int 0], M)) rfl rfl rfl ?_
        exact ps_ret rfl rfl (⟨congrArg (fun x => some (Value.int (nI x))) (show 0 = ohN f n E mj ml o v w lp from by unfold ohN; first | ((repeat first | rw [if_pos (by omega)] | rw [if_neg (by omega)]) <;> first | rfl | omega) | ((repeat' split) <;> first | rfl | (exfalso; omega) | omega)), rfl⟩)
set_option maxHeartbeats 1000000 in
theorem dk_operandsHoldL {g : xe_G} {M : mi_H} {f : Nat → Int32} {n N q : Nat} {E : List (Nat × Nat)} {cd on b cb L ml mj o v lp : Nat} {y6 : Int32} {c0 c2 c3 c4 y4 y8 y9 y10 y11 : Int32} {v8 v9 v10 : Value} (h_cd : M.1 cd = some (ob 4 [.int c0, .int (nI ml), .int c2, .int c3, .int c4, .ref q, .int (nI mj), .ref on, v8, v9, v10])) (h_on : M.1 on = some (ob 5 [.ref b, .int (nI cb), .int (nI L), .int (nI o), .int y4, .int (nI v), .int y6, .int (nI lp), .int y8, .int y9, .int y10, .int y11])) (hmj : mj < 65536) (hml : ml < 65536) (ho : o < 256) (hv : v < 65536) (hlp : 1 ≤ lp ∧ lp < 3) (hV : PV g f n N E q M) : pt (mT g) 82 [.ref cd] M (fun r9 M' => (r9 = some (.int (nI (ohN f n E mj ml o v 0 lp))) ∧ M = M')) := by
  refine pt_in (b := mb_82 g) rfl (fun kf => ?_)
  show pl (mT g) kf (mb_82 g).2 (0, [(0, .ref cd)], [], M) _
  refine ps_st (S' := (1, [(0, .ref cd)], [.ref cd], M)) rfl rfl rfl ?_
  refine ps_get (S' := (4, [(0, .ref cd)], [.ref on], M)) rfl h_cd rfl rfl ?_
  refine ps_get (S' := (7, [(0, .ref cd)], [.int (nI lp)], M)) rfl h_on rfl rfl ?_
  refine ps_if (S1 := (70, [(0, .ref cd)], [], M)) (S2 := (10, [(0, .ref cd)], [], M)) rfl rfl rfl (fun c_7 => ?_) (fun c_7 => ?_)
  · exact absurd (of_decide_eq_true c_7) (show ¬ ((nI lp) ≤ 0) from fun h9 => absurd ((le_nI (p := lp) (n := 0) (by omega) (by decide)).mp h9) (by omega))
  refine ps_st (S' := (11, [(0, .ref cd)], [.ref cd], M)) rfl rfl rfl ?_
  refine ps_get (S' := (14, [(0, .ref cd)], [.ref on], M)) rfl h_cd rfl rfl ?_
  refine ps_get (S' := (17, [(0, .ref cd)], [.int (nI o)], M)) rfl h_on rfl rfl ?_
  refine ps_st (S' := (20, [(0, .ref cd)], [.int 169, .int (nI o)], M)) rfl rfl rfl ?_
  refine ps_if2 (S1 := (36, [(0, .ref cd)], [], M)) (S2 := (23, [(0, .ref cd)], [], M)) rfl rfl rfl (fun c_20 => ?_) (fun c_20 => ?_)
  · have c_20 : ¬ (nI o) = 169 := of_decide_eq_true c_20
    have n_20 : ¬ (o = 169) := fun h9 => c_20 ((eq_nI (p := o) (n := 169) (by omega) (by decide)).mpr h9)
    refine ps_st (S' := (37, [(0, .ref cd)], [.int 0], M)) rfl rfl rfl ?_
    refine ps_st (S' := (38, [(1, .int 0), (0, .ref cd)], [], M)) rfl rfl rfl ?_
    refine ps_st (S' := (39, [(1, .int 0), (0, .ref cd)], [.int 0], M)) rfl rfl rfl ?_
    refine ps_if (S1 := (68, [], [], M)) (S2 := (42, [(1, .int 0), (0, .ref cd)], [], M)) rfl rfl rfl (fun c_39 => ?_) (fun c_39 => ?_)
    · exact absurd (of_decide_eq_true c_39) (by decide)
    refine ps_st (S' := (43, [(1, .int 0), (0, .ref cd)], [.ref cd], M)) rfl rfl rfl ?_
    refine ps_get (S' := (46, [(1, .int 0), (0, .ref cd)], [.ref on], M)) rfl h_cd rfl rfl ?_
    refine ps_get (S' := (49, [(1, .int 0), (0, .ref cd)], [.int (nI v)], M)) rfl h_on rfl rfl ?_
    refine ps_st (S' := (50, [(1, .int 0), (0, .ref cd)], [.ref cd, .int (nI v)], M)) rfl rfl rfl ?_
    refine ps_get (S' := (53, [(1, .int 0), (0, .ref cd)], [.ref on, .int (nI v)], M)) rfl h_cd rfl rfl ?_
    refine ps_get (S' := (56, [(1, .int 0), (0, .ref cd)], [.int (nI lp), .int (nI v)], M)) rfl h_on rfl rfl ?_
    refine ps_st (S' := (57, [(1, .int 0), (0, .ref cd)], [.int ((nI v) + (nI lp))], M)) rfl rfl rfl ?_
    rw [nI_add1 (p := v) (k := lp) (x := (nI lp)) rfl (by omega)]
    show pl _ _ _ (_, [(1, .int 0), (0, .ref cd)], [.int (nI (v + lp))], M) _
    refine ps_st (S' := (58, [(1, .int 0), (0, .ref cd)], [.ref cd, .int (nI (v + lp))], M)) rfl rfl rfl ?_
    refine ps_get (S' := (61, [(1, .int 0), (0, .ref cd)], [.int (nI ml), .int (nI (v + lp))], M)) rfl h_cd rfl rfl ?_
    refine ps_if2 (S1 := (68, [], [], M)) (S2 := (64, [(1, .int 0), (0, .ref cd)], [], M)) rfl rfl rfl (fun c_61 => ?_) (fun c_61 => ?_)
    · have c_61 : (nI ml) < (nI (v + lp)) := of_decide_eq_true c_61
      have n_61 : ml < v + lp := (lt_nI (p := ml) (n := v + lp) (by omega) (by omega)).mp c_61
      refine ps_st (S' := (69, [], [.int 0], M)) rfl rfl rfl ?_
      exact ps_ret rfl rfl (⟨congrArg (fun x => some (Value.int (nI x))) (show 0 = ohN f n E mj ml o v 0 lp from by unfold ohN; first | ((repeat first | rw [if_pos (by omega)] | rw [if_neg (by omega)]) <;> first | rfl | omega) | ((repeat' split) <;> first | rfl | (exfalso; omega) | omega)), rfl⟩)
    · have c_61 : ¬ ((nI ml) < (nI (v + lp))) := of_decide_eq_false c_61
      have n_61 : ¬ (ml < v + lp) := fun h9 => c_61 ((lt_nI (p := ml) (n := v + lp) (by omega) (by omega)).mpr h9)
      refine ps_st (S' := (65, [(1, .int 0), (0, .ref cd)], [.int 1], M)) rfl rfl rfl ?_
      refine ps_st (S' := (69, [], [.int 1], M)) rfl rfl rfl ?_
      exact ps_ret rfl rfl (⟨congrArg (fun x => some (Value.int (nI x))) (show 1 = ohN f n E mj ml o v 0 lp from by unfold ohN; first | ((repeat first | rw [if_pos (by omega)] | rw [if_neg (by omega)]) <;> first | rfl | omega) | ((repeat' split) <;> first | rfl | (exfalso; omega) | omega)), rfl⟩)
  · have c_20 : ¬ (¬ (nI o) = 169) := of_decide_eq_false c_20
    have n_20 : o = 169 := (eq_nI (p := o) (n := 169) (by omega) (by decide)).mp (Decidable.not_not.mp c_20)
    refine ps_st (S' := (24, [(0, .ref cd)], [.ref cd], M)) rfl rfl rfl ?_
    refine ps_get (S' := (27, [(0, .ref cd)], [.int (nI mj)], M)) rfl h_cd rfl rfl ?_
    refine ps_st (S' := (29, [(0, .ref cd)], [.int 51, .int (nI mj)], M)) rfl rfl rfl ?_
    refine ps_if2 (S1 := (36, [(0, .ref cd)], [], M)) (S2 := (32, [(0, .ref cd)], [], M)) rfl rfl rfl (fun c_29 => ?_) (fun c_29 => ?_)
    · have c_29 : (nI mj) < 51 := of_decide_eq_true c_29
      have n_29 : mj < 51 := (lt_nI (p := mj) (n := 51) (by omega) (by decide)).mp c_29
      refine ps_st (S' := (37, [(0, .ref cd)], [.int 0], M)) rfl rfl rfl ?_
      refine ps_st (S' := (38, [(1, .int 0), (0, .ref cd)], [], M)) rfl rfl rfl ?_
      refine ps_st (S' := (39, [(1, .int 0), (0, .ref cd)], [.int 0], M)) rfl rfl rfl ?_
      refine ps_if (S1 := (68, [], [], M)) (S2 := (42, [(1, .int 0), (0, .ref cd)], [], M)) rfl rfl rfl (fun c_39 => ?_) (fun c_39 => ?_)
      · exact absurd (of_decide_eq_true c_39) (by decide)
      refine ps_st (S' := (43, [(1, .int 0), (0, .ref cd)], [.ref cd], M)) rfl rfl rfl ?_
      refine ps_get (S' := (46, [(1, .int 0), (0, .ref cd)], [.ref on], M)) rfl h_cd rfl rfl ?_
      refine ps_get (S' := (49, [(1, .int 0), (0, .ref cd)], [.int (nI v)], M)) rfl h_on rfl rfl ?_
      refine ps_st (S' := (50, [(1, .int 0), (0, .ref cd)], [.ref cd, .int (nI v)], M)) rfl rfl rfl ?_
      refine ps_get (S' := (53, [(1, .int 0), (0, .ref cd)], [.ref on, .int (nI v)], M)) rfl h_cd rfl rfl ?_
      refine ps_get (S' := (56, [(1, .int 0), (0, .ref cd)], [.int (nI lp), .int (nI v)], M)) rfl h_on rfl rfl ?_
      refine ps_st (S' := (57, [(1, .int 0), (0, .ref cd)], [.int ((nI v) + (nI lp))], M)) rfl rfl rfl ?_
      rw [nI_add1 (p := v) (k := lp) (x := (nI lp)) rfl (by omega)]
      show pl _ _ _ (_, [(1, .int 0), (0, .ref cd)], [.int (nI (v + lp))], M) _
      refine ps_st (S' := (58, [(1, .int 0), (0, .ref cd)], [.ref cd, .int (nI (v + lp))], M)) rfl rfl rfl ?_
      refine ps_get (S' := (61, [(1, .int 0), (0, .ref cd)], [.int (nI ml), .int (nI (v + lp))], M)) rfl h_cd rfl rfl ?_
      refine ps_if2 (S1 := (68, [], [], M)) (S2 := (64, [(1, .int 0), (0, .ref cd)], [], M)) rfl rfl rfl (fun c_61 => ?_) (fun c_61 => ?_)
      · have c_61 : (nI ml) < (nI (v + lp)) := of_decide_eq_true c_61
        have n_61 : ml < v + lp := (lt_nI (p := ml) (n := v + lp) (by omega) (by omega)).mp c_61
        refine ps_st (S' := (69, [], [.int 0], M)) rfl rfl rfl ?_
        exact ps_ret rfl rfl (⟨congrArg (fun x => some (Value.int (nI x))) (show 0 = ohN f n E mj ml o v 0 lp from by unfold ohN; first | ((repeat first | rw [if_pos (by omega)] | rw [if_neg (by omega)]) <;> first | rfl | omega) | ((repeat' split) <;> first | rfl | (exfalso; omega) | omega)), rfl⟩)
      · have c_61 : ¬ ((nI ml) < (nI (v + lp))) := of_decide_eq_false c_61
        have n_61 : ¬ (ml < v + lp) := fun h9 => c_61 ((lt_nI (p := ml) (n := v + lp) (by omega) (by omega)).mpr h9)
        refine ps_st (S' := (65, [(1, .int 0), (0, .ref cd)], [.int 1], M)) rfl rfl rfl ?_
        refine ps_st (S' := (69, [], [.int 1], M)) rfl rfl rfl ?_
        exact ps_ret rfl rfl (⟨congrArg (fun x => some (Value.int (nI x))) (show 1 = ohN f n E mj ml o v 0 lp from by unfold ohN; first | ((repeat first | rw [if_pos (by omega)] | rw [if_neg (by omega)]) <;> first | rfl | omega) | ((repeat' split) <;> first | rfl | (exfalso; omega) | omega)), rfl⟩)
    · have c_29 : ¬ ((nI mj) < 51) := of_decide_eq_false c_29
      have n_29 : ¬ (mj < 51) := fun h9 => c_29 ((lt_nI (p := mj) (n := 51) (by omega) (by decide)).mpr h9)
      refine ps_st (S' := (33, [(0, .ref cd)], [.int 1], M)) rfl rfl rfl ?_
      refine ps_st (S' := (37, [(0, .ref cd)], [.int 1], M)) rfl rfl rfl ?_
      refine ps_st (S' := (38, [(1, .int 1), (0, .ref cd)], [], M)) rfl rfl rfl ?_
      refine ps_st (S' := (39, [(1, .int 1), (0, .ref cd)], [.int 1], M)) rfl rfl rfl ?_
      refine ps_if (S1 := (68, [], [], M)) (S2 := (42, [(1, .int 1), (0, .ref cd)], [], M)) rfl rfl rfl (fun c_39 => ?_) (fun c_39 => ?_)
      rotate_left
      · exact absurd (by decide) (of_decide_eq_false c_39)
      refine ps_st (S' := (69, [], [.int 0], M)) rfl rfl rfl ?_
      exact ps_ret rfl rfl (⟨congrArg (fun x => some (Value.int (nI x))) (show 0 = ohN f n E mj ml o v 0 lp from by unfold ohN; first | ((repeat first | rw [if_pos (by omega)] | rw [if_neg (by omega)]) <;> first | rfl | omega) | ((repeat' split) <;> first | rfl | (exfalso; omega) | omega)), rfl⟩)
set_option maxHeartbeats 1000000 in
theorem dk_callHoldsS {g : xe_G} {M : mi_H} {f : Nat → Int32} {n N q : Nat} {E : List (Nat × Nat)} {cd on b cb L ml mj o : Nat} {y5 y6 : Int32} {c0 c2 c3 c4 y4 y8 y9 y10 y11 : Int32} {v8 v9 v10 : Value} {t : Int32} (h_cd : M.1 cd = some (ob 4 [.int c0, .int (nI ml), .int c2, .int c3, .int c4, .ref q, .int (nI mj), .ref on, v8, v9, v10])) (h_on : M.1 on = some (ob 5 [.ref b, .int (nI cb), .int (nI L), .int (nI o), .int y4, .int y5, .int y6, .int 0, .int y8, .int y9, .int y10, .int y11])) (ho : o = 16 ∨ o = 17 ∨ o = 170 ∨ o = 171) (hV : PV g f n N E q M) : pt (mT g) 75 [.ref cd, .int t] M (fun v M' => (v = some (.int 1) ∧ M = M')) := by
  refine pt_in (b := mb_75 g) rfl (fun kf => ?_)
  show pl (mT g) kf (mb_75 g).2 (0, [(0, .ref cd), (1, .int t)], [], M) _
  refine ps_st (S' := (1, [(0, .ref cd), (1, .int t)], [.ref cd], M)) rfl rfl rfl ?_
  refine ps_get (S' := (4, [(0, .ref cd), (1, .int t)], [.ref on], M)) rfl h_cd rfl rfl ?_
  refine ps_get (S' := (7, [(0, .ref cd), (1, .int t)], [.int (nI o)], M)) rfl h_on rfl rfl ?_
  refine pl_sw rfl (fun t_7 et_7 => ?_)
  have ht_7 : t_7 ∈ [40, 69, 75, 106, 151, 163] := mi_sw_sub et_7 (by decide)
  simp only [List.mem_cons, List.not_mem_nil, or_false] at ht_7
  rcases ht_7 with rfl | rfl | rfl | rfl | rfl | rfl
  · show pl _ _ _ (40, [(0, .ref cd), (1, .int t)], [], M) _
    have m_7 := sw_nat (t := o) (by omega) et_7
    simp at m_7
    exfalso; omega
  · show pl _ _ _ (69, [(0, .ref cd), (1, .int t)], [], M) _
    have m_7 := sw_nat (t := o) (by omega) et_7
    simp at m_7
    exfalso; omega
  · show pl _ _ _ (75, [(0, .ref cd), (1, .int t)], [], M) _
    have m_7 := sw_nat (t := o) (by omega) et_7
    simp at m_7
    exfalso; omega
  · show pl _ _ _ (106, [(0, .ref cd), (1, .int t)], [], M) _
    have m_7 := sw_nat (t := o) (by omega) et_7
    simp at m_7
    exfalso; omega
  · show pl _ _ _ (151, [(0, .ref cd), (1, .int t)], [], M) _
    have m_7 := sw_nat (t := o) (by omega) et_7
    simp at m_7
    exfalso; omega
  · show pl _ _ _ (163, [(0, .ref cd), (1, .int t)], [], M) _
    have m_7 := sw_nat (t := o) (by omega) et_7
    simp at m_7
    refine ps_st (S' := (164, [(0, .ref cd), (1, .int t)], [.int 1], M)) rfl rfl rfl ?_
    exact ps_ret rfl rfl (⟨rfl, rfl⟩)
set_option maxHeartbeats 1000000 in
theorem dk_operandsHoldS {g : xe_G} {M : mi_H} {f : Nat → Int32} {n N q : Nat} {E : List (Nat × Nat)} {cd on b cb L ml mj o : Nat} {y5 y6 : Int32} {c0 c2 c3 c4 y4 y8 y9 y10 y11 : Int32} {v8 v9 v10 : Value} (h_cd : M.1 cd = some (ob 4 [.int c0, .int (nI ml), .int c2, .int c3, .int c4, .ref q, .int (nI mj), .ref on, v8, v9, v10])) (h_on : M.1 on = some (ob 5 [.ref b, .int (nI cb), .int (nI L), .int (nI o), .int y4, .int y5, .int y6, .int 0, .int y8, .int y9, .int y10, .int y11])) (ho : o = 16 ∨ o = 17 ∨ o = 170 ∨ o = 171) (h0 : tg f E 0 = 0) (hV : PV g f n N E q M) : pt (mT g) 82 [.ref cd] M (fun v M' => (v = some (.int 1) ∧ M = M')) := by
  refine pt_in (b := mb_82 g) rfl (fun kf => ?_)
  show pl (mT g) kf (mb_82 g).2 (0, [(0, .ref cd)], [], M) _
  refine ps_st (S' := (1, [(0, .ref cd)], [.ref cd], M)) rfl rfl rfl ?_
  refine ps_get (S' := (4, [(0, .ref cd)], [.ref on], M)) rfl h_cd rfl rfl ?_
  refine ps_get (S' := (7, [(0, .ref cd)], [.int 0], M)) rfl h_on rfl rfl ?_
  refine ps_if (S1 := (70, [(0, .ref cd)], [], M)) (S2 := (10, [(0, .ref cd)], [], M)) rfl rfl rfl (fun c_7 => ?_) (fun c_7 => ?_)
  rotate_left
  · exact absurd (by decide) (of_decide_eq_false c_7)
  refine ps_st (S' := (71, [(0, .ref cd)], [.ref cd], M)) rfl rfl rfl ?_
  refine ps_get (S' := (74, [(0, .ref cd)], [.ref on], M)) rfl h_cd rfl rfl ?_
  refine ps_get (S' := (77, [(0, .ref cd)], [.int (nI o)], M)) rfl h_on rfl rfl ?_
  refine pl_sw rfl (fun t_77 et_77 => ?_)
  have ht_77 : t_77 ∈ [192, 207, 236, 255, 274, 299, 314, 359, 384, 444] := mi_sw_sub et_77 (by decide)
  simp only [List.mem_cons, List.not_mem_nil, or_false] at ht_77
  rcases ht_77 with rfl | rfl | rfl | rfl | rfl | rfl | rfl | rfl | rfl | rfl
  · show pl _ _ _ (192, [(0, .ref cd)], [], M) _
    have m_77 := sw_nat (t := o) (by omega) et_77
    simp at m_77
    exfalso; omega
  · show pl _ _ _ (207, [(0, .ref cd)], [], M) _
    have m_77 := sw_nat (t := o) (by omega) et_77
    simp at m_77
    exfalso; omega
  · show pl _ _ _ (236, [(0, .ref cd)], [], M) _
    have m_77 := sw_nat (t := o) (by omega) et_77
    simp at m_77
    exfalso; omega
  · show pl _ _ _ (255, [(0, .ref cd)], [], M) _
    have m_77 := sw_nat (t := o) (by omega) et_77
    simp at m_77
    exfalso; omega
  · show pl _ _ _ (274, [(0, .ref cd)], [], M) _
    have m_77 := sw_nat (t := o) (by omega) et_77
    simp at m_77
    exfalso; omega
  · show pl _ _ _ (299, [(0, .ref cd)], [], M) _
    have m_77 := sw_nat (t := o) (by omega) et_77
    simp at m_77
    exfalso; omega
  · show pl _ _ _ (314, [(0, .ref cd)], [], M) _
    have m_77 := sw_nat (t := o) (by omega) et_77
    simp at m_77
    exfalso; omega
  · show pl _ _ _ (359, [(0, .ref cd)], [], M) _
    have m_77 := sw_nat (t := o) (by omega) et_77
    simp at m_77
    exfalso; omega
  · show pl _ _ _ (384, [(0, .ref cd)], [], M) _
    have m_77 := sw_nat (t := o) (by omega) et_77
    simp at m_77
    exfalso; omega
  · show pl _ _ _ (444, [(0, .ref cd)], [], M) _
    have m_77 := sw_nat (t := o) (by omega) et_77
    simp at m_77
    refine ps_st (S' := (445, [(0, .ref cd)], [.ref cd], M)) rfl rfl rfl ?_
    refine ps_st (S' := (446, [(0, .ref cd)], [.ref cd, .ref cd], M)) rfl rfl rfl ?_
    refine ps_get (S' := (449, [(0, .ref cd)], [.ref q, .ref cd], M)) rfl h_cd rfl rfl ?_
    refine ps_st (S' := (450, [(0, .ref cd)], [.ref cd, .ref q, .ref cd], M)) rfl rfl rfl ?_
    refine ps_get (S' := (453, [(0, .ref cd)], [.ref on, .ref q, .ref cd], M)) rfl h_cd rfl rfl ?_
    refine ps_get (S' := (456, [(0, .ref cd)], [.int y5, .ref q, .ref cd], M)) rfl h_on rfl rfl ?_
    refine pl_call (a := [.ref q, .int y5]) (rest := [.ref cd]) rfl rfl rfl (dz_tagOf (f := f) (n := n) (N := N) (q := q) (E := E) (k := y5) (hV) (h0)) (fun v1 M2 q3 => ?_)
    obtain ⟨rfl, rfl⟩ := q3
    show pl _ _ _ (459, [(0, .ref cd)], [.int (nI (tg f E y5.toNatClampNeg)), .ref cd], M) _
    refine pl_call (a := [.ref cd, .int (nI (tg f E y5.toNatClampNeg))]) (rest := []) rfl rfl rfl (dk_callHoldsS (f := f) (n := n) (N := N) (q := q) (E := E) (cd := cd) (on := on) (b := b) (cb := cb) (L := L) (ml := ml) (mj := mj) (o := o) (y5 := y5) (y6 := y6) (c0 := c0) (c2 := c2) (c3 := c3) (c4 := c4) (y4 := y4) (y8 := y8) (y9 := y9) (y10 := y10) (y11 := y11) (v8 := v8) (v9 := v9) (v10 := v10) (t := (nI (tg f E y5.toNatClampNeg))) h_cd h_on (ho) (hV)) (fun v4 M5 q6 => ?_)
    obtain ⟨rfl, rfl⟩ := q6
    show pl _ _ _ (462, [(0, .ref cd)], [.int 1], M) _
    exact ps_ret rfl rfl (⟨rfl, rfl⟩)
