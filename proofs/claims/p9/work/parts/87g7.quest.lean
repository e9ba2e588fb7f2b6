/-! the pool's questions over its view (laid by wip/p4/d7.py) -/
theorem dy_tagOf {g : xe_G} {M : mi_H} {f : Nat → Int32} {n N q : Nat} {E : List (Nat × Nat)} {j : Nat}  (hV : PV g f n N E q M) (hj : j < 65536) : pt (mT g) 138 [.ref q, .int (nI j)] M (fun v M' => (v = some (.int (nI (tg f E j))) ∧ M = M')) := by
  obtain ⟨hL, H, m, qq, F, cc, hP, hT, hB, hb, hF, hS⟩ := hV
  exact (ct_tagOf hP (d := 3) (by decide)).pt.mono (fun v M' h => ⟨by rw [h.1, hF.tagOf hb.1 hj], h.2.symm⟩)
theorem dy_tagPlace {g : xe_G} {M : mi_H} {f : Nat → Int32} {n N q : Nat} {E : List (Nat × Nat)} {j p : Nat}  (hV : PV g f n N E q M) (hj : j < 65536) (hp : lk E j = some p) (ht : ¬ tg f E j = 0) : pt (mT g) 139 [.ref q, .int (nI j)] M (fun v M' => (v = some (.int (nI (p))) ∧ M = M')) := by
  obtain ⟨hL, H, m, qq, F, cc, hP, hT, hB, hb, hF, hS⟩ := hV
  exact (ct_tagPlace hP (d := 3) (by decide)).pt.mono (fun v M' h => ⟨by rw [h.1, hF.tagPlace hb.1 hj hp ht], h.2.symm⟩)
theorem dy_firstIndex {g : xe_G} {M : mi_H} {f : Nat → Int32} {n N q : Nat} {E : List (Nat × Nat)} {j : Nat}  (hV : PV g f n N E q M) (hj : j < 65536) : pt (mT g) 117 [.ref q, .int (nI j)] M (fun v M' => (v = some (.int (nI (fi f E j))) ∧ M = M')) := by
  obtain ⟨hL, H, m, qq, F, cc, hP, hT, hB, hb, hF, hS⟩ := hV
  exact (ct_firstIndex hP (d := 3) (by decide)).pt.mono (fun v M' h => ⟨by rw [h.1, hF.firstIndex hb.1 hj], h.2.symm⟩)
theorem dy_secondIndex {g : xe_G} {M : mi_H} {f : Nat → Int32} {n N q : Nat} {E : List (Nat × Nat)} {j : Nat}  (hV : PV g f n N E q M) (hj : j < 65536) : pt (mT g) 134 [.ref q, .int (nI j)] M (fun v M' => (v = some (.int (nI (se f E j))) ∧ M = M')) := by
  obtain ⟨hL, H, m, qq, F, cc, hP, hT, hB, hb, hF, hS⟩ := hV
  exact (ct_secondIndex hP (d := 3) (by decide)).pt.mono (fun v M' h => ⟨by rw [h.1, hF.secondIndex hb.1 hj], h.2.symm⟩)
theorem dy_textLength {g : xe_G} {M : mi_H} {f : Nat → Int32} {n N q : Nat} {E : List (Nat × Nat)} {j : Nat}  (hV : PV g f n N E q M) (hj : j < 65536) : pt (mT g) 141 [.ref q, .int (nI j)] M (fun v M' => (v = some (.int (nI ((tX f n E j).length))) ∧ M = M')) := by
  obtain ⟨hL, H, m, qq, F, cc, hP, hT, hB, hb, hF, hS⟩ := hV
  exact (ct_textLength hP (d := 3) (by decide)).pt.mono (fun v M' h => ⟨by rw [h.1, hF.textLength hb.1 hj], h.2.symm⟩)
theorem dy_characterAt {g : xe_G} {M : mi_H} {f : Nat → Int32} {n N q : Nat} {E : List (Nat × Nat)} {j i : Nat}  (hV : PV g f n N E q M) (hj : j < 65536) (hi : i < 1000000) : pt (mT g) 113 [.ref q, .int (nI j), .int (nI i)] M (fun v M' => (v = some (.int (if i < (tX f n E j).length then nI ((tX f n E j).getD i 0) else -1)) ∧ M = M')) := by
  obtain ⟨hL, H, m, qq, F, cc, hP, hT, hB, hb, hF, hS⟩ := hV
  exact (ct_characterAt hP hT (by omega) (d := 3) (by decide)).pt.mono (fun v M' h => ⟨by rw [h.1, hF.characterAt hb.1 hb.2.1 hj hi], h.2.symm⟩)
theorem dy_argumentPlaces {g : xe_G} {M : mi_H} {f : Nat → Int32} {n N q : Nat} {E : List (Nat × Nat)} {j : Nat}  (hV : PV g f n N E q M) (hj : j < 65536) : pt (mT g) 112 [.ref q, .int (nI j)] M (fun v M' => (v = some (.int (nI (argN (tX f n E j)))) ∧ M = M')) := by
  obtain ⟨hL, H, m, qq, F, cc, hP, hT, hB, hb, hF, hS⟩ := hV
  exact (ct_argumentPlaces hP (d := 3) (by decide)).pt.mono (fun v M' h => ⟨by rw [h.1, hF.argPl hS hb.1 hj], h.2.symm⟩)
theorem dy_hasNoResult {g : xe_G} {M : mi_H} {f : Nat → Int32} {n N q : Nat} {E : List (Nat × Nat)} {j : Nat}  (hV : PV g f n N E q M) (hj : j < 65536) : pt (mT g) 119 [.ref q, .int (nI j)] M (fun v M' => (v = some (.int (nI (nresN (tX f n E j)))) ∧ M = M')) := by
  obtain ⟨hL, H, m, qq, F, cc, hP, hT, hB, hb, hF, hS⟩ := hV
  exact (ct_hasNoResult hP (d := 3) (by decide)).pt.mono (fun v M' h => ⟨by rw [h.1, hF.noRes hS hb.1 hj], h.2.symm⟩)
theorem dy_isPlainClass {g : xe_G} {M : mi_H} {f : Nat → Int32} {n N q : Nat} {E : List (Nat × Nat)} {j : Nat}  (hV : PV g f n N E q M) (hj : j < 65536) : pt (mT g) 123 [.ref q, .int (nI j)] M (fun v M' => (v = some (.int (nI (plnN f n E j))) ∧ M = M')) := by
  obtain ⟨hL, H, m, qq, F, cc, hP, hT, hB, hb, hF, hS⟩ := hV
  exact (ct_isPlainClass hP hT (by omega) (d := 3) (by decide)).pt.mono (fun v M' h => ⟨by rw [h.1, hF.plain hb.1 hb.2.1 hj], h.2.symm⟩)
theorem dy_nameOf {g : xe_G} {M : mi_H} {f : Nat → Int32} {n N q : Nat} {E : List (Nat × Nat)} {j : Nat}  (hV : PV g f n N E q M) (hj : j < 65536) : pt (mT g) 128 [.ref q, .int (nI j)] M (fun v M' => (v = some (.int (nI (fi f E (se f E j)))) ∧ M = M')) := by
  obtain ⟨hL, H, m, qq, F, cc, hP, hT, hB, hb, hF, hS⟩ := hV
  exact (ct_nameOf hP (d := 3) (by decide)).pt.mono (fun v M' h => ⟨by rw [h.1, show sp_nameOf H m F (nI j) = nI (fi f E (se f E j)) by unfold sp_nameOf; rw [hF.secondIndex hb.1 hj, hF.firstIndex hb.1 (se_lt _ _ _)]], h.2.symm⟩)
theorem dy_descriptorOf {g : xe_G} {M : mi_H} {f : Nat → Int32} {n N q : Nat} {E : List (Nat × Nat)} {j : Nat}  (hV : PV g f n N E q M) (hj : j < 65536) : pt (mT g) 115 [.ref q, .int (nI j)] M (fun v M' => (v = some (.int (nI (se f E (se f E j)))) ∧ M = M')) := by
  obtain ⟨hL, H, m, qq, F, cc, hP, hT, hB, hb, hF, hS⟩ := hV
  exact (ct_descriptorOf hP (d := 3) (by decide)).pt.mono (fun v M' h => ⟨by rw [h.1, show sp_descriptorOf H m F (nI j) = nI (se f E (se f E j)) by unfold sp_descriptorOf; rw [hF.secondIndex hb.1 hj, hF.secondIndex hb.1 (se_lt _ _ _)]], h.2.symm⟩)
theorem dy_isFieldDescriptor {g : xe_G} {M : mi_H} {f : Nat → Int32} {n N q : Nat} {E : List (Nat × Nat)} {j : Nat}  (hV : PV g f n N E q M) (hj : j < 65536) : pt (mT g) 121 [.ref q, .int (nI j)] M (fun v M' => (v = some (.int (nI (fldN (tX f n E j)))) ∧ M = M')) := by
  obtain ⟨hL, H, m, qq, F, cc, hP, hT, hB, hb, hF, hS⟩ := hV
  exact (ct_isFieldDescriptor hP (d := 3) (by decide)).pt.mono (fun v M' h => ⟨by rw [h.1, hF.fld hS hb.1 hj], h.2.symm⟩)
theorem dy_isMethodDescriptor {g : xe_G} {M : mi_H} {f : Nat → Int32} {n N q : Nat} {E : List (Nat × Nat)} {j : Nat}  (hV : PV g f n N E q M) (hj : j < 65536) : pt (mT g) 122 [.ref q, .int (nI j)] M (fun v M' => (v = some (.int (nI (mthN (tX f n E j)))) ∧ M = M')) := by
  obtain ⟨hL, H, m, qq, F, cc, hP, hT, hB, hb, hF, hS⟩ := hV
  exact (ct_isMethodDescriptor hP (d := 3) (by decide)).pt.mono (fun v M' h => ⟨by rw [h.1, hF.mth hS hb.1 hj], h.2.symm⟩)
set_option maxHeartbeats 1000000 in
theorem dy_hasAngle {g : xe_G} {M : mi_H} {f : Nat → Int32} {n N q : Nat} {E : List (Nat × Nat)} {j : Nat}  (hV : PV g f n N E q M) (hj : j < 65536) : pt (mT g) 118 [.ref q, .int (nI j)] M (fun v M' => (v = some (.int (nI (angN (tX f n E j)))) ∧ M = M')) := by
  refine pt_in (b := mb_118 g) rfl (fun kf => ?_)
  show pl (mT g) kf (mb_118 g).2 (0, [(0, .ref q), (1, .int (nI j))], [], M) _
  have hV0 := hV
  obtain ⟨hL, H, m, qq, F, cc, hP, hT, hB, hb, hF, hS⟩ := hV0
  have h_q := hP.1
  have h_qq_1 := hP.2.1 1 (by decide) (by decide)
  have h_qq_2 := hP.2.1 2 (by decide) (by decide)
  have h_qq_3 := hP.2.1 3 (by decide) (by decide)
  have h_qq_4 := hP.2.1 4 (by decide) (by decide)
  have h_qq_5 := hP.2.1 5 (by decide) (by decide)
  have h_qq_6 := hP.2.2
  have LL : ∀ (kf : Nat), (∀ (i : Nat), (i ≤ (tX f n E j).length) → (∀ i9, i9 < i → ¬ (tX f n E j).getD i9 0 = 60 ∧ ¬ (tX f n E j).getD i9 0 = 62) →  pl (mT g) kf (mb_118 g).2 (2, [(0, .ref q), (1, .int (nI j)), (2, .int (nI i))], [], M) (fun v M' => (v = some (.int (nI (angN (tX f n E j)))) ∧ M = M'))) := by
    intro kf
    induction kf with
    | zero => exact (by intros; exact pl_0)
    | succ kf ih =>
      intro i hi hs
      have hl8 := tx_len f n E j
      refine ps_st1 (S' := (3, [(0, .ref q), (1, .int (nI j)), (2, .int (nI i))], [.int (nI i)], M)) rfl rfl rfl ?_
      refine ps_st (S' := (4, [(0, .ref q), (1, .int (nI j)), (2, .int (nI i))], [.ref q, .int (nI i)], M)) rfl rfl rfl ?_
      refine ps_st (S' := (5, [(0, .ref q), (1, .int (nI j)), (2, .int (nI i))], [.int (nI j), .ref q, .int (nI i)], M)) rfl rfl rfl ?_
      refine pl_call (a := [.ref q, .int (nI j)]) (rest := [.int (nI i)]) rfl rfl rfl (dy_textLength (f := f) (n := n) (N := N) (q := q) (E := E) (j := j) (hV) (by omega)) (fun v1 M2 q3 => ?_)
      obtain ⟨rfl, rfl⟩ := q3
      show pl _ _ _ (8, [(0, .ref q), (1, .int (nI j)), (2, .int (nI i))], [.int (nI ((tX f n E j).length)), .int (nI i)], M) _
      refine ps_if2 (S1 := (45, [(0, .ref q), (1, .int (nI j)), (2, .int (nI i))], [], M)) (S2 := (11, [(0, .ref q), (1, .int (nI j)), (2, .int (nI i))], [], M)) rfl rfl rfl (fun c_8 => ?_) (fun c_8 => ?_)
      · have c_8 : (nI ((tX f n E j).length)) ≤ (nI i) := of_decide_eq_true c_8
        have n_8 : (tX f n E j).length ≤ i := (le_nI (p := (tX f n E j).length) (n := i) (Nat.lt_trans (tx_len _ _ _ _) (by decide)) (by omega)).mp c_8
        refine ps_st (S' := (46, [(0, .ref q), (1, .int (nI j)), (2, .int (nI i))], [.int 0], M)) rfl rfl rfl ?_
        exact ps_ret rfl rfl (⟨by rw [show angN (tX f n E j) = 0 from ang_no (fun i9 h9 => hs i9 (by omega))]; rfl, rfl⟩)
      · have c_8 : ¬ ((nI ((tX f n E j).length)) ≤ (nI i)) := of_decide_eq_false c_8
        have n_8 : ¬ ((tX f n E j).length ≤ i) := fun h9 => c_8 ((le_nI (p := (tX f n E j).length) (n := i) (Nat.lt_trans (tx_len _ _ _ _) (by decide)) (by omega)).mpr h9)
        refine ps_st (S' := (12, [(0, .ref q), (1, .int (nI j)), (2, .int (nI i))], [.ref q], M)) rfl rfl rfl ?_
        refine ps_get (S' := (15, [(0, .ref q), (1, .int (nI j)), (2, .int (nI i))], [.ref (qq 6)], M)) rfl h_q rfl rfl ?_
        refine ps_st (S' := (16, [(0, .ref q), (1, .int (nI j)), (2, .int (nI i))], [.ref q, .ref (qq 6)], M)) rfl rfl rfl ?_
        refine ps_get (S' := (19, [(0, .ref q), (1, .int (nI j)), (2, .int (nI i))], [.ref (qq 3), .ref (qq 6)], M)) rfl h_q rfl rfl ?_
        refine ps_st (S' := (20, [(0, .ref q), (1, .int (nI j)), (2, .int (nI i))], [.int (nI j), .ref (qq 3), .ref (qq 6)], M)) rfl rfl rfl ?_
        refine ps_ald (S' := (21, [(0, .ref q), (1, .int (nI j)), (2, .int (nI i))], [.int ((F 3) (Int32.toNatClampNeg (nI j))), .ref (qq 6)], M)) rfl h_qq_3 rfl (fun i0_20 i1_20 => ?_)
        have ht1 : tg f E j = 1 := Decidable.byContradiction (fun h9 => by have h8 := congrArg List.length (tx_no (n := n) h9); simp only [List.length_nil] at h8; omega)
        obtain ⟨c0, a1, a2, a3, a4⟩ := hF.2.2.2.2 j ht1
        have hl9 := tx_len f n E j
        rw [show ((F 3) (Int32.toNatClampNeg (nI j))) = (nI c0) from (congrArg (F 3) (nI_toNat (k := j) (by omega))).trans (a1)]
        show pl _ _ _ (_, [(0, .ref q), (1, .int (nI j)), (2, .int (nI i))], [.int (nI c0), .ref (qq 6)], M) _
        refine ps_st (S' := (22, [(0, .ref q), (1, .int (nI j)), (2, .int (nI i))], [.int (nI i), .int (nI c0), .ref (qq 6)], M)) rfl rfl rfl ?_
        refine ps_st (S' := (23, [(0, .ref q), (1, .int (nI j)), (2, .int (nI i))], [.int ((nI c0) + (nI i)), .ref (qq 6)], M)) rfl rfl rfl ?_
        rw [nI_add1 (p := c0) (k := i) (x := (nI i)) rfl (by omega)]
        show pl _ _ _ (_, [(0, .ref q), (1, .int (nI j)), (2, .int (nI i))], [.int (nI (c0 + i)), .ref (qq 6)], M) _
        refine ps_ald (S' := (24, [(0, .ref q), (1, .int (nI j)), (2, .int (nI i))], [.int ((F 6) (Int32.toNatClampNeg (nI (c0 + i))))], M)) rfl h_qq_6 rfl (fun i0_23 i1_23 => ?_)
        have hb_23 := tx_ch f n E j i
        rw [show ((F 6) (Int32.toNatClampNeg (nI (c0 + i)))) = (nI ((tX f n E j).getD i 0)) from (congrArg (F 6) (nI_toNat (k := c0 + i) (by omega))).trans (a4 i (by omega))]
        show pl _ _ _ (_, [(0, .ref q), (1, .int (nI j)), (2, .int (nI i))], [.int (nI ((tX f n E j).getD i 0))], M) _
        refine ps_st (S' := (25, [(3, .int (nI ((tX f n E j).getD i 0))), (0, .ref q), (1, .int (nI j)), (2, .int (nI i))], [], M)) rfl rfl rfl ?_
        refine ps_st (S' := (26, [(3, .int (nI ((tX f n E j).getD i 0))), (0, .ref q), (1, .int (nI j)), (2, .int (nI i))], [.int (nI ((tX f n E j).getD i 0))], M)) rfl rfl rfl ?_
        refine ps_st (S' := (28, [(3, .int (nI ((tX f n E j).getD i 0))), (0, .ref q), (1, .int (nI j)), (2, .int (nI i))], [.int 60, .int (nI ((tX f n E j).getD i 0))], M)) rfl rfl rfl ?_
        refine ps_if2 (S1 := (37, [], [], M)) (S2 := (31, [(3, .int (nI ((tX f n E j).getD i 0))), (0, .ref q), (1, .int (nI j)), (2, .int (nI i))], [], M)) rfl rfl rfl (fun c_28 => ?_) (fun c_28 => ?_)
        · have c_28 : (nI ((tX f n E j).getD i 0)) = 60 := of_decide_eq_true c_28
          have n_28 : (tX f n E j).getD i 0 = 60 := (eq_nI (p := (tX f n E j).getD i 0) (n := 60) (Nat.lt_trans (tx_ch _ _ _ _ _) (by decide)) (by decide)).mp c_28
          refine ps_st (S' := (38, [], [.int 1], M)) rfl rfl rfl ?_
          exact ps_ret rfl rfl (⟨by rw [show angN (tX f n E j) = 1 from ang_in (i := i) (by omega) (by omega)]; rfl, rfl⟩)
        · have c_28 : ¬ ((nI ((tX f n E j).getD i 0)) = 60) := of_decide_eq_false c_28
          have n_28 : ¬ ((tX f n E j).getD i 0 = 60) := fun h9 => c_28 ((eq_nI (p := (tX f n E j).getD i 0) (n := 60) (Nat.lt_trans (tx_ch _ _ _ _ _) (by decide)) (by decide)).mpr h9)
          refine ps_st (S' := (32, [(3, .int (nI ((tX f n E j).getD i 0))), (0, .ref q), (1, .int (nI j)), (2, .int (nI i))], [.int (nI ((tX f n E j).getD i 0))], M)) rfl rfl rfl ?_
          refine ps_st (S' := (34, [(3, .int (nI ((tX f n E j).getD i 0))), (0, .ref q), (1, .int (nI j)), (2, .int (nI i))], [.int 62, .int (nI ((tX f n E j).getD i 0))], M)) rfl rfl rfl ?_
          refine ps_if2 (S1 := (39, [(3, .int (nI ((tX f n E j).getD i 0))), (0, .ref q), (1, .int (nI j)), (2, .int (nI i))], [], M)) (S2 := (37, [], [], M)) rfl rfl rfl (fun c_34 => ?_) (fun c_34 => ?_)
          · have c_34 : ¬ (nI ((tX f n E j).getD i 0)) = 62 := of_decide_eq_true c_34
            have n_34 : ¬ ((tX f n E j).getD i 0 = 62) := fun h9 => c_34 ((eq_nI (p := (tX f n E j).getD i 0) (n := 62) (Nat.lt_trans (tx_ch _ _ _ _ _) (by decide)) (by decide)).mpr h9)
            refine ps_st (S' := (42, [(2, .int ((nI i) + 1)), (3, .int (nI ((tX f n E j).getD i 0))), (0, .ref q), (1, .int (nI j))], [], M)) rfl rfl rfl ?_
            rw [nI_add1 (p := i) (k := 1) (x := 1) rfl (by omega)]
            show pl _ _ _ (_, [(2, .int (nI (i + 1))), (3, .int (nI ((tX f n E j).getD i 0))), (0, .ref q), (1, .int (nI j))], [], M) _
            refine ps_st (S' := (2, [(0, .ref q), (1, .int (nI j)), (2, .int (nI (i + 1)))], [], M)) rfl rfl rfl ?_
            exact ih (i + 1)  (by omega) (fun i9 h9 => by rcases Nat.lt_succ_iff_lt_or_eq.mp h9 with h8 | rfl; exact hs i9 h8; omega)
          · have c_34 : ¬ (¬ (nI ((tX f n E j).getD i 0)) = 62) := of_decide_eq_false c_34
            have n_34 : (tX f n E j).getD i 0 = 62 := (eq_nI (p := (tX f n E j).getD i 0) (n := 62) (Nat.lt_trans (tx_ch _ _ _ _ _) (by decide)) (by decide)).mp (Decidable.not_not.mp c_34)
            refine ps_st (S' := (38, [], [.int 1], M)) rfl rfl rfl ?_
            exact ps_ret rfl rfl (⟨by rw [show angN (tX f n E j) = 1 from ang_in (i := i) (by omega) (by omega)]; rfl, rfl⟩)
  refine ps_st (S' := (1, [(0, .ref q), (1, .int (nI j))], [.int 0], M)) rfl rfl rfl ?_
  refine ps_st (S' := (2, [(0, .ref q), (1, .int (nI j)), (2, .int 0)], [], M)) rfl rfl rfl ?_
  exact (LL kf) (0)  (by omega) (fun i9 h9 => by omega)
set_option maxHeartbeats 1000000 in
theorem dy_isUnqualifiedName {g : xe_G} {M : mi_H} {f : Nat → Int32} {n N q : Nat} {E : List (Nat × Nat)} {j : Nat}  (hV : PV g f n N E q M) (hj : j < 65536) : pt (mT g) 124 [.ref q, .int (nI j)] M (fun v M' => (v = some (.int (nI (unqN (tX f n E j)))) ∧ M = M')) := by
  refine pt_in (b := mb_124 g) rfl (fun kf => ?_)
  show pl (mT g) kf (mb_124 g).2 (0, [(0, .ref q), (1, .int (nI j))], [], M) _
  have hV0 := hV
  obtain ⟨hL, H, m, qq, F, cc, hP, hT, hB, hb, hF, hS⟩ := hV0
  have h_q := hP.1
  have h_qq_1 := hP.2.1 1 (by decide) (by decide)
  have h_qq_2 := hP.2.1 2 (by decide) (by decide)
  have h_qq_3 := hP.2.1 3 (by decide) (by decide)
  have h_qq_4 := hP.2.1 4 (by decide) (by decide)
  have h_qq_5 := hP.2.1 5 (by decide) (by decide)
  have h_qq_6 := hP.2.2
  have LL : ∀ (kf : Nat), (∀ (i : Nat), (i ≤ (tX f n E j).length) → (∀ i9, i9 < i → ¬ (tX f n E j).getD i9 0 = 46 ∧ ¬ (tX f n E j).getD i9 0 = 59 ∧ ¬ (tX f n E j).getD i9 0 = 91 ∧ ¬ (tX f n E j).getD i9 0 = 47) →  pl (mT g) kf (mb_124 g).2 (2, [(0, .ref q), (1, .int (nI j)), (2, .int (nI i))], [], M) (fun v M' => (v = some (.int (nI (unqN (tX f n E j)))) ∧ M = M'))) := by
    intro kf
    induction kf with
    | zero => exact (by intros; exact pl_0)
    | succ kf ih =>
      intro i hi hs
      have hl8 := tx_len f n E j
      refine ps_st1 (S' := (3, [(0, .ref q), (1, .int (nI j)), (2, .int (nI i))], [.int (nI i)], M)) rfl rfl rfl ?_
      refine ps_st (S' := (4, [(0, .ref q), (1, .int (nI j)), (2, .int (nI i))], [.ref q, .int (nI i)], M)) rfl rfl rfl ?_
      refine ps_st (S' := (5, [(0, .ref q), (1, .int (nI j)), (2, .int (nI i))], [.int (nI j), .ref q, .int (nI i)], M)) rfl rfl rfl ?_
      refine pl_call (a := [.ref q, .int (nI j)]) (rest := [.int (nI i)]) rfl rfl rfl (dy_textLength (f := f) (n := n) (N := N) (q := q) (E := E) (j := j) (hV) (by omega)) (fun v1 M2 q3 => ?_)
      obtain ⟨rfl, rfl⟩ := q3
      show pl _ _ _ (8, [(0, .ref q), (1, .int (nI j)), (2, .int (nI i))], [.int (nI ((tX f n E j).length)), .int (nI i)], M) _
      refine ps_if2 (S1 := (57, [(0, .ref q), (1, .int (nI j)), (2, .int (nI i))], [], M)) (S2 := (11, [(0, .ref q), (1, .int (nI j)), (2, .int (nI i))], [], M)) rfl rfl rfl (fun c_8 => ?_) (fun c_8 => ?_)
      · have c_8 : (nI ((tX f n E j).length)) ≤ (nI i) := of_decide_eq_true c_8
        have n_8 : (tX f n E j).length ≤ i := (le_nI (p := (tX f n E j).length) (n := i) (Nat.lt_trans (tx_len _ _ _ _) (by decide)) (by omega)).mp c_8
        refine ps_st (S' := (58, [(0, .ref q), (1, .int (nI j)), (2, .int (nI i))], [.ref q], M)) rfl rfl rfl ?_
        refine ps_st (S' := (59, [(0, .ref q), (1, .int (nI j)), (2, .int (nI i))], [.int (nI j), .ref q], M)) rfl rfl rfl ?_
        refine pl_call (a := [.ref q, .int (nI j)]) (rest := []) rfl rfl rfl (dy_textLength (f := f) (n := n) (N := N) (q := q) (E := E) (j := j) (hV) (by omega)) (fun v4 M5 q6 => ?_)
        obtain ⟨rfl, rfl⟩ := q6
        show pl _ _ _ (62, [(0, .ref q), (1, .int (nI j)), (2, .int (nI i))], [.int (nI ((tX f n E j).length))], M) _
        refine ps_if (S1 := (69, [(0, .ref q), (1, .int (nI j)), (2, .int (nI i))], [], M)) (S2 := (65, [(0, .ref q), (1, .int (nI j)), (2, .int (nI i))], [], M)) rfl rfl rfl (fun c_62 => ?_) (fun c_62 => ?_)
        · have c_62 : (nI ((tX f n E j).length)) ≤ 0 := of_decide_eq_true c_62
          have n_62 : (tX f n E j).length ≤ 0 := (le_nI (p := (tX f n E j).length) (n := 0) (Nat.lt_trans (tx_len _ _ _ _) (by decide)) (by decide)).mp c_62
          refine ps_st (S' := (70, [], [.int 0], M)) rfl rfl rfl ?_
          exact ps_ret rfl rfl (⟨by rw [show unqN (tX f n E j) = 0 from unq_nil (by omega)]; rfl, rfl⟩)
        · have c_62 : ¬ ((nI ((tX f n E j).length)) ≤ 0) := of_decide_eq_false c_62
          have n_62 : ¬ ((tX f n E j).length ≤ 0) := fun h9 => c_62 ((le_nI (p := (tX f n E j).length) (n := 0) (Nat.lt_trans (tx_len _ _ _ _) (by decide)) (by decide)).mpr h9)
          refine ps_st (S' := (66, [(0, .ref q), (1, .int (nI j)), (2, .int (nI i))], [.int 1], M)) rfl rfl rfl ?_
          refine ps_st (S' := (70, [], [.int 1], M)) rfl rfl rfl ?_
          exact ps_ret rfl rfl (⟨by rw [show unqN (tX f n E j) = 1 from unq_in (by omega) (fun i9 h9 => hs i9 (by omega))]; rfl, rfl⟩)
      · have c_8 : ¬ ((nI ((tX f n E j).length)) ≤ (nI i)) := of_decide_eq_false c_8
        have n_8 : ¬ ((tX f n E j).length ≤ i) := fun h9 => c_8 ((le_nI (p := (tX f n E j).length) (n := i) (Nat.lt_trans (tx_len _ _ _ _) (by decide)) (by omega)).mpr h9)
        refine ps_st (S' := (12, [(0, .ref q), (1, .int (nI j)), (2, .int (nI i))], [.ref q], M)) rfl rfl rfl ?_
        refine ps_get (S' := (15, [(0, .ref q), (1, .int (nI j)), (2, .int (nI i))], [.ref (qq 6)], M)) rfl h_q rfl rfl ?_
        refine ps_st (S' := (16, [(0, .ref q), (1, .int (nI j)), (2, .int (nI i))], [.ref q, .ref (qq 6)], M)) rfl rfl rfl ?_
        refine ps_get (S' := (19, [(0, .ref q), (1, .int (nI j)), (2, .int (nI i))], [.ref (qq 3), .ref (qq 6)], M)) rfl h_q rfl rfl ?_
        refine ps_st (S' := (20, [(0, .ref q), (1, .int (nI j)), (2, .int (nI i))], [.int (nI j), .ref (qq 3), .ref (qq 6)], M)) rfl rfl rfl ?_
        refine ps_ald (S' := (21, [(0, .ref q), (1, .int (nI j)), (2, .int (nI i))], [.int ((F 3) (Int32.toNatClampNeg (nI j))), .ref (qq 6)], M)) rfl h_qq_3 rfl (fun i0_20 i1_20 => ?_)
        have ht1 : tg f E j = 1 := Decidable.byContradiction (fun h9 => by have h8 := congrArg List.length (tx_no (n := n) h9); simp only [List.length_nil] at h8; omega)
        obtain ⟨c0, a1, a2, a3, a4⟩ := hF.2.2.2.2 j ht1
        have hl9 := tx_len f n E j
        rw [show ((F 3) (Int32.toNatClampNeg (nI j))) = (nI c0) from (congrArg (F 3) (nI_toNat (k := j) (by omega))).trans (a1)]
        show pl _ _ _ (_, [(0, .ref q), (1, .int (nI j)), (2, .int (nI i))], [.int (nI c0), .ref (qq 6)], M) _
        refine ps_st (S' := (22, [(0, .ref q), (1, .int (nI j)), (2, .int (nI i))], [.int (nI i), .int (nI c0), .ref (qq 6)], M)) rfl rfl rfl ?_
        refine ps_st (S' := (23, [(0, .ref q), (1, .int (nI j)), (2, .int (nI i))], [.int ((nI c0) + (nI i)), .ref (qq 6)], M)) rfl rfl rfl ?_
        rw [nI_add1 (p := c0) (k := i) (x := (nI i)) rfl (by omega)]
        show pl _ _ _ (_, [(0, .ref q), (1, .int (nI j)), (2, .int (nI i))], [.int (nI (c0 + i)), .ref (qq 6)], M) _
        refine ps_ald (S' := (24, [(0, .ref q), (1, .int (nI j)), (2, .int (nI i))], [.int ((F 6) (Int32.toNatClampNeg (nI (c0 + i))))], M)) rfl h_qq_6 rfl (fun i0_23 i1_23 => ?_)
        have hb_23 := tx_ch f n E j i
        rw [show ((F 6) (Int32.toNatClampNeg (nI (c0 + i)))) = (nI ((tX f n E j).getD i 0)) from (congrArg (F 6) (nI_toNat (k := c0 + i) (by omega))).trans (a4 i (by omega))]
        show pl _ _ _ (_, [(0, .ref q), (1, .int (nI j)), (2, .int (nI i))], [.int (nI ((tX f n E j).getD i 0))], M) _
        refine ps_st (S' := (25, [(3, .int (nI ((tX f n E j).getD i 0))), (0, .ref q), (1, .int (nI j)), (2, .int (nI i))], [], M)) rfl rfl rfl ?_
        refine ps_st (S' := (26, [(3, .int (nI ((tX f n E j).getD i 0))), (0, .ref q), (1, .int (nI j)), (2, .int (nI i))], [.int (nI ((tX f n E j).getD i 0))], M)) rfl rfl rfl ?_
        refine ps_st (S' := (28, [(3, .int (nI ((tX f n E j).getD i 0))), (0, .ref q), (1, .int (nI j)), (2, .int (nI i))], [.int 46, .int (nI ((tX f n E j).getD i 0))], M)) rfl rfl rfl ?_
        refine ps_if2 (S1 := (49, [], [], M)) (S2 := (31, [(3, .int (nI ((tX f n E j).getD i 0))), (0, .ref q), (1, .int (nI j)), (2, .int (nI i))], [], M)) rfl rfl rfl (fun c_28 => ?_) (fun c_28 => ?_)
        · have c_28 : (nI ((tX f n E j).getD i 0)) = 46 := of_decide_eq_true c_28
          have n_28 : (tX f n E j).getD i 0 = 46 := (eq_nI (p := (tX f n E j).getD i 0) (n := 46) (Nat.lt_trans (tx_ch _ _ _ _ _) (by decide)) (by decide)).mp c_28
          refine ps_st (S' := (50, [], [.int 0], M)) rfl rfl rfl ?_
          exact ps_ret rfl rfl (⟨by rw [show unqN (tX f n E j) = 0 from unq_no (i := i) (by omega) (by omega)]; rfl, rfl⟩)
        · have c_28 : ¬ ((nI ((tX f n E j).getD i 0)) = 46) := of_decide_eq_false c_28
          have n_28 : ¬ ((tX f n E j).getD i 0 = 46) := fun h9 => c_28 ((eq_nI (p := (tX f n E j).getD i 0) (n := 46) (Nat.lt_trans (tx_ch _ _ _ _ _) (by decide)) (by decide)).mpr h9)
          refine ps_st (S' := (32, [(3, .int (nI ((tX f n E j).getD i 0))), (0, .ref q), (1, .int (nI j)), (2, .int (nI i))], [.int (nI ((tX f n E j).getD i 0))], M)) rfl rfl rfl ?_
          refine ps_st (S' := (34, [(3, .int (nI ((tX f n E j).getD i 0))), (0, .ref q), (1, .int (nI j)), (2, .int (nI i))], [.int 59, .int (nI ((tX f n E j).getD i 0))], M)) rfl rfl rfl ?_
          refine ps_if2 (S1 := (49, [], [], M)) (S2 := (37, [(3, .int (nI ((tX f n E j).getD i 0))), (0, .ref q), (1, .int (nI j)), (2, .int (nI i))], [], M)) rfl rfl rfl (fun c_34 => ?_) (fun c_34 => ?_)
          · have c_34 : (nI ((tX f n E j).getD i 0)) = 59 := of_decide_eq_true c_34
            have n_34 : (tX f n E j).getD i 0 = 59 := (eq_nI (p := (tX f n E j).getD i 0) (n := 59) (Nat.lt_trans (tx_ch _ _ _ _ _) (by decide)) (by decide)).mp c_34
            refine ps_st (S' := (50, [], [.int 0], M)) rfl rfl rfl ?_
            exact ps_ret rfl rfl (⟨by rw [show unqN (tX f n E j) = 0 from unq_no (i := i) (by omega) (by omega)]; rfl, rfl⟩)
          · have c_34 : ¬ ((nI ((tX f n E j).getD i 0)) = 59) := of_decide_eq_false c_34
            have n_34 : ¬ ((tX f n E j).getD i 0 = 59) := fun h9 => c_34 ((eq_nI (p := (tX f n E j).getD i 0) (n := 59) (Nat.lt_trans (tx_ch _ _ _ _ _) (by decide)) (by decide)).mpr h9)
            refine ps_st (S' := (38, [(3, .int (nI ((tX f n E j).getD i 0))), (0, .ref q), (1, .int (nI j)), (2, .int (nI i))], [.int (nI ((tX f n E j).getD i 0))], M)) rfl rfl rfl ?_
            refine ps_st (S' := (40, [(3, .int (nI ((tX f n E j).getD i 0))), (0, .ref q), (1, .int (nI j)), (2, .int (nI i))], [.int 91, .int (nI ((tX f n E j).getD i 0))], M)) rfl rfl rfl ?_
            refine ps_if2 (S1 := (49, [], [], M)) (S2 := (43, [(3, .int (nI ((tX f n E j).getD i 0))), (0, .ref q), (1, .int (nI j)), (2, .int (nI i))], [], M)) rfl rfl rfl (fun c_40 => ?_) (fun c_40 => ?_)
            · have c_40 : (nI ((tX f n E j).getD i 0)) = 91 := of_decide_eq_true c_40
              have n_40 : (tX f n E j).getD i 0 = 91 := (eq_nI (p := (tX f n E j).getD i 0) (n := 91) (Nat.lt_trans (tx_ch _ _ _ _ _) (by decide)) (by decide)).mp c_40
              refine ps_st (S' := (50, [], [.int 0], M)) rfl rfl rfl ?_
              exact ps_ret rfl rfl (⟨by rw [show unqN (tX f n E j) = 0 from unq_no (i := i) (by omega) (by omega)]; rfl, rfl⟩)
            · have c_40 : ¬ ((nI ((tX f n E j).getD i 0)) = 91) := of_decide_eq_false c_40
              have n_40 : ¬ ((tX f n E j).getD i 0 = 91) := fun h9 => c_40 ((eq_nI (p := (tX f n E j).getD i 0) (n := 91) (Nat.lt_trans (tx_ch _ _ _ _ _) (by decide)) (by decide)).mpr h9)
              refine ps_st (S' := (44, [(3, .int (nI ((tX f n E j).getD i 0))), (0, .ref q), (1, .int (nI j)), (2, .int (nI i))], [.int (nI ((tX f n E j).getD i 0))], M)) rfl rfl rfl ?_
              refine ps_st (S' := (46, [(3, .int (nI ((tX f n E j).getD i 0))), (0, .ref q), (1, .int (nI j)), (2, .int (nI i))], [.int 47, .int (nI ((tX f n E j).getD i 0))], M)) rfl rfl rfl ?_
              refine ps_if2 (S1 := (51, [(3, .int (nI ((tX f n E j).getD i 0))), (0, .ref q), (1, .int (nI j)), (2, .int (nI i))], [], M)) (S2 := (49, [], [], M)) rfl rfl rfl (fun c_46 => ?_) (fun c_46 => ?_)
              · have c_46 : ¬ (nI ((tX f n E j).getD i 0)) = 47 := of_decide_eq_true c_46
                have n_46 : ¬ ((tX f n E j).getD i 0 = 47) := fun h9 => c_46 ((eq_nI (p := (tX f n E j).getD i 0) (n := 47) (Nat.lt_trans (tx_ch _ _ _ _ _) (by decide)) (by decide)).mpr h9)
                refine ps_st (S' := (54, [(2, .int ((nI i) + 1)), (3, .int (nI ((tX f n E j).getD i 0))), (0, .ref q), (1, .int (nI j))], [], M)) rfl rfl rfl ?_
                rw [nI_add1 (p := i) (k := 1) (x := 1) rfl (by omega)]
                show pl _ _ _ (_, [(2, .int (nI (i + 1))), (3, .int (nI ((tX f n E j).getD i 0))), (0, .ref q), (1, .int (nI j))], [], M) _
                refine ps_st (S' := (2, [(0, .ref q), (1, .int (nI j)), (2, .int (nI (i + 1)))], [], M)) rfl rfl rfl ?_
                exact ih (i + 1)  (by omega) (fun i9 h9 => by rcases Nat.lt_succ_iff_lt_or_eq.mp h9 with h8 | rfl; exact hs i9 h8; omega)
              · have c_46 : ¬ (¬ (nI ((tX f n E j).getD i 0)) = 47) := of_decide_eq_false c_46
                have n_46 : (tX f n E j).getD i 0 = 47 := (eq_nI (p := (tX f n E j).getD i 0) (n := 47) (Nat.lt_trans (tx_ch _ _ _ _ _) (by decide)) (by decide)).mp (Decidable.not_not.mp c_46)
                refine ps_st (S' := (50, [], [.int 0], M)) rfl rfl rfl ?_
                exact ps_ret rfl rfl (⟨by rw [show unqN (tX f n E j) = 0 from unq_no (i := i) (by omega) (by omega)]; rfl, rfl⟩)
  refine ps_st (S' := (1, [(0, .ref q), (1, .int (nI j))], [.int 0], M)) rfl rfl rfl ?_
  refine ps_st (S' := (2, [(0, .ref q), (1, .int (nI j)), (2, .int 0)], [], M)) rfl rfl rfl ?_
  exact (LL kf) (0)  (by omega) (fun i9 h9 => by omega)
set_option maxHeartbeats 1000000 in
theorem dy_textIs {g : xe_G} {M : mi_H} {f : Nat → Int32} {n N q : Nat} {E : List (Nat × Nat)} {j k : Nat}  (hV : PV g f n N E q M) (hj : j < 65536) (hk : k < 15) : pt (mT g) 140 [.ref q, .int (nI j), .ref (g.2.1 k)] M (fun v M' => (v = some (.int (nI (eqN (tX f n E j) (ltx k)))) ∧ M = M')) := by
  refine pt_in (b := mb_140 g) rfl (fun kf => ?_)
  show pl (mT g) kf (mb_140 g).2 (0, [(0, .ref q), (1, .int (nI j)), (2, .ref (g.2.1 k))], [], M) _
  have hV0 := hV
  obtain ⟨hL, H, m, qq, F, cc, hP, hT, hB, hb, hF, hS⟩ := hV0
  have h_q := hP.1
  have h_qq_1 := hP.2.1 1 (by decide) (by decide)
  have h_qq_2 := hP.2.1 2 (by decide) (by decide)
  have h_qq_3 := hP.2.1 3 (by decide) (by decide)
  have h_qq_4 := hP.2.1 4 (by decide) (by decide)
  have h_qq_5 := hP.2.1 5 (by decide) (by decide)
  have h_qq_6 := hP.2.2
  obtain ⟨hl0, k9, fl9, hk9, hlt, htx⟩ := hL k hk
  have hll : (xe_lt k9).2.2.2.length = (ltx k).length := by rw [htx]; unfold ltx; simp
  have hl7 := (ltx_ch k (by omega) 0 (by decide)).2
  have LL : ∀ (kf : Nat), (∀ (i : Nat), (tg f E j = 1) → ((tX f n E j).length = (ltx k).length) → (i ≤ (ltx k).length) → (∀ i9, i9 < i → (tX f n E j).getD i9 0 = (ltx k).getD i9 0) →  pl (mT g) kf (mb_140 g).2 (26, [(0, .ref q), (1, .int (nI j)), (2, .ref (g.2.1 k)), (3, .int (nI i))], [], M) (fun v M' => (v = some (.int (nI (eqN (tX f n E j) (ltx k)))) ∧ M = M'))) := by
    intro kf
    induction kf with
    | zero => exact (by intros; exact pl_0)
    | succ kf ih =>
      intro i ht1 he hi hs
      obtain ⟨c0, a1, a2, a3, a4⟩ := hF.2.2.2.2 j ht1
      refine ps_st1 (S' := (27, [(0, .ref q), (1, .int (nI j)), (2, .ref (g.2.1 k)), (3, .int (nI i))], [.int (nI i)], M)) rfl rfl rfl ?_
      refine ps_st (S' := (28, [(0, .ref q), (1, .int (nI j)), (2, .ref (g.2.1 k)), (3, .int (nI i))], [.ref (g.2.1 k), .int (nI i)], M)) rfl rfl rfl ?_
      refine ps_slen (S' := (31, [(0, .ref q), (1, .int (nI j)), (2, .ref (g.2.1 k)), (3, .int (nI i))], [.int (nI (ltx k).length), .int (nI i)], M)) rfl hlt (hll) rfl ?_
      refine ps_if2 (S1 := (63, [(0, .ref q), (1, .int (nI j)), (2, .ref (g.2.1 k)), (3, .int (nI i))], [], M)) (S2 := (34, [(0, .ref q), (1, .int (nI j)), (2, .ref (g.2.1 k)), (3, .int (nI i))], [], M)) rfl rfl rfl (fun c_31 => ?_) (fun c_31 => ?_)
      · have c_31 : (nI (ltx k).length) ≤ (nI i) := of_decide_eq_true c_31
        have n_31 : (ltx k).length ≤ i := (le_nI (p := (ltx k).length) (n := i) (by omega) (by omega)).mp c_31
        refine ps_st (S' := (64, [(0, .ref q), (1, .int (nI j)), (2, .ref (g.2.1 k)), (3, .int (nI i))], [.int 1], M)) rfl rfl rfl ?_
        exact ps_ret rfl rfl (⟨by rw [show eqN (tX f n E j) (ltx k) = 1 from if_pos (gd_ext (by omega) (fun i9 h9 => hs i9 (by omega)))]; rfl, rfl⟩)
      · have c_31 : ¬ ((nI (ltx k).length) ≤ (nI i)) := of_decide_eq_false c_31
        have n_31 : ¬ ((ltx k).length ≤ i) := fun h9 => c_31 ((le_nI (p := (ltx k).length) (n := i) (by omega) (by omega)).mpr h9)
        refine ps_st (S' := (35, [(0, .ref q), (1, .int (nI j)), (2, .ref (g.2.1 k)), (3, .int (nI i))], [.ref q], M)) rfl rfl rfl ?_
        refine ps_get (S' := (38, [(0, .ref q), (1, .int (nI j)), (2, .ref (g.2.1 k)), (3, .int (nI i))], [.ref (qq 6)], M)) rfl h_q rfl rfl ?_
        refine ps_st (S' := (39, [(0, .ref q), (1, .int (nI j)), (2, .ref (g.2.1 k)), (3, .int (nI i))], [.ref q, .ref (qq 6)], M)) rfl rfl rfl ?_
        refine ps_get (S' := (42, [(0, .ref q), (1, .int (nI j)), (2, .ref (g.2.1 k)), (3, .int (nI i))], [.ref (qq 3), .ref (qq 6)], M)) rfl h_q rfl rfl ?_
        refine ps_st (S' := (43, [(0, .ref q), (1, .int (nI j)), (2, .ref (g.2.1 k)), (3, .int (nI i))], [.int (nI j), .ref (qq 3), .ref (qq 6)], M)) rfl rfl rfl ?_
        refine ps_ald (S' := (44, [(0, .ref q), (1, .int (nI j)), (2, .ref (g.2.1 k)), (3, .int (nI i))], [.int ((F 3) (Int32.toNatClampNeg (nI j))), .ref (qq 6)], M)) rfl h_qq_3 rfl (fun i0_43 i1_43 => ?_)
        have hl9 := tx_len f n E j
        rw [show ((F 3) (Int32.toNatClampNeg (nI j))) = (nI c0) from (congrArg (F 3) (nI_toNat (k := j) (by omega))).trans (a1)]
        show pl _ _ _ (_, [(0, .ref q), (1, .int (nI j)), (2, .ref (g.2.1 k)), (3, .int (nI i))], [.int (nI c0), .ref (qq 6)], M) _
        refine ps_st (S' := (45, [(0, .ref q), (1, .int (nI j)), (2, .ref (g.2.1 k)), (3, .int (nI i))], [.int (nI i), .int (nI c0), .ref (qq 6)], M)) rfl rfl rfl ?_
        refine ps_st (S' := (46, [(0, .ref q), (1, .int (nI j)), (2, .ref (g.2.1 k)), (3, .int (nI i))], [.int ((nI c0) + (nI i)), .ref (qq 6)], M)) rfl rfl rfl ?_
        rw [nI_add1 (p := c0) (k := i) (x := (nI i)) rfl (by omega)]
        show pl _ _ _ (_, [(0, .ref q), (1, .int (nI j)), (2, .ref (g.2.1 k)), (3, .int (nI i))], [.int (nI (c0 + i)), .ref (qq 6)], M) _
        refine ps_ald (S' := (47, [(0, .ref q), (1, .int (nI j)), (2, .ref (g.2.1 k)), (3, .int (nI i))], [.int ((F 6) (Int32.toNatClampNeg (nI (c0 + i))))], M)) rfl h_qq_6 rfl (fun i0_46 i1_46 => ?_)
        have hb_46 := tx_ch f n E j i
        have hb9_46 := (ltx_ch k (by omega) i (by omega)).1
        rw [show ((F 6) (Int32.toNatClampNeg (nI (c0 + i)))) = (nI ((tX f n E j).getD i 0)) from (congrArg (F 6) (nI_toNat (k := c0 + i) (by omega))).trans (a4 i (by omega))]
        show pl _ _ _ (_, [(0, .ref q), (1, .int (nI j)), (2, .ref (g.2.1 k)), (3, .int (nI i))], [.int (nI ((tX f n E j).getD i 0))], M) _
        refine ps_st (S' := (48, [(0, .ref q), (1, .int (nI j)), (2, .ref (g.2.1 k)), (3, .int (nI i))], [.ref (g.2.1 k), .int (nI ((tX f n E j).getD i 0))], M)) rfl rfl rfl ?_
        refine ps_st (S' := (49, [(0, .ref q), (1, .int (nI j)), (2, .ref (g.2.1 k)), (3, .int (nI i))], [.int (nI i), .ref (g.2.1 k), .int (nI ((tX f n E j).getD i 0))], M)) rfl rfl rfl ?_
        refine ps_schar (S' := (52, [(0, .ref q), (1, .int (nI j)), (2, .ref (g.2.1 k)), (3, .int (nI i))], [.int (nI ((ltx k).getD i 0)), .int (nI ((tX f n E j).getD i 0))], M)) rfl hlt ⟨(by omega : k < 30), htx⟩ (by omega) rfl ?_
        refine ps_if2 (S1 := (57, [(0, .ref q), (1, .int (nI j)), (2, .ref (g.2.1 k)), (3, .int (nI i))], [], M)) (S2 := (55, [(0, .ref q), (1, .int (nI j)), (2, .ref (g.2.1 k)), (3, .int (nI i))], [], M)) rfl rfl rfl (fun c_52 => ?_) (fun c_52 => ?_)
        · have c_52 : (nI ((tX f n E j).getD i 0)) = (nI ((ltx k).getD i 0)) := of_decide_eq_true c_52
          have n_52 : (tX f n E j).getD i 0 = (ltx k).getD i 0 := (eq_nI (p := (tX f n E j).getD i 0) (n := (ltx k).getD i 0) (Nat.lt_trans (tx_ch _ _ _ _ _) (by decide)) (by omega)).mp c_52
          refine ps_st (S' := (60, [(3, .int ((nI i) + 1)), (0, .ref q), (1, .int (nI j)), (2, .ref (g.2.1 k))], [], M)) rfl rfl rfl ?_
          rw [nI_add1 (p := i) (k := 1) (x := 1) rfl (by omega)]
          show pl _ _ _ (_, [(3, .int (nI (i + 1))), (0, .ref q), (1, .int (nI j)), (2, .ref (g.2.1 k))], [], M) _
          refine ps_st (S' := (26, [(0, .ref q), (1, .int (nI j)), (2, .ref (g.2.1 k)), (3, .int (nI (i + 1)))], [], M)) rfl rfl rfl ?_
          exact ih (i + 1)  (ht1) (he) (by omega) (fun i9 h9 => by rcases Nat.lt_succ_iff_lt_or_eq.mp h9 with h8 | rfl; exact hs i9 h8; omega)
        · have c_52 : ¬ ((nI ((tX f n E j).getD i 0)) = (nI ((ltx k).getD i 0))) := of_decide_eq_false c_52
          have n_52 : ¬ ((tX f n E j).getD i 0 = (ltx k).getD i 0) := fun h9 => c_52 ((eq_nI (p := (tX f n E j).getD i 0) (n := (ltx k).getD i 0) (Nat.lt_trans (tx_ch _ _ _ _ _) (by decide)) (by omega)).mpr h9)
          refine ps_st (S' := (56, [(0, .ref q), (1, .int (nI j)), (2, .ref (g.2.1 k)), (3, .int (nI i))], [.int 0], M)) rfl rfl rfl ?_
          exact ps_ret rfl rfl (⟨by rw [show eqN (tX f n E j) (ltx k) = 0 from if_neg (fun h9 => by rw [h9] at n_52; exact n_52 rfl)]; rfl, rfl⟩)
  refine ps_st (S' := (1, [(0, .ref q), (1, .int (nI j)), (2, .ref (g.2.1 k))], [.ref q], M)) rfl rfl rfl ?_
  refine ps_st (S' := (2, [(0, .ref q), (1, .int (nI j)), (2, .ref (g.2.1 k))], [.int (nI j), .ref q], M)) rfl rfl rfl ?_
  refine pl_call (a := [.ref q, .int (nI j)]) (rest := []) rfl rfl rfl (dy_tagOf (f := f) (n := n) (N := N) (q := q) (E := E) (j := j) (hV) (by omega)) (fun v1 M2 q3 => ?_)
  obtain ⟨rfl, rfl⟩ := q3
  show pl _ _ _ (5, [(0, .ref q), (1, .int (nI j)), (2, .ref (g.2.1 k))], [.int (nI (tg f E j))], M) _
  refine ps_st (S' := (6, [(0, .ref q), (1, .int (nI j)), (2, .ref (g.2.1 k))], [.int 1, .int (nI (tg f E j))], M)) rfl rfl rfl ?_
  refine ps_if2 (S1 := (22, [], [], M)) (S2 := (9, [(0, .ref q), (1, .int (nI j)), (2, .ref (g.2.1 k))], [], M)) rfl rfl rfl (fun c_6 => ?_) (fun c_6 => ?_)
  · have c_6 : ¬ (nI (tg f E j)) = 1 := of_decide_eq_true c_6
    have n_6 : ¬ (tg f E j = 1) := fun h9 => c_6 ((eq_nI (p := tg f E j) (n := 1) (Nat.lt_trans (tg_lt _ _ _) (by decide)) (by decide)).mpr h9)
    refine ps_st (S' := (23, [], [.int 0], M)) rfl rfl rfl ?_
    exact ps_ret rfl rfl (⟨by rw [show eqN (tX f n E j) (ltx k) = 0 from if_neg (fun h9 => by have h8 := tx_no (n := n) n_6; rw [h8] at h9; exact ltx_ne k (by omega) h9.symm)]; rfl, rfl⟩)
  · have c_6 : ¬ (¬ (nI (tg f E j)) = 1) := of_decide_eq_false c_6
    have n_6 : tg f E j = 1 := (eq_nI (p := tg f E j) (n := 1) (Nat.lt_trans (tg_lt _ _ _) (by decide)) (by decide)).mp (Decidable.not_not.mp c_6)
    refine ps_st (S' := (10, [(0, .ref q), (1, .int (nI j)), (2, .ref (g.2.1 k))], [.ref q], M)) rfl rfl rfl ?_
    refine ps_get (S' := (13, [(0, .ref q), (1, .int (nI j)), (2, .ref (g.2.1 k))], [.ref (qq 4)], M)) rfl h_q rfl rfl ?_
    refine ps_st (S' := (14, [(0, .ref q), (1, .int (nI j)), (2, .ref (g.2.1 k))], [.int (nI j), .ref (qq 4)], M)) rfl rfl rfl ?_
    refine ps_ald (S' := (15, [(0, .ref q), (1, .int (nI j)), (2, .ref (g.2.1 k))], [.int ((F 4) (Int32.toNatClampNeg (nI j)))], M)) rfl h_qq_4 rfl (fun i0_14 i1_14 => ?_)
    have ht1 : tg f E j = 1 := by omega
    have hl9 := tx_len f n E j
    rw [show ((F 4) (Int32.toNatClampNeg (nI j))) = (nI (tX f n E j).length) from (congrArg (F 4) (nI_toNat (k := j) (by omega))).trans (hF.2.2.2.2 j ht1 |>.choose_spec.2.1)]
    show pl _ _ _ (_, [(0, .ref q), (1, .int (nI j)), (2, .ref (g.2.1 k))], [.int (nI (tX f n E j).length)], M) _
    refine ps_st (S' := (16, [(0, .ref q), (1, .int (nI j)), (2, .ref (g.2.1 k))], [.ref (g.2.1 k), .int (nI (tX f n E j).length)], M)) rfl rfl rfl ?_
    refine ps_slen (S' := (19, [(0, .ref q), (1, .int (nI j)), (2, .ref (g.2.1 k))], [.int (nI (ltx k).length), .int (nI (tX f n E j).length)], M)) rfl hlt (hll) rfl ?_
    refine ps_if2 (S1 := (24, [(0, .ref q), (1, .int (nI j)), (2, .ref (g.2.1 k))], [], M)) (S2 := (22, [], [], M)) rfl rfl rfl (fun c_19 => ?_) (fun c_19 => ?_)
    · have c_19 : (nI (tX f n E j).length) = (nI (ltx k).length) := of_decide_eq_true c_19
      have n_19 : (tX f n E j).length = (ltx k).length := (eq_nI (p := (tX f n E j).length) (n := (ltx k).length) (Nat.lt_trans (tx_len _ _ _ _) (by decide)) (by omega)).mp c_19
      refine ps_st (S' := (25, [(0, .ref q), (1, .int (nI j)), (2, .ref (g.2.1 k))], [.int 0], M)) rfl rfl rfl ?_
      refine ps_st (S' := (26, [(0, .ref q), (1, .int (nI j)), (2, .ref (g.2.1 k)), (3, .int 0)], [], M)) rfl rfl rfl ?_
      exact (LL kf) (0)  (ht1) (by omega) (by omega) (fun i9 h9 => by omega)
    · have c_19 : ¬ ((nI (tX f n E j).length) = (nI (ltx k).length)) := of_decide_eq_false c_19
      have n_19 : ¬ ((tX f n E j).length = (ltx k).length) := fun h9 => c_19 ((eq_nI (p := (tX f n E j).length) (n := (ltx k).length) (Nat.lt_trans (tx_len _ _ _ _) (by decide)) (by omega)).mpr h9)
      refine ps_st (S' := (23, [], [.int 0], M)) rfl rfl rfl ?_
      exact ps_ret rfl rfl (⟨by rw [show eqN (tX f n E j) (ltx k) = 0 from if_neg (fun h9 => by have h8 := congrArg List.length h9; omega)]; rfl, rfl⟩)
theorem dy_char0 {g : xe_G} {M : mi_H} {f : Nat → Int32} {n N q : Nat} {E : List (Nat × Nat)} {j : Nat}  (hV : PV g f n N E q M) (hj : j < 65536) : pt (mT g) 113 [.ref q, .int (nI j), .int 0] M (fun v M' => ((0 < (tX f n E j).length) ∧ v = some (.int (nI ((tX f n E j).getD 0 0))) ∧ M = M') ∨ ((¬ 0 < (tX f n E j).length) ∧ v = some (.int (-1)) ∧ M = M')) := by
  refine (dy_characterAt (i := 0) hV hj (by decide)).mono (fun v M' h => ?_)
  by_cases h1 : 0 < (tX f n E j).length
  · exact Or.inl ⟨h1, by rw [h.1, if_pos h1], h.2⟩
  · exact Or.inr ⟨h1, by rw [h.1, if_neg h1], h.2⟩
set_option maxHeartbeats 1000000 in
theorem dy_isClassText {g : xe_G} {M : mi_H} {f : Nat → Int32} {n N q : Nat} {E : List (Nat × Nat)} {j : Nat}  (hV : PV g f n N E q M) (hj : j < 65536) : pt (mT g) 120 [.ref q, .int (nI j)] M (fun v M' => (v = some (.int (nI (clsN (tX f n E j)))) ∧ M = M')) := by
  refine pt_in (b := mb_120 g) rfl (fun kf => ?_)
  show pl (mT g) kf (mb_120 g).2 (0, [(0, .ref q), (1, .int (nI j))], [], M) _
  have hV0 := hV
  obtain ⟨hL, H, m, qq, F, cc, hP, hT, hB, hb, hF, hS⟩ := hV0
  have h_q := hP.1
  have h_qq_1 := hP.2.1 1 (by decide) (by decide)
  have h_qq_2 := hP.2.1 2 (by decide) (by decide)
  have h_qq_3 := hP.2.1 3 (by decide) (by decide)
  have h_qq_4 := hP.2.1 4 (by decide) (by decide)
  have h_qq_5 := hP.2.1 5 (by decide) (by decide)
  have h_qq_6 := hP.2.2
  have hl8 := tx_len f n E j
  refine ps_st (S' := (1, [(0, .ref q), (1, .int (nI j))], [.ref q], M)) rfl rfl rfl ?_
  refine ps_st (S' := (2, [(0, .ref q), (1, .int (nI j))], [.int (nI j), .ref q], M)) rfl rfl rfl ?_
  refine ps_st (S' := (3, [(0, .ref q), (1, .int (nI j))], [.int 0, .int (nI j), .ref q], M)) rfl rfl rfl ?_
  refine pl_call (a := [.ref q, .int (nI j), .int 0]) (rest := []) rfl rfl rfl (dy_char0 (f := f) (n := n) (N := N) (q := q) (E := E) (j := j) (hV) (by omega)) (fun v1 M2 q3 => ?_)
  rcases q3 with q3 | q3
  · skip
    obtain ⟨q3_a, rfl, rfl⟩ := q3
    show pl _ _ _ (6, [(0, .ref q), (1, .int (nI j))], [.int (nI ((tX f n E j).getD 0 0))], M) _
    have hb_3 := tx_ch f n E j 0
    refine ps_st (S' := (8, [(0, .ref q), (1, .int (nI j))], [.int 91, .int (nI ((tX f n E j).getD 0 0))], M)) rfl rfl rfl ?_
    refine ps_if2 (S1 := (17, [(0, .ref q), (1, .int (nI j))], [], M)) (S2 := (11, [(0, .ref q), (1, .int (nI j))], [], M)) rfl rfl rfl (fun c_8 => ?_) (fun c_8 => ?_)
    · have c_8 : ¬ (nI ((tX f n E j).getD 0 0)) = 91 := of_decide_eq_true c_8
      have n_8 : ¬ ((tX f n E j).getD 0 0 = 91) := fun h9 => c_8 ((eq_nI (p := (tX f n E j).getD 0 0) (n := 91) (Nat.lt_trans (tx_ch _ _ _ _ _) (by decide)) (by decide)).mpr h9)
      refine ps_st (S' := (18, [(0, .ref q), (1, .int (nI j))], [.ref q], M)) rfl rfl rfl ?_
      refine ps_st (S' := (19, [(0, .ref q), (1, .int (nI j))], [.int (nI j), .ref q], M)) rfl rfl rfl ?_
      refine pl_call (a := [.ref q, .int (nI j)]) (rest := []) rfl rfl rfl (dy_tagOf (f := f) (n := n) (N := N) (q := q) (E := E) (j := j) (hV) (by omega)) (fun v4 M5 q6 => ?_)
      obtain ⟨rfl, rfl⟩ := q6
      show pl _ _ _ (22, [(0, .ref q), (1, .int (nI j))], [.int (nI (tg f E j))], M) _
      refine ps_st (S' := (23, [(0, .ref q), (1, .int (nI j))], [.int 1, .int (nI (tg f E j))], M)) rfl rfl rfl ?_
      refine ps_if2 (S1 := (35, [(0, .ref q), (1, .int (nI j))], [], M)) (S2 := (26, [(0, .ref q), (1, .int (nI j))], [], M)) rfl rfl rfl (fun c_23 => ?_) (fun c_23 => ?_)
      · have c_23 : ¬ (nI (tg f E j)) = 1 := of_decide_eq_true c_23
        have n_23 : ¬ (tg f E j = 1) := fun h9 => c_23 ((eq_nI (p := tg f E j) (n := 1) (Nat.lt_trans (tg_lt _ _ _) (by decide)) (by decide)).mpr h9)
        refine ps_st (S' := (36, [(0, .ref q), (1, .int (nI j))], [.int 0], M)) rfl rfl rfl ?_
        refine ps_st (S' := (37, [(2, .int 0), (0, .ref q), (1, .int (nI j))], [], M)) rfl rfl rfl ?_
        refine ps_st (S' := (38, [(2, .int 0), (0, .ref q), (1, .int (nI j))], [.int 0], M)) rfl rfl rfl ?_
        refine ps_st (S' := (39, [(2, .int 0), (0, .ref q), (1, .int (nI j))], [.ref q, .int 0], M)) rfl rfl rfl ?_
        refine ps_st (S' := (40, [(2, .int 0), (0, .ref q), (1, .int (nI j))], [.int (nI j), .ref q, .int 0], M)) rfl rfl rfl ?_
        refine pl_call (a := [.ref q, .int (nI j)]) (rest := [.int 0]) rfl rfl rfl (dy_textLength (f := f) (n := n) (N := N) (q := q) (E := E) (j := j) (hV) (by omega)) (fun v7 M8 q9 => ?_)
        obtain ⟨rfl, rfl⟩ := q9
        show pl _ _ _ (43, [(2, .int 0), (0, .ref q), (1, .int (nI j))], [.int (nI ((tX f n E j).length)), .int 0], M) _
        refine ps_st (S' := (44, [(2, .int 0), (0, .ref q), (1, .int (nI j))], [.int (0 + (nI ((tX f n E j).length)))], M)) rfl rfl rfl ?_
        rw [nI_add2 (p := 0) (k := (tX f n E j).length) (x := 0) (y := (nI ((tX f n E j).length))) rfl rfl (by omega)]
        show pl _ _ _ (_, [(2, .int 0), (0, .ref q), (1, .int (nI j))], [.int (nI (0 + (tX f n E j).length))], M) _
        refine ps_st (S' := (45, [(3, .int (nI (0 + (tX f n E j).length))), (2, .int 0), (0, .ref q), (1, .int (nI j))], [], M)) rfl rfl rfl ?_
        refine ps_st (S' := (46, [(3, .int (nI (0 + (tX f n E j).length))), (2, .int 0), (0, .ref q), (1, .int (nI j))], [.ref q], M)) rfl rfl rfl ?_
        refine ps_st (S' := (47, [(3, .int (nI (0 + (tX f n E j).length))), (2, .int 0), (0, .ref q), (1, .int (nI j))], [.int 0, .ref q], M)) rfl rfl rfl ?_
        refine ps_st (S' := (48, [(3, .int (nI (0 + (tX f n E j).length))), (2, .int 0), (0, .ref q), (1, .int (nI j))], [.int (nI (0 + (tX f n E j).length)), .int 0, .ref q], M)) rfl rfl rfl ?_
        refine pl_call (a := [.ref q, .int 0, .int (nI (0 + (tX f n E j).length))]) (rest := []) rfl rfl rfl (dy_nameEnd (q := q) (c := (fun i => (tX f n E j).getD i 0)) (B := 0) (e := (tX f n E j).length) (i0 := 0) (hP) (by rw [tx_no n_23]; simp; omega) (fun i9 h9 => by rw [tx_no n_23] at h9; simp at h9) (by omega)) (fun v10 M11 q12 => ?_)
        rcases q12 with q12 | q12
        · skip
          obtain ⟨q48_s, rfl, rfl⟩ := q12
          show pl _ _ _ (51, [(3, .int (nI (0 + (tX f n E j).length))), (2, .int 0), (0, .ref q), (1, .int (nI j))], [.int (-1)], M) _
          refine ps_st (S' := (52, [(3, .int (nI (0 + (tX f n E j).length))), (2, .int 0), (0, .ref q), (1, .int (nI j))], [.int (nI (0 + (tX f n E j).length)), .int (-1)], M)) rfl rfl rfl ?_
          refine ps_if2 (S1 := (59, [(3, .int (nI (0 + (tX f n E j).length))), (2, .int 0), (0, .ref q), (1, .int (nI j))], [], M)) (S2 := (55, [(3, .int (nI (0 + (tX f n E j).length))), (2, .int 0), (0, .ref q), (1, .int (nI j))], [], M)) rfl rfl rfl (fun c_52 => ?_) (fun c_52 => ?_)
          rotate_left
          · exact absurd (m1_ne (by omega)) (of_decide_eq_false c_52)
          refine ps_st (S' := (60, [], [.int 0], M)) rfl rfl rfl ?_
          exact ps_ret rfl rfl (⟨by rw [show clsN (tX f n E j) = 0 by unfold clsN; rw [if_neg (by omega), if_neg (by have h8 := q48_s; rw [Nat.sub_zero] at h8; rw [h8]; intro h7; cases h7)]]; rfl, rfl⟩)
        · skip
          obtain ⟨x13, q48_s, rfl, rfl⟩ := q12
          show pl _ _ _ (51, [(3, .int (nI (0 + (tX f n E j).length))), (2, .int 0), (0, .ref q), (1, .int (nI j))], [.int (nI (0 + x13))], M) _
          have hl_48 := s_nm_le q48_s
          refine ps_st (S' := (52, [(3, .int (nI (0 + (tX f n E j).length))), (2, .int 0), (0, .ref q), (1, .int (nI j))], [.int (nI (0 + (tX f n E j).length)), .int (nI (0 + x13))], M)) rfl rfl rfl ?_
          refine ps_if2 (S1 := (59, [(3, .int (nI (0 + (tX f n E j).length))), (2, .int 0), (0, .ref q), (1, .int (nI j))], [], M)) (S2 := (55, [(3, .int (nI (0 + (tX f n E j).length))), (2, .int 0), (0, .ref q), (1, .int (nI j))], [], M)) rfl rfl rfl (fun c_52 => ?_) (fun c_52 => ?_)
          · have c_52 : ¬ (nI (0 + x13)) = (nI (0 + (tX f n E j).length)) := of_decide_eq_true c_52
            have n_52 : ¬ (0 + x13 = 0 + (tX f n E j).length) := fun h9 => c_52 ((eq_nI (p := 0 + x13) (n := 0 + (tX f n E j).length) (by omega) (by omega)).mpr h9)
            refine ps_st (S' := (60, [], [.int 0], M)) rfl rfl rfl ?_
            exact ps_ret rfl rfl (⟨by rw [show clsN (tX f n E j) = 0 by unfold clsN; rw [if_neg (by omega), if_neg (by have h8 := q48_s; rw [Nat.sub_zero] at h8; rw [h8]; intro h7; simp only [Option.some.injEq] at h7; omega)]]; rfl, rfl⟩)
          · have c_52 : ¬ (¬ (nI (0 + x13)) = (nI (0 + (tX f n E j).length))) := of_decide_eq_false c_52
            have n_52 : 0 + x13 = 0 + (tX f n E j).length := (eq_nI (p := 0 + x13) (n := 0 + (tX f n E j).length) (by omega) (by omega)).mp (Decidable.not_not.mp c_52)
            refine ps_st (S' := (56, [(3, .int (nI (0 + (tX f n E j).length))), (2, .int 0), (0, .ref q), (1, .int (nI j))], [.int 1], M)) rfl rfl rfl ?_
            refine ps_st (S' := (60, [], [.int 1], M)) rfl rfl rfl ?_
            exact ps_ret rfl rfl (⟨by rw [show clsN (tX f n E j) = 1 by unfold clsN; rw [if_neg (by omega), if_pos (by have h8 := q48_s; rw [Nat.sub_zero] at h8; rw [h8]; congr 1; omega)]]; rfl, rfl⟩)
      · have c_23 : ¬ (¬ (nI (tg f E j)) = 1) := of_decide_eq_false c_23
        have n_23 : tg f E j = 1 := (eq_nI (p := tg f E j) (n := 1) (Nat.lt_trans (tg_lt _ _ _) (by decide)) (by decide)).mp (Decidable.not_not.mp c_23)
        refine ps_st (S' := (27, [(0, .ref q), (1, .int (nI j))], [.ref q], M)) rfl rfl rfl ?_
        refine ps_get (S' := (30, [(0, .ref q), (1, .int (nI j))], [.ref (qq 3)], M)) rfl h_q rfl rfl ?_
        refine ps_st (S' := (31, [(0, .ref q), (1, .int (nI j))], [.int (nI j), .ref (qq 3)], M)) rfl rfl rfl ?_
        refine ps_ald (S' := (32, [(0, .ref q), (1, .int (nI j))], [.int ((F 3) (Int32.toNatClampNeg (nI j)))], M)) rfl h_qq_3 rfl (fun i0_31 i1_31 => ?_)
        have ht1 : tg f E j = 1 := by omega
        obtain ⟨c0, a1, a2, a3, a4⟩ := hF.2.2.2.2 j ht1
        rw [show ((F 3) (Int32.toNatClampNeg (nI j))) = (nI c0) from (congrArg (F 3) (nI_toNat (k := j) (by omega))).trans (a1)]
        show pl _ _ _ (_, [(0, .ref q), (1, .int (nI j))], [.int (nI c0)], M) _
        refine ps_st (S' := (36, [(0, .ref q), (1, .int (nI j))], [.int (nI c0)], M)) rfl rfl rfl ?_
        refine ps_st (S' := (37, [(2, .int (nI c0)), (0, .ref q), (1, .int (nI j))], [], M)) rfl rfl rfl ?_
        refine ps_st (S' := (38, [(2, .int (nI c0)), (0, .ref q), (1, .int (nI j))], [.int (nI c0)], M)) rfl rfl rfl ?_
        refine ps_st (S' := (39, [(2, .int (nI c0)), (0, .ref q), (1, .int (nI j))], [.ref q, .int (nI c0)], M)) rfl rfl rfl ?_
        refine ps_st (S' := (40, [(2, .int (nI c0)), (0, .ref q), (1, .int (nI j))], [.int (nI j), .ref q, .int (nI c0)], M)) rfl rfl rfl ?_
        refine pl_call (a := [.ref q, .int (nI j)]) (rest := [.int (nI c0)]) rfl rfl rfl (dy_textLength (f := f) (n := n) (N := N) (q := q) (E := E) (j := j) (hV) (by omega)) (fun v14 M15 q16 => ?_)
        obtain ⟨rfl, rfl⟩ := q16
        show pl _ _ _ (43, [(2, .int (nI c0)), (0, .ref q), (1, .int (nI j))], [.int (nI ((tX f n E j).length)), .int (nI c0)], M) _
        refine ps_st (S' := (44, [(2, .int (nI c0)), (0, .ref q), (1, .int (nI j))], [.int ((nI c0) + (nI ((tX f n E j).length)))], M)) rfl rfl rfl ?_
        rw [nI_add1 (p := c0) (k := (tX f n E j).length) (x := (nI ((tX f n E j).length))) rfl (by omega)]
        show pl _ _ _ (_, [(2, .int (nI c0)), (0, .ref q), (1, .int (nI j))], [.int (nI (c0 + (tX f n E j).length))], M) _
        refine ps_st (S' := (45, [(3, .int (nI (c0 + (tX f n E j).length))), (2, .int (nI c0)), (0, .ref q), (1, .int (nI j))], [], M)) rfl rfl rfl ?_
        refine ps_st (S' := (46, [(3, .int (nI (c0 + (tX f n E j).length))), (2, .int (nI c0)), (0, .ref q), (1, .int (nI j))], [.ref q], M)) rfl rfl rfl ?_
        refine ps_st (S' := (47, [(3, .int (nI (c0 + (tX f n E j).length))), (2, .int (nI c0)), (0, .ref q), (1, .int (nI j))], [.int (nI c0), .ref q], M)) rfl rfl rfl ?_
        refine ps_st (S' := (48, [(3, .int (nI (c0 + (tX f n E j).length))), (2, .int (nI c0)), (0, .ref q), (1, .int (nI j))], [.int (nI (c0 + (tX f n E j).length)), .int (nI c0), .ref q], M)) rfl rfl rfl ?_
        refine pl_call (a := [.ref q, .int (nI c0), .int (nI (c0 + (tX f n E j).length))]) (rest := []) rfl rfl rfl (dy_nameEnd (q := q) (c := (fun i => (tX f n E j).getD i 0)) (B := c0) (e := (tX f n E j).length) (i0 := 0) (hP) (by omega) (fun i9 h9 => ⟨a4 i9 h9, tx_ch f n E j i9⟩) (by omega)) (fun v17 M18 q19 => ?_)
        rcases q19 with q19 | q19
        · skip
          obtain ⟨q48_s, rfl, rfl⟩ := q19
          show pl _ _ _ (51, [(3, .int (nI (c0 + (tX f n E j).length))), (2, .int (nI c0)), (0, .ref q), (1, .int (nI j))], [.int (-1)], M) _
          refine ps_st (S' := (52, [(3, .int (nI (c0 + (tX f n E j).length))), (2, .int (nI c0)), (0, .ref q), (1, .int (nI j))], [.int (nI (c0 + (tX f n E j).length)), .int (-1)], M)) rfl rfl rfl ?_
          refine ps_if2 (S1 := (59, [(3, .int (nI (c0 + (tX f n E j).length))), (2, .int (nI c0)), (0, .ref q), (1, .int (nI j))], [], M)) (S2 := (55, [(3, .int (nI (c0 + (tX f n E j).length))), (2, .int (nI c0)), (0, .ref q), (1, .int (nI j))], [], M)) rfl rfl rfl (fun c_52 => ?_) (fun c_52 => ?_)
          rotate_left
          · exact absurd (m1_ne (by omega)) (of_decide_eq_false c_52)
          refine ps_st (S' := (60, [], [.int 0], M)) rfl rfl rfl ?_
          exact ps_ret rfl rfl (⟨by rw [show clsN (tX f n E j) = 0 by unfold clsN; rw [if_neg (by omega), if_neg (by have h8 := q48_s; rw [Nat.sub_zero] at h8; rw [h8]; intro h7; cases h7)]]; rfl, rfl⟩)
        · skip
          obtain ⟨x20, q48_s, rfl, rfl⟩ := q19
          show pl _ _ _ (51, [(3, .int (nI (c0 + (tX f n E j).length))), (2, .int (nI c0)), (0, .ref q), (1, .int (nI j))], [.int (nI (c0 + x20))], M) _
          have hl_48 := s_nm_le q48_s
          refine ps_st (S' := (52, [(3, .int (nI (c0 + (tX f n E j).length))), (2, .int (nI c0)), (0, .ref q), (1, .int (nI j))], [.int (nI (c0 + (tX f n E j).length)), .int (nI (c0 + x20))], M)) rfl rfl rfl ?_
          refine ps_if2 (S1 := (59, [(3, .int (nI (c0 + (tX f n E j).length))), (2, .int (nI c0)), (0, .ref q), (1, .int (nI j))], [], M)) (S2 := (55, [(3, .int (nI (c0 + (tX f n E j).length))), (2, .int (nI c0)), (0, .ref q), (1, .int (nI j))], [], M)) rfl rfl rfl (fun c_52 => ?_) (fun c_52 => ?_)
          · have c_52 : ¬ (nI (c0 + x20)) = (nI (c0 + (tX f n E j).length)) := of_decide_eq_true c_52
            have n_52 : ¬ (c0 + x20 = c0 + (tX f n E j).length) := fun h9 => c_52 ((eq_nI (p := c0 + x20) (n := c0 + (tX f n E j).length) (by omega) (by omega)).mpr h9)
            refine ps_st (S' := (60, [], [.int 0], M)) rfl rfl rfl ?_
            exact ps_ret rfl rfl (⟨by rw [show clsN (tX f n E j) = 0 by unfold clsN; rw [if_neg (by omega), if_neg (by have h8 := q48_s; rw [Nat.sub_zero] at h8; rw [h8]; intro h7; simp only [Option.some.injEq] at h7; omega)]]; rfl, rfl⟩)
          · have c_52 : ¬ (¬ (nI (c0 + x20)) = (nI (c0 + (tX f n E j).length))) := of_decide_eq_false c_52
            have n_52 : c0 + x20 = c0 + (tX f n E j).length := (eq_nI (p := c0 + x20) (n := c0 + (tX f n E j).length) (by omega) (by omega)).mp (Decidable.not_not.mp c_52)
            refine ps_st (S' := (56, [(3, .int (nI (c0 + (tX f n E j).length))), (2, .int (nI c0)), (0, .ref q), (1, .int (nI j))], [.int 1], M)) rfl rfl rfl ?_
            refine ps_st (S' := (60, [], [.int 1], M)) rfl rfl rfl ?_
            exact ps_ret rfl rfl (⟨by rw [show clsN (tX f n E j) = 1 by unfold clsN; rw [if_neg (by omega), if_pos (by have h8 := q48_s; rw [Nat.sub_zero] at h8; rw [h8]; congr 1; omega)]]; rfl, rfl⟩)
    · have c_8 : ¬ (¬ (nI ((tX f n E j).getD 0 0)) = 91) := of_decide_eq_false c_8
      have n_8 : (tX f n E j).getD 0 0 = 91 := (eq_nI (p := (tX f n E j).getD 0 0) (n := 91) (Nat.lt_trans (tx_ch _ _ _ _ _) (by decide)) (by decide)).mp (Decidable.not_not.mp c_8)
      refine ps_st (S' := (12, [(0, .ref q), (1, .int (nI j))], [.ref q], M)) rfl rfl rfl ?_
      refine ps_st (S' := (13, [(0, .ref q), (1, .int (nI j))], [.int (nI j), .ref q], M)) rfl rfl rfl ?_
      refine pl_call (a := [.ref q, .int (nI j)]) (rest := []) rfl rfl rfl (dy_isFieldDescriptor (f := f) (n := n) (N := N) (q := q) (E := E) (j := j) (hV) (by omega)) (fun v21 M22 q23 => ?_)
      obtain ⟨rfl, rfl⟩ := q23
      show pl _ _ _ (16, [(0, .ref q), (1, .int (nI j))], [.int (nI (fldN (tX f n E j)))], M) _
      exact ps_reti rfl (⟨by rw [show clsN (tX f n E j) = fldN (tX f n E j) from if_pos (by omega)], rfl⟩)
  · skip
    obtain ⟨q3_a, rfl, rfl⟩ := q3
    show pl _ _ _ (6, [(0, .ref q), (1, .int (nI j))], [.int (-1)], M) _
    have hb_3 := tx_ch f n E j 0
    refine ps_st (S' := (8, [(0, .ref q), (1, .int (nI j))], [.int 91, .int (-1)], M)) rfl rfl rfl ?_
    refine ps_if2 (S1 := (17, [(0, .ref q), (1, .int (nI j))], [], M)) (S2 := (11, [(0, .ref q), (1, .int (nI j))], [], M)) rfl rfl rfl (fun c_8 => ?_) (fun c_8 => ?_)
    rotate_left
    · exact absurd (by decide) (of_decide_eq_false c_8)
    refine ps_st (S' := (18, [(0, .ref q), (1, .int (nI j))], [.ref q], M)) rfl rfl rfl ?_
    refine ps_st (S' := (19, [(0, .ref q), (1, .int (nI j))], [.int (nI j), .ref q], M)) rfl rfl rfl ?_
    refine pl_call (a := [.ref q, .int (nI j)]) (rest := []) rfl rfl rfl (dy_tagOf (f := f) (n := n) (N := N) (q := q) (E := E) (j := j) (hV) (by omega)) (fun v24 M25 q26 => ?_)
    obtain ⟨rfl, rfl⟩ := q26
    show pl _ _ _ (22, [(0, .ref q), (1, .int (nI j))], [.int (nI (tg f E j))], M) _
    refine ps_st (S' := (23, [(0, .ref q), (1, .int (nI j))], [.int 1, .int (nI (tg f E j))], M)) rfl rfl rfl ?_
    refine ps_if2 (S1 := (35, [(0, .ref q), (1, .int (nI j))], [], M)) (S2 := (26, [(0, .ref q), (1, .int (nI j))], [], M)) rfl rfl rfl (fun c_23 => ?_) (fun c_23 => ?_)
    · have c_23 : ¬ (nI (tg f E j)) = 1 := of_decide_eq_true c_23
      have n_23 : ¬ (tg f E j = 1) := fun h9 => c_23 ((eq_nI (p := tg f E j) (n := 1) (Nat.lt_trans (tg_lt _ _ _) (by decide)) (by decide)).mpr h9)
      refine ps_st (S' := (36, [(0, .ref q), (1, .int (nI j))], [.int 0], M)) rfl rfl rfl ?_
      refine ps_st (S' := (37, [(2, .int 0), (0, .ref q), (1, .int (nI j))], [], M)) rfl rfl rfl ?_
      refine ps_st (S' := (38, [(2, .int 0), (0, .ref q), (1, .int (nI j))], [.int 0], M)) rfl rfl rfl ?_
      refine ps_st (S' := (39, [(2, .int 0), (0, .ref q), (1, .int (nI j))], [.ref q, .int 0], M)) rfl rfl rfl ?_
      refine ps_st (S' := (40, [(2, .int 0), (0, .ref q), (1, .int (nI j))], [.int (nI j), .ref q, .int 0], M)) rfl rfl rfl ?_
      refine pl_call (a := [.ref q, .int (nI j)]) (rest := [.int 0]) rfl rfl rfl (dy_textLength (f := f) (n := n) (N := N) (q := q) (E := E) (j := j) (hV) (by omega)) (fun v27 M28 q29 => ?_)
      obtain ⟨rfl, rfl⟩ := q29
      show pl _ _ _ (43, [(2, .int 0), (0, .ref q), (1, .int (nI j))], [.int (nI ((tX f n E j).length)), .int 0], M) _
      refine ps_st (S' := (44, [(2, .int 0), (0, .ref q), (1, .int (nI j))], [.int (0 + (nI ((tX f n E j).length)))], M)) rfl rfl rfl ?_
      rw [nI_add2 (p := 0) (k := (tX f n E j).length) (x := 0) (y := (nI ((tX f n E j).length))) rfl rfl (by omega)]
      show pl _ _ _ (_, [(2, .int 0), (0, .ref q), (1, .int (nI j))], [.int (nI (0 + (tX f n E j).length))], M) _
      refine ps_st (S' := (45, [(3, .int (nI (0 + (tX f n E j).length))), (2, .int 0), (0, .ref q), (1, .int (nI j))], [], M)) rfl rfl rfl ?_
      refine ps_st (S' := (46, [(3, .int (nI (0 + (tX f n E j).length))), (2, .int 0), (0, .ref q), (1, .int (nI j))], [.ref q], M)) rfl rfl rfl ?_
      refine ps_st (S' := (47, [(3, .int (nI (0 + (tX f n E j).length))), (2, .int 0), (0, .ref q), (1, .int (nI j))], [.int 0, .ref q], M)) rfl rfl rfl ?_
      refine ps_st (S' := (48, [(3, .int (nI (0 + (tX f n E j).length))), (2, .int 0), (0, .ref q), (1, .int (nI j))], [.int (nI (0 + (tX f n E j).length)), .int 0, .ref q], M)) rfl rfl rfl ?_
      refine pl_call (a := [.ref q, .int 0, .int (nI (0 + (tX f n E j).length))]) (rest := []) rfl rfl rfl (dy_nameEnd (q := q) (c := (fun i => (tX f n E j).getD i 0)) (B := 0) (e := (tX f n E j).length) (i0 := 0) (hP) (by rw [tx_no n_23]; simp; omega) (fun i9 h9 => by rw [tx_no n_23] at h9; simp at h9) (by omega)) (fun v30 M31 q32 => ?_)
      rcases q32 with q32 | q32
      · skip
        obtain ⟨q48_s, rfl, rfl⟩ := q32
        show pl _ _ _ (51, [(3, .int (nI (0 + (tX f n E j).length))), (2, .int 0), (0, .ref q), (1, .int (nI j))], [.int (-1)], M) _
        refine ps_st (S' := (52, [(3, .int (nI (0 + (tX f n E j).length))), (2, .int 0), (0, .ref q), (1, .int (nI j))], [.int (nI (0 + (tX f n E j).length)), .int (-1)], M)) rfl rfl rfl ?_
        refine ps_if2 (S1 := (59, [(3, .int (nI (0 + (tX f n E j).length))), (2, .int 0), (0, .ref q), (1, .int (nI j))], [], M)) (S2 := (55, [(3, .int (nI (0 + (tX f n E j).length))), (2, .int 0), (0, .ref q), (1, .int (nI j))], [], M)) rfl rfl rfl (fun c_52 => ?_) (fun c_52 => ?_)
        rotate_left
        · exact absurd (m1_ne (by omega)) (of_decide_eq_false c_52)
        refine ps_st (S' := (60, [], [.int 0], M)) rfl rfl rfl ?_
        exact ps_ret rfl rfl (⟨by rw [show clsN (tX f n E j) = 0 by unfold clsN; rw [if_neg (gd_nil (by omega) (by decide)), if_neg (by have h8 := q48_s; rw [Nat.sub_zero] at h8; rw [h8]; intro h7; cases h7)]]; rfl, rfl⟩)
      · skip
        obtain ⟨x33, q48_s, rfl, rfl⟩ := q32
        show pl _ _ _ (51, [(3, .int (nI (0 + (tX f n E j).length))), (2, .int 0), (0, .ref q), (1, .int (nI j))], [.int (nI (0 + x33))], M) _
        have hl_48 := s_nm_le q48_s
        refine ps_st (S' := (52, [(3, .int (nI (0 + (tX f n E j).length))), (2, .int 0), (0, .ref q), (1, .int (nI j))], [.int (nI (0 + (tX f n E j).length)), .int (nI (0 + x33))], M)) rfl rfl rfl ?_
        refine ps_if2 (S1 := (59, [(3, .int (nI (0 + (tX f n E j).length))), (2, .int 0), (0, .ref q), (1, .int (nI j))], [], M)) (S2 := (55, [(3, .int (nI (0 + (tX f n E j).length))), (2, .int 0), (0, .ref q), (1, .int (nI j))], [], M)) rfl rfl rfl (fun c_52 => ?_) (fun c_52 => ?_)
        · have c_52 : ¬ (nI (0 + x33)) = (nI (0 + (tX f n E j).length)) := of_decide_eq_true c_52
          have n_52 : ¬ (0 + x33 = 0 + (tX f n E j).length) := fun h9 => c_52 ((eq_nI (p := 0 + x33) (n := 0 + (tX f n E j).length) (by omega) (by omega)).mpr h9)
          refine ps_st (S' := (60, [], [.int 0], M)) rfl rfl rfl ?_
          exact ps_ret rfl rfl (⟨by rw [show clsN (tX f n E j) = 0 by unfold clsN; rw [if_neg (gd_nil (by omega) (by decide)), if_neg (by have h8 := q48_s; rw [Nat.sub_zero] at h8; rw [h8]; intro h7; simp only [Option.some.injEq] at h7; omega)]]; rfl, rfl⟩)
        · have c_52 : ¬ (¬ (nI (0 + x33)) = (nI (0 + (tX f n E j).length))) := of_decide_eq_false c_52
          have n_52 : 0 + x33 = 0 + (tX f n E j).length := (eq_nI (p := 0 + x33) (n := 0 + (tX f n E j).length) (by omega) (by omega)).mp (Decidable.not_not.mp c_52)
          refine ps_st (S' := (56, [(3, .int (nI (0 + (tX f n E j).length))), (2, .int 0), (0, .ref q), (1, .int (nI j))], [.int 1], M)) rfl rfl rfl ?_
          refine ps_st (S' := (60, [], [.int 1], M)) rfl rfl rfl ?_
          exact ps_ret rfl rfl (⟨by rw [show clsN (tX f n E j) = 1 by unfold clsN; rw [if_neg (gd_nil (by omega) (by decide)), if_pos (by have h8 := q48_s; rw [Nat.sub_zero] at h8; rw [h8]; congr 1; omega)]]; rfl, rfl⟩)
    · have c_23 : ¬ (¬ (nI (tg f E j)) = 1) := of_decide_eq_false c_23
      have n_23 : tg f E j = 1 := (eq_nI (p := tg f E j) (n := 1) (Nat.lt_trans (tg_lt _ _ _) (by decide)) (by decide)).mp (Decidable.not_not.mp c_23)
      refine ps_st (S' := (27, [(0, .ref q), (1, .int (nI j))], [.ref q], M)) rfl rfl rfl ?_
      refine ps_get (S' := (30, [(0, .ref q), (1, .int (nI j))], [.ref (qq 3)], M)) rfl h_q rfl rfl ?_
      refine ps_st (S' := (31, [(0, .ref q), (1, .int (nI j))], [.int (nI j), .ref (qq 3)], M)) rfl rfl rfl ?_
      refine ps_ald (S' := (32, [(0, .ref q), (1, .int (nI j))], [.int ((F 3) (Int32.toNatClampNeg (nI j)))], M)) rfl h_qq_3 rfl (fun i0_31 i1_31 => ?_)
      have ht1 : tg f E j = 1 := by omega
      obtain ⟨c0, a1, a2, a3, a4⟩ := hF.2.2.2.2 j ht1
      rw [show ((F 3) (Int32.toNatClampNeg (nI j))) = (nI c0) from (congrArg (F 3) (nI_toNat (k := j) (by omega))).trans (a1)]
      show pl _ _ _ (_, [(0, .ref q), (1, .int (nI j))], [.int (nI c0)], M) _
      refine ps_st (S' := (36, [(0, .ref q), (1, .int (nI j))], [.int (nI c0)], M)) rfl rfl rfl ?_
      refine ps_st (S' := (37, [(2, .int (nI c0)), (0, .ref q), (1, .int (nI j))], [], M)) rfl rfl rfl ?_
      refine ps_st (S' := (38, [(2, .int (nI c0)), (0, .ref q), (1, .int (nI j))], [.int (nI c0)], M)) rfl rfl rfl ?_
      refine ps_st (S' := (39, [(2, .int (nI c0)), (0, .ref q), (1, .int (nI j))], [.ref q, .int (nI c0)], M)) rfl rfl rfl ?_
      refine ps_st (S' := (40, [(2, .int (nI c0)), (0, .ref q), (1, .int (nI j))], [.int (nI j), .ref q, .int (nI c0)], M)) rfl rfl rfl ?_
      refine pl_call (a := [.ref q, .int (nI j)]) (rest := [.int (nI c0)]) rfl rfl rfl (dy_textLength (f := f) (n := n) (N := N) (q := q) (E := E) (j := j) (hV) (by omega)) (fun v34 M35 q36 => ?_)
      obtain ⟨rfl, rfl⟩ := q36
      show pl _ _ _ (43, [(2, .int (nI c0)), (0, .ref q), (1, .int (nI j))], [.int (nI ((tX f n E j).length)), .int (nI c0)], M) _
      refine ps_st (S' := (44, [(2, .int (nI c0)), (0, .ref q), (1, .int (nI j))], [.int ((nI c0) + (nI ((tX f n E j).length)))], M)) rfl rfl rfl ?_
      rw [nI_add1 (p := c0) (k := (tX f n E j).length) (x := (nI ((tX f n E j).length))) rfl (by omega)]
      show pl _ _ _ (_, [(2, .int (nI c0)), (0, .ref q), (1, .int (nI j))], [.int (nI (c0 + (tX f n E j).length))], M) _
      refine ps_st (S' := (45, [(3, .int (nI (c0 + (tX f n E j).length))), (2, .int (nI c0)), (0, .ref q), (1, .int (nI j))], [], M)) rfl rfl rfl ?_
      refine ps_st (S' := (46, [(3, .int (nI (c0 + (tX f n E j).length))), (2, .int (nI c0)), (0, .ref q), (1, .int (nI j))], [.ref q], M)) rfl rfl rfl ?_
      refine ps_st (S' := (47, [(3, .int (nI (c0 + (tX f n E j).length))), (2, .int (nI c0)), (0, .ref q), (1, .int (nI j))], [.int (nI c0), .ref q], M)) rfl rfl rfl ?_
      refine ps_st (S' := (48, [(3, .int (nI (c0 + (tX f n E j).length))), (2, .int (nI c0)), (0, .ref q), (1, .int (nI j))], [.int (nI (c0 + (tX f n E j).length)), .int (nI c0), .ref q], M)) rfl rfl rfl ?_
      refine pl_call (a := [.ref q, .int (nI c0), .int (nI (c0 + (tX f n E j).length))]) (rest := []) rfl rfl rfl (dy_nameEnd (q := q) (c := (fun i => (tX f n E j).getD i 0)) (B := c0) (e := (tX f n E j).length) (i0 := 0) (hP) (by omega) (fun i9 h9 => ⟨a4 i9 h9, tx_ch f n E j i9⟩) (by omega)) (fun v37 M38 q39 => ?_)
      rcases q39 with q39 | q39
      · skip
        obtain ⟨q48_s, rfl, rfl⟩ := q39
        show pl _ _ _ (51, [(3, .int (nI (c0 + (tX f n E j).length))), (2, .int (nI c0)), (0, .ref q), (1, .int (nI j))], [.int (-1)], M) _
        refine ps_st (S' := (52, [(3, .int (nI (c0 + (tX f n E j).length))), (2, .int (nI c0)), (0, .ref q), (1, .int (nI j))], [.int (nI (c0 + (tX f n E j).length)), .int (-1)], M)) rfl rfl rfl ?_
        refine ps_if2 (S1 := (59, [(3, .int (nI (c0 + (tX f n E j).length))), (2, .int (nI c0)), (0, .ref q), (1, .int (nI j))], [], M)) (S2 := (55, [(3, .int (nI (c0 + (tX f n E j).length))), (2, .int (nI c0)), (0, .ref q), (1, .int (nI j))], [], M)) rfl rfl rfl (fun c_52 => ?_) (fun c_52 => ?_)
        rotate_left
        · exact absurd (m1_ne (by omega)) (of_decide_eq_false c_52)
        refine ps_st (S' := (60, [], [.int 0], M)) rfl rfl rfl ?_
        exact ps_ret rfl rfl (⟨by rw [show clsN (tX f n E j) = 0 by unfold clsN; rw [if_neg (gd_nil (by omega) (by decide)), if_neg (by have h8 := q48_s; rw [Nat.sub_zero] at h8; rw [h8]; intro h7; cases h7)]]; rfl, rfl⟩)
      · skip
        obtain ⟨x40, q48_s, rfl, rfl⟩ := q39
        show pl _ _ _ (51, [(3, .int (nI (c0 + (tX f n E j).length))), (2, .int (nI c0)), (0, .ref q), (1, .int (nI j))], [.int (nI (c0 + x40))], M) _
        have hl_48 := s_nm_le q48_s
        refine ps_st (S' := (52, [(3, .int (nI (c0 + (tX f n E j).length))), (2, .int (nI c0)), (0, .ref q), (1, .int (nI j))], [.int (nI (c0 + (tX f n E j).length)), .int (nI (c0 + x40))], M)) rfl rfl rfl ?_
        refine ps_if2 (S1 := (59, [(3, .int (nI (c0 + (tX f n E j).length))), (2, .int (nI c0)), (0, .ref q), (1, .int (nI j))], [], M)) (S2 := (55, [(3, .int (nI (c0 + (tX f n E j).length))), (2, .int (nI c0)), (0, .ref q), (1, .int (nI j))], [], M)) rfl rfl rfl (fun c_52 => ?_) (fun c_52 => ?_)
        · have c_52 : ¬ (nI (c0 + x40)) = (nI (c0 + (tX f n E j).length)) := of_decide_eq_true c_52
          have n_52 : ¬ (c0 + x40 = c0 + (tX f n E j).length) := fun h9 => c_52 ((eq_nI (p := c0 + x40) (n := c0 + (tX f n E j).length) (by omega) (by omega)).mpr h9)
          refine ps_st (S' := (60, [], [.int 0], M)) rfl rfl rfl ?_
          exact ps_ret rfl rfl (⟨by rw [show clsN (tX f n E j) = 0 by unfold clsN; rw [if_neg (gd_nil (by omega) (by decide)), if_neg (by have h8 := q48_s; rw [Nat.sub_zero] at h8; rw [h8]; intro h7; simp only [Option.some.injEq] at h7; omega)]]; rfl, rfl⟩)
        · have c_52 : ¬ (¬ (nI (c0 + x40)) = (nI (c0 + (tX f n E j).length))) := of_decide_eq_false c_52
          have n_52 : c0 + x40 = c0 + (tX f n E j).length := (eq_nI (p := c0 + x40) (n := c0 + (tX f n E j).length) (by omega) (by omega)).mp (Decidable.not_not.mp c_52)
          refine ps_st (S' := (56, [(3, .int (nI (c0 + (tX f n E j).length))), (2, .int (nI c0)), (0, .ref q), (1, .int (nI j))], [.int 1], M)) rfl rfl rfl ?_
          refine ps_st (S' := (60, [], [.int 1], M)) rfl rfl rfl ?_
          exact ps_ret rfl rfl (⟨by rw [show clsN (tX f n E j) = 1 by unfold clsN; rw [if_neg (gd_nil (by omega) (by decide)), if_pos (by have h8 := q48_s; rw [Nat.sub_zero] at h8; rw [h8]; congr 1; omega)]]; rfl, rfl⟩)
set_option maxHeartbeats 1000000 in
theorem dy_namesInit {g : xe_G} {M : mi_H} {f : Nat → Int32} {n N q : Nat} {E : List (Nat × Nat)} {j : Nat}  (hV : PV g f n N E q M) (hj : j < 65536) : pt (mT g) 129 [.ref q, .int (nI j)] M (fun v M' => (v = some (.int (nI (eqN (tX f n E (fi f E (se f E j))) (ltx 14)))) ∧ M = M')) := by
  refine pt_in (b := mb_129 g) rfl (fun kf => ?_)
  show pl (mT g) kf (mb_129 g).2 (0, [(0, .ref q), (1, .int (nI j))], [], M) _
  refine ps_st (S' := (1, [(0, .ref q), (1, .int (nI j))], [.ref q], M)) rfl rfl rfl ?_
  refine ps_st (S' := (2, [(0, .ref q), (1, .int (nI j))], [.ref q, .ref q], M)) rfl rfl rfl ?_
  refine ps_st (S' := (3, [(0, .ref q), (1, .int (nI j))], [.int (nI j), .ref q, .ref q], M)) rfl rfl rfl ?_
  refine pl_call (a := [.ref q, .int (nI j)]) (rest := [.ref q]) rfl rfl rfl (dy_nameOf (f := f) (n := n) (N := N) (q := q) (E := E) (j := j) (hV) (by omega)) (fun v1 M2 q3 => ?_)
  obtain ⟨rfl, rfl⟩ := q3
  show pl _ _ _ (6, [(0, .ref q), (1, .int (nI j))], [.int (nI (fi f E (se f E j))), .ref q], M) _
  refine ps_st (S' := (8, [(0, .ref q), (1, .int (nI j))], [.ref (g.2.1 14), .int (nI (fi f E (se f E j))), .ref q], M)) rfl rfl rfl ?_
  refine pl_call (a := [.ref q, .int (nI (fi f E (se f E j))), .ref (g.2.1 14)]) (rest := []) rfl rfl rfl (dy_textIs (f := f) (n := n) (N := N) (q := q) (E := E) (j := (fi f E (se f E j))) (k := 14) (hV) (fi_lt _ _ _) (by decide)) (fun v4 M5 q6 => ?_)
  obtain ⟨rfl, rfl⟩ := q6
  show pl _ _ _ (11, [(0, .ref q), (1, .int (nI j))], [.int (nI (eqN (tX f n E (fi f E (se f E j))) (ltx 14)))], M) _
  exact ps_reti rfl (⟨rfl, rfl⟩)
set_option maxHeartbeats 1000000 in
theorem dy_sameText {g : xe_G} {M : mi_H} {f : Nat → Int32} {n N q : Nat} {E : List (Nat × Nat)} {j k : Nat}  (hV : PV g f n N E q M) (hj : j < 65536) (hk : k < 65536) : pt (mT g) 133 [.ref q, .int (nI j), .int (nI k)] M (fun v M' => (v = some (.int (nI (smN f n E j k))) ∧ M = M')) := by
  refine pt_in (b := mb_133 g) rfl (fun kf => ?_)
  show pl (mT g) kf (mb_133 g).2 (0, [(0, .ref q), (1, .int (nI j)), (2, .int (nI k))], [], M) _
  have hV0 := hV
  obtain ⟨hL, H, m, qq, F, cc, hP, hT, hB, hb, hF, hS⟩ := hV0
  have h_q := hP.1
  have h_qq_1 := hP.2.1 1 (by decide) (by decide)
  have h_qq_2 := hP.2.1 2 (by decide) (by decide)
  have h_qq_3 := hP.2.1 3 (by decide) (by decide)
  have h_qq_4 := hP.2.1 4 (by decide) (by decide)
  have h_qq_5 := hP.2.1 5 (by decide) (by decide)
  have h_qq_6 := hP.2.2
  have LL : ∀ (kf : Nat), (∀ (i : Nat), (¬ j = k) → (tg f E j = 1) → (tg f E k = 1) → ((tX f n E j).length = (tX f n E k).length) → (i ≤ (tX f n E j).length) → (∀ i9, i9 < i → (tX f n E j).getD i9 0 = (tX f n E k).getD i9 0) →  pl (mT g) kf (mb_133 g).2 (44, [(0, .ref q), (1, .int (nI j)), (2, .int (nI k)), (3, .int (nI i))], [], M) (fun v M' => (v = some (.int (nI (smN f n E j k))) ∧ M = M'))) := by
    intro kf
    induction kf with
    | zero => exact (by intros; exact pl_0)
    | succ kf ih =>
      intro i hjk h1_j h1_k he hi hs
      obtain ⟨c0, a1, a2, a3, a4⟩ := hF.2.2.2.2 j h1_j
      obtain ⟨c1, b1, b2, b3, b4⟩ := hF.2.2.2.2 k h1_k
      refine ps_st1 (S' := (45, [(0, .ref q), (1, .int (nI j)), (2, .int (nI k)), (3, .int (nI i))], [.int (nI i)], M)) rfl rfl rfl ?_
      refine ps_st (S' := (46, [(0, .ref q), (1, .int (nI j)), (2, .int (nI k)), (3, .int (nI i))], [.ref q, .int (nI i)], M)) rfl rfl rfl ?_
      refine ps_get (S' := (49, [(0, .ref q), (1, .int (nI j)), (2, .int (nI k)), (3, .int (nI i))], [.ref (qq 4), .int (nI i)], M)) rfl h_q rfl rfl ?_
      refine ps_st (S' := (50, [(0, .ref q), (1, .int (nI j)), (2, .int (nI k)), (3, .int (nI i))], [.int (nI j), .ref (qq 4), .int (nI i)], M)) rfl rfl rfl ?_
      refine ps_ald (S' := (51, [(0, .ref q), (1, .int (nI j)), (2, .int (nI k)), (3, .int (nI i))], [.int ((F 4) (Int32.toNatClampNeg (nI j))), .int (nI i)], M)) rfl h_qq_4 rfl (fun i0_50 i1_50 => ?_)
      have hl_j := tx_len f n E j
      rw [show ((F 4) (Int32.toNatClampNeg (nI j))) = (nI (tX f n E j).length) from (congrArg (F 4) (nI_toNat (k := j) (by omega))).trans ((hF.2.2.2.2 j h1_j).choose_spec.2.1)]
      show pl _ _ _ (_, [(0, .ref q), (1, .int (nI j)), (2, .int (nI k)), (3, .int (nI i))], [.int (nI (tX f n E j).length), .int (nI i)], M) _
      refine ps_if2 (S1 := (91, [(0, .ref q), (1, .int (nI j)), (2, .int (nI k)), (3, .int (nI i))], [], M)) (S2 := (54, [(0, .ref q), (1, .int (nI j)), (2, .int (nI k)), (3, .int (nI i))], [], M)) rfl rfl rfl (fun c_51 => ?_) (fun c_51 => ?_)
      · have c_51 : (nI (tX f n E j).length) ≤ (nI i) := of_decide_eq_true c_51
        have n_51 : (tX f n E j).length ≤ i := (le_nI (p := (tX f n E j).length) (n := i) (Nat.lt_trans (tx_len _ _ _ _) (by decide)) (by omega)).mp c_51
        refine ps_st (S' := (92, [(0, .ref q), (1, .int (nI j)), (2, .int (nI k)), (3, .int (nI i))], [.int 1], M)) rfl rfl rfl ?_
        exact ps_ret rfl rfl (⟨by rw [show smN f n E j k = 1 from if_pos (Or.inr ⟨h1_j, h1_k, gd_ext he (fun i9 h9 => hs i9 (by omega))⟩)]; rfl, rfl⟩)
      · have c_51 : ¬ ((nI (tX f n E j).length) ≤ (nI i)) := of_decide_eq_false c_51
        have n_51 : ¬ ((tX f n E j).length ≤ i) := fun h9 => c_51 ((le_nI (p := (tX f n E j).length) (n := i) (Nat.lt_trans (tx_len _ _ _ _) (by decide)) (by omega)).mpr h9)
        refine ps_st (S' := (55, [(0, .ref q), (1, .int (nI j)), (2, .int (nI k)), (3, .int (nI i))], [.ref q], M)) rfl rfl rfl ?_
        refine ps_get (S' := (58, [(0, .ref q), (1, .int (nI j)), (2, .int (nI k)), (3, .int (nI i))], [.ref (qq 6)], M)) rfl h_q rfl rfl ?_
        refine ps_st (S' := (59, [(0, .ref q), (1, .int (nI j)), (2, .int (nI k)), (3, .int (nI i))], [.ref q, .ref (qq 6)], M)) rfl rfl rfl ?_
        refine ps_get (S' := (62, [(0, .ref q), (1, .int (nI j)), (2, .int (nI k)), (3, .int (nI i))], [.ref (qq 3), .ref (qq 6)], M)) rfl h_q rfl rfl ?_
        refine ps_st (S' := (63, [(0, .ref q), (1, .int (nI j)), (2, .int (nI k)), (3, .int (nI i))], [.int (nI j), .ref (qq 3), .ref (qq 6)], M)) rfl rfl rfl ?_
        refine ps_ald (S' := (64, [(0, .ref q), (1, .int (nI j)), (2, .int (nI k)), (3, .int (nI i))], [.int ((F 3) (Int32.toNatClampNeg (nI j))), .ref (qq 6)], M)) rfl h_qq_3 rfl (fun i0_63 i1_63 => ?_)
        rw [show ((F 3) (Int32.toNatClampNeg (nI j))) = (nI c0) from (congrArg (F 3) (nI_toNat (k := j) (by omega))).trans (a1)]
        show pl _ _ _ (_, [(0, .ref q), (1, .int (nI j)), (2, .int (nI k)), (3, .int (nI i))], [.int (nI c0), .ref (qq 6)], M) _
        refine ps_st (S' := (65, [(0, .ref q), (1, .int (nI j)), (2, .int (nI k)), (3, .int (nI i))], [.int (nI i), .int (nI c0), .ref (qq 6)], M)) rfl rfl rfl ?_
        refine ps_st (S' := (66, [(0, .ref q), (1, .int (nI j)), (2, .int (nI k)), (3, .int (nI i))], [.int ((nI c0) + (nI i)), .ref (qq 6)], M)) rfl rfl rfl ?_
        rw [nI_add1 (p := c0) (k := i) (x := (nI i)) rfl (by omega)]
        show pl _ _ _ (_, [(0, .ref q), (1, .int (nI j)), (2, .int (nI k)), (3, .int (nI i))], [.int (nI (c0 + i)), .ref (qq 6)], M) _
        refine ps_ald (S' := (67, [(0, .ref q), (1, .int (nI j)), (2, .int (nI k)), (3, .int (nI i))], [.int ((F 6) (Int32.toNatClampNeg (nI (c0 + i))))], M)) rfl h_qq_6 rfl (fun i0_66 i1_66 => ?_)
        have hb_66 := tx_ch f n E j i
        rw [show ((F 6) (Int32.toNatClampNeg (nI (c0 + i)))) = (nI ((tX f n E j).getD i 0)) from (congrArg (F 6) (nI_toNat (k := c0 + i) (by omega))).trans (a4 i (by omega))]
        show pl _ _ _ (_, [(0, .ref q), (1, .int (nI j)), (2, .int (nI k)), (3, .int (nI i))], [.int (nI ((tX f n E j).getD i 0))], M) _
        refine ps_st (S' := (68, [(0, .ref q), (1, .int (nI j)), (2, .int (nI k)), (3, .int (nI i))], [.ref q, .int (nI ((tX f n E j).getD i 0))], M)) rfl rfl rfl ?_
        refine ps_get (S' := (71, [(0, .ref q), (1, .int (nI j)), (2, .int (nI k)), (3, .int (nI i))], [.ref (qq 6), .int (nI ((tX f n E j).getD i 0))], M)) rfl h_q rfl rfl ?_
        refine ps_st (S' := (72, [(0, .ref q), (1, .int (nI j)), (2, .int (nI k)), (3, .int (nI i))], [.ref q, .ref (qq 6), .int (nI ((tX f n E j).getD i 0))], M)) rfl rfl rfl ?_
        refine ps_get (S' := (75, [(0, .ref q), (1, .int (nI j)), (2, .int (nI k)), (3, .int (nI i))], [.ref (qq 3), .ref (qq 6), .int (nI ((tX f n E j).getD i 0))], M)) rfl h_q rfl rfl ?_
        refine ps_st (S' := (76, [(0, .ref q), (1, .int (nI j)), (2, .int (nI k)), (3, .int (nI i))], [.int (nI k), .ref (qq 3), .ref (qq 6), .int (nI ((tX f n E j).getD i 0))], M)) rfl rfl rfl ?_
        refine ps_ald (S' := (77, [(0, .ref q), (1, .int (nI j)), (2, .int (nI k)), (3, .int (nI i))], [.int ((F 3) (Int32.toNatClampNeg (nI k))), .ref (qq 6), .int (nI ((tX f n E j).getD i 0))], M)) rfl h_qq_3 rfl (fun i0_76 i1_76 => ?_)
        rw [show ((F 3) (Int32.toNatClampNeg (nI k))) = (nI c1) from (congrArg (F 3) (nI_toNat (k := k) (by omega))).trans (b1)]
        show pl _ _ _ (_, [(0, .ref q), (1, .int (nI j)), (2, .int (nI k)), (3, .int (nI i))], [.int (nI c1), .ref (qq 6), .int (nI ((tX f n E j).getD i 0))], M) _
        refine ps_st (S' := (78, [(0, .ref q), (1, .int (nI j)), (2, .int (nI k)), (3, .int (nI i))], [.int (nI i), .int (nI c1), .ref (qq 6), .int (nI ((tX f n E j).getD i 0))], M)) rfl rfl rfl ?_
        refine ps_st (S' := (79, [(0, .ref q), (1, .int (nI j)), (2, .int (nI k)), (3, .int (nI i))], [.int ((nI c1) + (nI i)), .ref (qq 6), .int (nI ((tX f n E j).getD i 0))], M)) rfl rfl rfl ?_
        rw [nI_add1 (p := c1) (k := i) (x := (nI i)) rfl (by omega)]
        show pl _ _ _ (_, [(0, .ref q), (1, .int (nI j)), (2, .int (nI k)), (3, .int (nI i))], [.int (nI (c1 + i)), .ref (qq 6), .int (nI ((tX f n E j).getD i 0))], M) _
        refine ps_ald (S' := (80, [(0, .ref q), (1, .int (nI j)), (2, .int (nI k)), (3, .int (nI i))], [.int ((F 6) (Int32.toNatClampNeg (nI (c1 + i)))), .int (nI ((tX f n E j).getD i 0))], M)) rfl h_qq_6 rfl (fun i0_79 i1_79 => ?_)
        have hb_79 := tx_ch f n E k i
        rw [show ((F 6) (Int32.toNatClampNeg (nI (c1 + i)))) = (nI ((tX f n E k).getD i 0)) from (congrArg (F 6) (nI_toNat (k := c1 + i) (by omega))).trans (b4 i (by omega))]
        show pl _ _ _ (_, [(0, .ref q), (1, .int (nI j)), (2, .int (nI k)), (3, .int (nI i))], [.int (nI ((tX f n E k).getD i 0)), .int (nI ((tX f n E j).getD i 0))], M) _
        refine ps_if2 (S1 := (85, [(0, .ref q), (1, .int (nI j)), (2, .int (nI k)), (3, .int (nI i))], [], M)) (S2 := (83, [(0, .ref q), (1, .int (nI j)), (2, .int (nI k)), (3, .int (nI i))], [], M)) rfl rfl rfl (fun c_80 => ?_) (fun c_80 => ?_)
        · have c_80 : (nI ((tX f n E j).getD i 0)) = (nI ((tX f n E k).getD i 0)) := of_decide_eq_true c_80
          have n_80 : (tX f n E j).getD i 0 = (tX f n E k).getD i 0 := (eq_nI (p := (tX f n E j).getD i 0) (n := (tX f n E k).getD i 0) (Nat.lt_trans (tx_ch _ _ _ _ _) (by decide)) (Nat.lt_trans (tx_ch _ _ _ _ _) (by decide))).mp c_80
          refine ps_st (S' := (88, [(3, .int ((nI i) + 1)), (0, .ref q), (1, .int (nI j)), (2, .int (nI k))], [], M)) rfl rfl rfl ?_
          rw [nI_add1 (p := i) (k := 1) (x := 1) rfl (by omega)]
          show pl _ _ _ (_, [(3, .int (nI (i + 1))), (0, .ref q), (1, .int (nI j)), (2, .int (nI k))], [], M) _
          refine ps_st (S' := (44, [(0, .ref q), (1, .int (nI j)), (2, .int (nI k)), (3, .int (nI (i + 1)))], [], M)) rfl rfl rfl ?_
          exact ih (i + 1)  (hjk) (h1_j) (h1_k) (he) (by omega) (fun i9 h9 => by rcases Nat.lt_succ_iff_lt_or_eq.mp h9 with h8 | rfl; exact hs i9 h8; omega)
        · have c_80 : ¬ ((nI ((tX f n E j).getD i 0)) = (nI ((tX f n E k).getD i 0))) := of_decide_eq_false c_80
          have n_80 : ¬ ((tX f n E j).getD i 0 = (tX f n E k).getD i 0) := fun h9 => c_80 ((eq_nI (p := (tX f n E j).getD i 0) (n := (tX f n E k).getD i 0) (Nat.lt_trans (tx_ch _ _ _ _ _) (by decide)) (Nat.lt_trans (tx_ch _ _ _ _ _) (by decide))).mpr h9)
          refine ps_st (S' := (84, [(0, .ref q), (1, .int (nI j)), (2, .int (nI k)), (3, .int (nI i))], [.int 0], M)) rfl rfl rfl ?_
          exact ps_ret rfl rfl (⟨by rw [show smN f n E j k = 0 from if_neg (fun h0 => h0.elim (fun h9 => hjk h9) (fun h9 => by rw [h9.2.2] at n_80; exact n_80 rfl))]; rfl, rfl⟩)
  refine ps_st (S' := (1, [(0, .ref q), (1, .int (nI j)), (2, .int (nI k))], [.int (nI j)], M)) rfl rfl rfl ?_
  refine ps_st (S' := (2, [(0, .ref q), (1, .int (nI j)), (2, .int (nI k))], [.int (nI k), .int (nI j)], M)) rfl rfl rfl ?_
  refine ps_if2 (S1 := (7, [(0, .ref q), (1, .int (nI j)), (2, .int (nI k))], [], M)) (S2 := (5, [(0, .ref q), (1, .int (nI j)), (2, .int (nI k))], [], M)) rfl rfl rfl (fun c_2 => ?_) (fun c_2 => ?_)
  · have c_2 : ¬ (nI j) = (nI k) := of_decide_eq_true c_2
    have n_2 : ¬ (j = k) := fun h9 => c_2 ((eq_nI (p := j) (n := k) (by omega) (by omega)).mpr h9)
    refine ps_st (S' := (8, [(0, .ref q), (1, .int (nI j)), (2, .int (nI k))], [.ref q], M)) rfl rfl rfl ?_
    refine ps_st (S' := (9, [(0, .ref q), (1, .int (nI j)), (2, .int (nI k))], [.int (nI j), .ref q], M)) rfl rfl rfl ?_
    refine pl_call (a := [.ref q, .int (nI j)]) (rest := []) rfl rfl rfl (dy_tagOf (f := f) (n := n) (N := N) (q := q) (E := E) (j := j) (hV) (by omega)) (fun v1 M2 q3 => ?_)
    obtain ⟨rfl, rfl⟩ := q3
    show pl _ _ _ (12, [(0, .ref q), (1, .int (nI j)), (2, .int (nI k))], [.int (nI (tg f E j))], M) _
    refine ps_st (S' := (13, [(0, .ref q), (1, .int (nI j)), (2, .int (nI k))], [.int 1, .int (nI (tg f E j))], M)) rfl rfl rfl ?_
    refine ps_if2 (S1 := (40, [], [], M)) (S2 := (16, [(0, .ref q), (1, .int (nI j)), (2, .int (nI k))], [], M)) rfl rfl rfl (fun c_13 => ?_) (fun c_13 => ?_)
    · have c_13 : ¬ (nI (tg f E j)) = 1 := of_decide_eq_true c_13
      have n_13 : ¬ (tg f E j = 1) := fun h9 => c_13 ((eq_nI (p := tg f E j) (n := 1) (Nat.lt_trans (tg_lt _ _ _) (by decide)) (by decide)).mpr h9)
      refine ps_st (S' := (41, [], [.int 0], M)) rfl rfl rfl ?_
      exact ps_ret rfl rfl (⟨by rw [show smN f n E j k = 0 from if_neg (fun h0 => h0.elim (fun h9 => by omega) (fun h9 => by omega))]; rfl, rfl⟩)
    · have c_13 : ¬ (¬ (nI (tg f E j)) = 1) := of_decide_eq_false c_13
      have n_13 : tg f E j = 1 := (eq_nI (p := tg f E j) (n := 1) (Nat.lt_trans (tg_lt _ _ _) (by decide)) (by decide)).mp (Decidable.not_not.mp c_13)
      refine ps_st (S' := (17, [(0, .ref q), (1, .int (nI j)), (2, .int (nI k))], [.ref q], M)) rfl rfl rfl ?_
      refine ps_st (S' := (18, [(0, .ref q), (1, .int (nI j)), (2, .int (nI k))], [.int (nI k), .ref q], M)) rfl rfl rfl ?_
      refine pl_call (a := [.ref q, .int (nI k)]) (rest := []) rfl rfl rfl (dy_tagOf (f := f) (n := n) (N := N) (q := q) (E := E) (j := k) (hV) (by omega)) (fun v4 M5 q6 => ?_)
      obtain ⟨rfl, rfl⟩ := q6
      show pl _ _ _ (21, [(0, .ref q), (1, .int (nI j)), (2, .int (nI k))], [.int (nI (tg f E k))], M) _
      refine ps_st (S' := (22, [(0, .ref q), (1, .int (nI j)), (2, .int (nI k))], [.int 1, .int (nI (tg f E k))], M)) rfl rfl rfl ?_
      refine ps_if2 (S1 := (40, [], [], M)) (S2 := (25, [(0, .ref q), (1, .int (nI j)), (2, .int (nI k))], [], M)) rfl rfl rfl (fun c_22 => ?_) (fun c_22 => ?_)
      · have c_22 : ¬ (nI (tg f E k)) = 1 := of_decide_eq_true c_22
        have n_22 : ¬ (tg f E k = 1) := fun h9 => c_22 ((eq_nI (p := tg f E k) (n := 1) (Nat.lt_trans (tg_lt _ _ _) (by decide)) (by decide)).mpr h9)
        refine ps_st (S' := (41, [], [.int 0], M)) rfl rfl rfl ?_
        exact ps_ret rfl rfl (⟨by rw [show smN f n E j k = 0 from if_neg (fun h0 => h0.elim (fun h9 => by omega) (fun h9 => by omega))]; rfl, rfl⟩)
      · have c_22 : ¬ (¬ (nI (tg f E k)) = 1) := of_decide_eq_false c_22
        have n_22 : tg f E k = 1 := (eq_nI (p := tg f E k) (n := 1) (Nat.lt_trans (tg_lt _ _ _) (by decide)) (by decide)).mp (Decidable.not_not.mp c_22)
        refine ps_st (S' := (26, [(0, .ref q), (1, .int (nI j)), (2, .int (nI k))], [.ref q], M)) rfl rfl rfl ?_
        refine ps_get (S' := (29, [(0, .ref q), (1, .int (nI j)), (2, .int (nI k))], [.ref (qq 4)], M)) rfl h_q rfl rfl ?_
        refine ps_st (S' := (30, [(0, .ref q), (1, .int (nI j)), (2, .int (nI k))], [.int (nI j), .ref (qq 4)], M)) rfl rfl rfl ?_
        refine ps_ald (S' := (31, [(0, .ref q), (1, .int (nI j)), (2, .int (nI k))], [.int ((F 4) (Int32.toNatClampNeg (nI j)))], M)) rfl h_qq_4 rfl (fun i0_30 i1_30 => ?_)
        have hl_j := tx_len f n E j
        have h1_j : tg f E j = 1 := by omega
        rw [show ((F 4) (Int32.toNatClampNeg (nI j))) = (nI (tX f n E j).length) from (congrArg (F 4) (nI_toNat (k := j) (by omega))).trans ((hF.2.2.2.2 j h1_j).choose_spec.2.1)]
        show pl _ _ _ (_, [(0, .ref q), (1, .int (nI j)), (2, .int (nI k))], [.int (nI (tX f n E j).length)], M) _
        refine ps_st (S' := (32, [(0, .ref q), (1, .int (nI j)), (2, .int (nI k))], [.ref q, .int (nI (tX f n E j).length)], M)) rfl rfl rfl ?_
        refine ps_get (S' := (35, [(0, .ref q), (1, .int (nI j)), (2, .int (nI k))], [.ref (qq 4), .int (nI (tX f n E j).length)], M)) rfl h_q rfl rfl ?_
        refine ps_st (S' := (36, [(0, .ref q), (1, .int (nI j)), (2, .int (nI k))], [.int (nI k), .ref (qq 4), .int (nI (tX f n E j).length)], M)) rfl rfl rfl ?_
        refine ps_ald (S' := (37, [(0, .ref q), (1, .int (nI j)), (2, .int (nI k))], [.int ((F 4) (Int32.toNatClampNeg (nI k))), .int (nI (tX f n E j).length)], M)) rfl h_qq_4 rfl (fun i0_36 i1_36 => ?_)
        have hl_k := tx_len f n E k
        have h1_k : tg f E k = 1 := by omega
        rw [show ((F 4) (Int32.toNatClampNeg (nI k))) = (nI (tX f n E k).length) from (congrArg (F 4) (nI_toNat (k := k) (by omega))).trans ((hF.2.2.2.2 k h1_k).choose_spec.2.1)]
        show pl _ _ _ (_, [(0, .ref q), (1, .int (nI j)), (2, .int (nI k))], [.int (nI (tX f n E k).length), .int (nI (tX f n E j).length)], M) _
        refine ps_if2 (S1 := (42, [(0, .ref q), (1, .int (nI j)), (2, .int (nI k))], [], M)) (S2 := (40, [], [], M)) rfl rfl rfl (fun c_37 => ?_) (fun c_37 => ?_)
        · have c_37 : (nI (tX f n E j).length) = (nI (tX f n E k).length) := of_decide_eq_true c_37
          have n_37 : (tX f n E j).length = (tX f n E k).length := (eq_nI (p := (tX f n E j).length) (n := (tX f n E k).length) (Nat.lt_trans (tx_len _ _ _ _) (by decide)) (Nat.lt_trans (tx_len _ _ _ _) (by decide))).mp c_37
          refine ps_st (S' := (43, [(0, .ref q), (1, .int (nI j)), (2, .int (nI k))], [.int 0], M)) rfl rfl rfl ?_
          refine ps_st (S' := (44, [(0, .ref q), (1, .int (nI j)), (2, .int (nI k)), (3, .int 0)], [], M)) rfl rfl rfl ?_
          exact (LL kf) (0)  (by omega) (by omega) (by omega) (by omega) (by omega) (fun i9 h9 => by omega)
        · have c_37 : ¬ ((nI (tX f n E j).length) = (nI (tX f n E k).length)) := of_decide_eq_false c_37
          have n_37 : ¬ ((tX f n E j).length = (tX f n E k).length) := fun h9 => c_37 ((eq_nI (p := (tX f n E j).length) (n := (tX f n E k).length) (Nat.lt_trans (tx_len _ _ _ _) (by decide)) (Nat.lt_trans (tx_len _ _ _ _) (by decide))).mpr h9)
          refine ps_st (S' := (41, [], [.int 0], M)) rfl rfl rfl ?_
          exact ps_ret rfl rfl (⟨by rw [show smN f n E j k = 0 from if_neg (fun h0 => h0.elim (fun h9 => by omega) (fun h9 => by have h8 := congrArg List.length h9.2.2; omega))]; rfl, rfl⟩)
  · have c_2 : ¬ (¬ (nI j) = (nI k)) := of_decide_eq_false c_2
    have n_2 : j = k := (eq_nI (p := j) (n := k) (by omega) (by omega)).mp (Decidable.not_not.mp c_2)
    refine ps_st (S' := (6, [(0, .ref q), (1, .int (nI j)), (2, .int (nI k))], [.int 1], M)) rfl rfl rfl ?_
    exact ps_ret rfl rfl (⟨by rw [show smN f n E j k = 1 from if_pos (Or.inl (by omega))]; rfl, rfl⟩)
