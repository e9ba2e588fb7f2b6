section
/-! the pool's questions over its view (laid by wip/p4/d7.py) -/
theorem dy_tagOf {g : xe_G} {M : mi_H} {f : Nat → Int32} {n N q : Nat} {E : List (Nat × Nat)} {j : Nat}  (hV : PV g f n N E q M) (hj : j < 65536) : pt (mT g) 138 [.ref q, .int (nI j)] M (fun v M' => (v = some (.int (nI (tg f E j))) ∧ M = M')) := by
  obtain ⟨hL, H, m, qq, F, cc, hP, hT, hB, hb, hF, hS⟩ := hV
  exact (ct_tagOf hP (d := 3) (by decide)).pt.mono (fun v M' h => ⟨by rw [h.1, hF.tagOf hb.1 hj], h.2.symm⟩)
theorem dy_tagPlace {g : xe_G} {M : mi_H} {f : Nat → Int32} {n N q : Nat} {E : List (Nat × Nat)} {j p : Nat}  (hV : PV g f n N E q M) (hj : j < 65536) (hp : lk E j = some p) (ht : ¬ tg f E j = 0) : pt (mT g) 139 [.ref q, .int (nI j)] M (fun v M' => (v = some (.int (nI (p))) ∧ M = M')) := by
  obtain ⟨hL, H, m, qq, F, cc, hP, hT, hB, hb, hF, hS⟩ := hV
  exact (ct_tagPlace hP (d := 3) (by decide)).pt.mono (fun v M' h => ⟨by rw [h.1, hF.tagPlace hb.1 hj hp ht], h.2.symm⟩)
theorem dy_firstIndex {g : xe_G} {M : mi_H} {f : Nat → Int32} {n N q : Nat} {E : List (Nat × Nat)} {j : Nat}  (hV : PV g f n N E q M) (hj : j < 65536) : pt (mT g) 117 [.ref q, .int (nI j)] M (fun v M' => (v = some (.int (nI (fi f E j))) ∧ M = M')) := by
  obtain ⟨hL, H, m, qq, F, cc, hP, hT, hB, hb, hF, hS⟩ := hV
  exact (ct_firstIndex hP (d := 3) (by decide)).pt.mono (fun v M' h => ⟨by rw [h.1, hF.firstIndex hb.1 hj], h.2.symm⟩)
theorem dy_secondIndex {g : xe_G} {M : mi_H} {f : Nat → Int32} {n N q : Nat} {E : List (Nat × Nat)} {j : Nat}  (hV : PV g f n N E q M) (hj : j < 65536) : pt (mT g) 134 [.ref q, .int (nI j)] M (fun v M' => (v = some (.int (nI (se f E j))) ∧ M = M')) := by
  obtain ⟨hL, H, m, qq, F, cc, hP, hT, hB, hb, hF, hS⟩ := hV
  exact (ct_secondIndex hP (d := 3) (by decide)).pt.mono (fun v M' h => ⟨by rw [h.1, hF.secondIndex hb.1 hj], h.2.symm⟩)
theorem dy_textLength {g : xe_G} {M : mi_H} {f : Nat → Int32} {n N q : Nat} {E : List (Nat × Nat)} {j : Nat}  (hV : PV g f n N E q M) (hj : j < 65536) : pt (mT g) 141 [.ref q, .int (nI j)] M (fun v M' => (v = some (.int (nI ((tX f n E j).length))) ∧ M = M')) := by
  obtain ⟨hL, H, m, qq, F, cc, hP, hT, hB, hb, hF, hS⟩ := hV
  exact (ct_textLength hP (d := 3) (by decide)).pt.mono (fun v M' h => ⟨by rw [h.1, hF.textLength hb.1 hj], h.2.symm⟩)
theorem dy_characterAt {g : xe_G} {M : mi_H} {f : Nat → Int32} {n N q : Nat} {E : List (Nat × Nat)} {j i : Nat}  (hV : PV g f n N E q M) (hj : j < 65536) (hi : i < 1000000) : pt (mT g) 113 [.ref q, .int (nI j), .int (nI i)] M (fun v M' => (v = some (.int (if i < (tX f n E j).length then nI ((tX f n E j).getD i 0) else -1)) ∧ M = M')) := by
  obtain ⟨hL, H, m, qq, F, cc, hP, hT, hB, hb, hF, hS⟩ := hV
  exact (ct_characterAt hP hT (by omega) (d := 3) (by decide)).pt.mono (fun v M' h => ⟨by rw [h.1, hF.characterAt hb.1 hb.2.1 hj hi], h.2.symm⟩)
theorem dy_argumentPlaces {g : xe_G} {M : mi_H} {f : Nat → Int32} {n N q : Nat} {E : List (Nat × Nat)} {j : Nat}  (hV : PV g f n N E q M) (hj : j < 65536) : pt (mT g) 112 [.ref q, .int (nI j)] M (fun v M' => (v = some (.int (nI (argN (tX f n E j)))) ∧ M = M')) := by
  obtain ⟨hL, H, m, qq, F, cc, hP, hT, hB, hb, hF, hS⟩ := hV
  exact (ct_argumentPlaces hP (d := 3) (by decide)).pt.mono (fun v M' h => ⟨by rw [h.1, hF.argPl hS hb.1 hj], h.2.symm⟩)
theorem dy_hasNoResult {g : xe_G} {M : mi_H} {f : Nat → Int32} {n N q : Nat} {E : List (Nat × Nat)} {j : Nat}  (hV : PV g f n N E q M) (hj : j < 65536) : pt (mT g) 119 [.ref q, .int (nI j)] M (fun v M' => (v = some (.int (nI (nresN (tX f n E j)))) ∧ M = M')) := by
  obtain ⟨hL, H, m, qq, F, cc, hP, hT, hB, hb, hF, hS⟩ := hV
  exact (ct_hasNoResult hP (d := 3) (by decide)).pt.mono (fun v M' h => ⟨by rw [h.1, hF.noRes hS hb.1 hj], h.2.symm⟩)
theorem dy_isPlainClass {g : xe_G} {M : mi_H} {f : Nat → Int32} {n N q : Nat} {E : List (Nat × Nat)} {j : Nat}  (hV : PV g f n N E q M) (hj : j < 65536) : pt (mT g) 123 [.ref q, .int (nI j)] M (fun v M' => (v = some (.int (nI (plnN f n E j))) ∧ M = M')) := by
  obtain ⟨hL, H, m, qq, F, cc, hP, hT, hB, hb, hF, hS⟩ := hV
  exact (ct_isPlainClass hP hT (by omega) (d := 3) (by decide)).pt.mono (fun v M' h => ⟨by rw [h.1, hF.plain hb.1 hb.2.1 hj], h.2.symm⟩)
theorem dy_nameOf {g : xe_G} {M : mi_H} {f : Nat → Int32} {n N q : Nat} {E : List (Nat × Nat)} {j : Nat}  (hV : PV g f n N E q M) (hj : j < 65536) : pt (mT g) 128 [.ref q, .int (nI j)] M (fun v M' => (v = some (.int (nI (fi f E (se f E j)))) ∧ M = M')) := by
  obtain ⟨hL, H, m, qq, F, cc, hP, hT, hB, hb, hF, hS⟩ := hV
  exact (ct_nameOf hP (d := 3) (by decide)).pt.mono (fun v M' h => ⟨by rw [h.1, show sp_nameOf H m F (nI j) = nI (fi f E (se f E j)) by unfold sp_nameOf; rw [hF.secondIndex hb.1 hj, hF.firstIndex hb.1 (se_lt _ _ _)]], h.2.symm⟩)
theorem dy_descriptorOf {g : xe_G} {M : mi_H} {f : Nat → Int32} {n N q : Nat} {E : List (Nat × Nat)} {j : Nat}  (hV : PV g f n N E q M) (hj : j < 65536) : pt (mT g) 115 [.ref q, .int (nI j)] M (fun v M' => (v = some (.int (nI (se f E (se f E j)))) ∧ M = M')) := by
  obtain ⟨hL, H, m, qq, F, cc, hP, hT, hB, hb, hF, hS⟩ := hV
  exact (ct_descriptorOf hP (d := 3) (by decide)).pt.mono (fun v M' h => ⟨by rw [h.1, show sp_descriptorOf H m F (nI j) = nI (se f E (se f E j)) by unfold sp_descriptorOf; rw [hF.secondIndex hb.1 hj, hF.secondIndex hb.1 (se_lt _ _ _)]], h.2.symm⟩)
theorem dy_isFieldDescriptor {g : xe_G} {M : mi_H} {f : Nat → Int32} {n N q : Nat} {E : List (Nat × Nat)} {j : Nat}  (hV : PV g f n N E q M) (hj : j < 65536) : pt (mT g) 121 [.ref q, .int (nI j)] M (fun v M' => (v = some (.int (nI (fldN (tX f n E j)))) ∧ M = M')) := by
  obtain ⟨hL, H, m, qq, F, cc, hP, hT, hB, hb, hF, hS⟩ := hV
  exact (ct_isFieldDescriptor hP (d := 3) (by decide)).pt.mono (fun v M' h => ⟨by rw [h.1, hF.fld hS hb.1 hj], h.2.symm⟩)
theorem dy_isMethodDescriptor {g : xe_G} {M : mi_H} {f : Nat → Int32} {n N q : Nat} {E : List (Nat × Nat)} {j : Nat}  (hV : PV g f n N E q M) (hj : j < 65536) : pt (mT g) 122 [.ref q, .int (nI j)] M (fun v M' => (v = some (.int (nI (mthN (tX f n E j)))) ∧ M = M')) := by
  obtain ⟨hL, H, m, qq, F, cc, hP, hT, hB, hb, hF, hS⟩ := hV
  exact (ct_isMethodDescriptor hP (d := 3) (by decide)).pt.mono (fun v M' h => ⟨by rw [h.1, hF.mth hS hb.1 hj], h.2.symm⟩)
set_option maxHeartbeats 1000000 in
theorem dy_hasAngle {g : xe_G} {M : mi_H} {f : Nat → Int32} {n N q : Nat} {E : List (Nat × Nat)} {j : Nat}  (hV : PV g f n N E q M) (hj : j < 65536) : pt (mT g) 118 [.ref q, .int (nI j)] M (fun v M' => (v = some (.int (nI (angN (tX f n E j)))) ∧ M = M')) := by
  refine pt_in (b := mb_118 g) rfl (fun kf => ?_)
  show pl (mT g) kf (mb_118 g).2 (0, [(0, .ref q), (1, .int (nI j))], [], M) _
  have hV0 := hV
  obtain ⟨hL, H, m, qq, F, cc, hP, hT, hB, hb, hF, hS⟩ := hV0
  have h_q := hP.1
  have h_qq_1 := hP.2.1 1 (by decide) (by decide)
  have h_qq_2 := hP.2.1 2 (by decide) (by decide)
  have h_qq_3 := hP.2.1 3 (by decide) (by decide)
  have h_qq_4 := hP.2.1 4 (by decide) (by decide)
  have h_qq_5 := hP.2.1 5 (by decide) (by decide)
  have h_qq_6 := hP.2.2
  have LL : ∀ (kf : Nat), (∀ (i : Nat), (i ≤ (tX f n E j).length) → (∀ i9, i9 < i → ¬ (tX f n E j).getD i9 0 = 60 ∧ ¬ (tX f n E j).getD i9 0 = 62) →  pl (mT g) kf (mb_118 g).2 (2, [(0, .ref q), (1, .int (nI j)), (2, .int (nI i))], [], M) (fun v M' => (v = some (.int (nI (angN (tX f n E j)))) ∧ M = M'))) := by
    intro kf
    induction kf with
    | zero => exact (by intros; exact pl_0)
    | succ kf ih =>
      intro i hi hs
      have hl8 := tx_len f n E j
      refine ps_st1 (S' := (3, [(0, .ref q), (1, .int (nI j)), (2, .int (nI i))], [.int (nI i)], M)) rfl rfl rfl ?_
      refine ps_st (S' := (4, [(0, .ref q), (1, .int (nI j)), (2, .int (nI i))], [.ref q, .int (nI i)], M)) rfl rfl rfl ?_
      refine ps_st (S' := (5, [(0, .ref q), (1, .int (nI j)), (2, .int (nI i))], [.int (nI j), .ref q, .int (nI i)], M)) rfl rfl rfl ?_
      refine pl_call (a := [.ref q, .int (nI j)]) (rest := [.int (nI i)]) rfl rfl rfl (dy_textLength (f := f) (n := n) (N := N) (q := q) (E := E) (j := j) (hV) (by omega)) (fun v1 M2 q3 => ?_)
      obtain ⟨rfl, rfl⟩ := q3
      show pl _ _ _ (8, [(0, .ref q), (1, .int (nI j)), (2, .int (nI i))], [.int (nI ((tX f n E j).length)), .int (nI i)], M) _
      refine ps_if2 (S1 := (45, [(0, .ref q), (1, .int (nI j)), (2, .int (nI i))], [], M)) (S2 := (11, [(0, .ref q), (1, .int (nI j)), (2, .int (nI i))], [], M)) rfl rfl rfl (fun c_8 => ?_) (fun c_8 => ?_)
      · have c_8 : (nI ((tX f n E j).length)) ≤ (nI i) := of_decide_eq_true c_8
        have n_8 : (tX f n E j).length ≤ i := (le_nI (p := (tX f n E j).length) (n := i) (Nat.lt_trans (tx_len _ _ _ _) (by decide)) (by omega)).mp c_8
        refine ps_st (S' := (46, [(0, .ref q), (1, .int (nI j)), (2, .int (nI i))], [.int 0], M)) rfl rfl rfl ?_
        exact ps_ret rfl rfl (⟨by rw [show angN (tX f n E j) = 0 from ang_no (fun i9 h9 => hs i9 (by omega))]; rfl, rfl⟩)
      · have c_8 : ¬ ((nI ((tX f n E j).length)) ≤ (nI i)) := of_decide_eq_false c_8
        have n_8 : ¬ ((tX f n E j).length ≤ i) := fun h9 => c_8 ((le_nI (p := (tX f n E j).length) (n := i) (Nat.lt_trans (tx_len _ _ _ _) (by decide)) (by omega)).mpr h9)
        refine ps_st (S' := (12, [(0, .ref q), (1, .int (nI j)), (2, .int (nI i))], [.ref q], M)) rfl rfl rfl ?_
        refine ps_get (S' := (15, [(0, .ref q), (1, .int (nI j)), (2, .int (nI i))], [.ref (qq 6)], M)) rfl h_q rfl rfl ?_
        refine ps_st (S' := (16, [(0, .ref q), (1, .int (nI j)), (2, .int (nI i))], [.ref q, .ref (qq 6)], M)) rfl rfl rfl ?_
        refine ps_get (S' := (19, [(0, .ref q), (1, .int (nI j)), (2, .int (nI i))], [.ref (qq 3), .ref (qq 6)], M)) rfl h_q rfl rfl ?_
        refine ps_st (S' := (20, [(0, .ref q), (1, .int (nI j)), (2, .int (nI i))], [.int (nI j), .ref (qq 3), .ref (qq 6)], M)) rfl rfl rfl ?_
        refine ps_ald (S' := (21, [(0, .ref q), (1, .int (nI j)), (2, .int (nI i))], [.int ((F 3) (Int32.toNatClampNeg (nI j))), .ref (qq 6)], M)) rfl h_qq_3 rfl (fun i0_20 i1_20 => ?_)
        have ht1 : tg f E j = 1 := Decidable.byContradiction (fun h9 => by have h8 := congrArg List.length (tx_no (n := n) h9); simp only [List.length_nil] at h8; omega)
        obtain ⟨c0, a1, a2, a3, a4⟩ := hF.2.2.2.2 j ht1
        have hl9 := tx_len f n E j
        rw [show ((F 3) (Int32.toNatClampNeg (nI j))) = (nI c0) from (congrArg (F 3) (nI_toNat (k := j) (by omega))).trans (a1)]
        show pl _ _ _ (_, [(0, .ref q), (1, .int (nI j)), (2, .int (nI i))], [.int (nI c0), .ref (qq 6)], M) _
        refine ps_st (S' := (22, [(0, .ref q), (1, .int (nI j)), (2, .int (nI i))], [.int (nI i), .int (nI c0), .ref (qq 6)], M)) rfl rfl rfl ?_
        refine ps_st (S' := (23, [(0, .ref q), (1, .int (nI j)), (2, .int (nI i))], [.int ((nI c0) + (nI i)), .ref (qq 6)], M)) rfl rfl rfl ?_
        rw [nI_add1 (p := c0) (k := i) (x := (nI i)) rfl (by omega)]
        show pl _ _ _ (_, [(0, .ref q), (1, .int (nI j)), (2, .int (nI i))], [.int (nI (c0 + i)), .ref (qq 6)], M) _
        refine ps_ald (S' := (24, [(0, .ref q), (1, .int (nI j)), (2, .int (nI i))], [.int ((F 6) (Int32.toNatClampNeg (nI (c0 + i))))], M)) rfl h_qq_6 rfl (fun i0_23 i1_23 => ?_)
        have hb_23 := tx_ch f n E j i
        rw [show ((F 6) (Int32.toNatClampNeg (nI (c0 + i)))) = (nI ((tX f n E j).getD i 0)) from (congrArg (F 6) (nI_toNat (k := c0 + i) (by omega))).trans (a4 i (by omega))]
        show pl _ _ _ (_, [(0, .ref q), (1, .int (nI j)), (2, .int (nI i))], [.int (nI ((tX f n E j).getD i 0))], M) _
        refine ps_st (S' := (25, [(3, .int (nI ((tX f n E j).getD i 0))), (0, .ref q), (1, .int (nI j)), (2, .int (nI i))], [], M)) rfl rfl rfl ?_
        refine ps_st (S' := (26, [(3, .int (nI ((tX f n E j).getD i 0))), (0, .ref q), (1, .int (nI j)), (2, .int (nI i))], [.int (nI ((tX f n E j).getD i 0))], M)) rfl rfl rfl ?_
        refine ps_st (S' := (28, [(3, .int (nI ((tX f n E j).getD i 0))), (0, .ref q), (1, .int (nI j)), (2, .int (nI i))], [.int 60, .int (nI ((tX f n E j).getD i 0))], M)) rfl rfl rfl ?_
        refine ps_if2 (S1 := (37, [], [], M)) (S2 := (31, [(3, .int (nI ((tX f n E j).getD i 0))), (0, .ref q), (1, .int (nI j)), (2, .int (nI i))], [], M)) rfl rfl rfl (fun c_28 => ?_) (fun c_28 => ?_)
        · have c_28 : (nI ((tX f n E j).getD i 0)) = 60 := of_decide_eq_true c_28
          have n_28 : (tX f n E j).getD i 0 = 60 := (eq_nI (p := (tX f n E j).getD i 0) (n := 60) (Nat.lt_trans (tx_ch _ _ _ _ _) (by decide)) (by decide)).mp c_28
          refine ps_st (S' := (38, [], [.int 1], M)) rfl rfl rfl ?_
          exact ps_ret rfl rfl (⟨by rw [show angN (tX f n E j) = 1 from ang_in (i := i) (by omega) (by omega)]; rfl, rfl⟩)
        · have c_28 : ¬ ((nI ((tX f n E j).getD i 0)) = 60) := of_decide_eq_false c_28
          have n_28 : ¬ ((tX f n E j).getD i 0 = 60) := fun h9 => c_28 ((eq_nI (p := (tX f n E j).getD i 0) (n := 60) (Nat.lt_trans (tx_ch _ _ _ _ _) (by decide)) (by decide)).mpr h9)
          refine ps_st (S' := (32, [(3, .int (nI ((tX f n E j).getD i 0))), (0, .ref q), (1, .int (nI j)), (2, .int (nI i))], [.int (nI ((tX f n E j).getD i 0))], M)) rfl rfl rfl ?_
          refine ps_st (S' := (34, [(3, .int (nI ((tX f n E j).getD i 0))), (0, .ref q), (1, .int (nI j)), (2, .int (nI i))], [.int 62, .int (nI ((tX f n E j).getD i 0))], M)) rfl rfl rfl ?_
          refine ps_if2 (S1 := (39, [(3, .int (nI ((tX f n E j).getD i 0))), (0, .ref q), (1, .int (nI j)), (2, .int (nI i))], [], M)) (S2 := (37, [], [], M)) rfl rfl rfl (fun c_34 => ?_) (fun c_34 => ?_)
          · have c_34 : ¬ (nI ((tX f n E j).getD i 0)) = 62 := of_decide_eq_true c_34
            have n_34 : ¬ ((tX f n E j).getD i 0 = 62) := fun h9 => c_34 ((eq_nI (p := (tX f n E j).getD i 0) (n := 62) (Nat.lt_trans (tx_ch _ _ _ _ _) (by decide)) (by decide)).mpr h9)
            refine ps_st (S' := (42, [(2, .int ((nI i) + 1)), (3, .int (nI ((tX f n E j).getD i 0))), (0, .ref q), (1, .int (nI j))], [], M)) rfl rfl rfl ?_
            rw [nI_add1 (p := i) (k := 1) (x := 1) rfl (by omega)]
            show pl _ _ _ (_, [(2, .int (nI (i + 1))), (3, .int (nI ((tX f n E j).getD i 0))), (0, .ref q), (1, .int (nI j))], [], M) _
            refine ps_st (S' := (2, [(0, .ref q), (1, .int (nI j)), (2, .int (nI (i + 1)))], [], M)) rfl rfl rfl ?_
            exact ih (i + 1)  (by omega) (fun i9 h9 => by rcases Nat.lt_succ_iff_lt_or_eq.mp h9 with h8 | rfl; exact hs i9 h8; omega)
          · have c_34 : ¬ (¬ (nI ((tX f n E j).getD i 0)) = 62) := of_decide_eq_false c_34
            have n_34 : (tX f n E j).getD i 0 = 62 := (eq_nI (p := (tX f n E j).getD i 0) (n := 62) (Nat.lt_trans (tx_ch _ _ _ _ _) (by decide)) (by decide)).mp (Decidable.not_not.mp c_34)
            refine ps_st (S' := (38, [], [.int 1], M)) rfl rfl rfl ?_
            exact ps_ret rfl rfl (⟨by rw [show angN (tX f n E j) = 1 from ang_in (i := i) (by omega) (by omega)]; rfl, rfl⟩)
  refine ps_st (S' := (1, [(0, .ref q), (1, .int (nI j))], [.int 0], M)) rfl rfl rfl ?_
  refine ps_st (S' := (2, [(0, .ref q), (1, .int (nI j)), (2, .int 0)], [], M)) rfl rfl rfl ?_
  exact (LL kf) (0)  (by omega) (fun i9 h9 => by omega)
set_option maxHeartbeats 1000000 in
theorem dy_isUnqualifiedName {g : xe_G} {M : mi_H} {f : Nat → Int32} {n N q : Nat} {E : List (Nat × Nat)} {j : Nat}  (hV : PV g f n N E q M) (hj : j < 65536) : pt (mT g) 124 [.ref q, .int (nI j)] M (fun v M' => (v = some (.int (nI (unqN (tX f n E j)))) ∧ M = M')) := by
  refine pt_in (b := mb_124 g) rfl (fun kf => ?_)
  show pl (mT g) kf (mb_124 g).2 (0, [(0, .ref q), (1, .int (nI j))], [], M) _
  have hV0 := hV
  obtain ⟨hL, H, m, qq, F, cc, hP, hT, hB, hb, hF, hS⟩ := hV0
  have h_q := hP.1
  have h_qq_1 := hP.2.1 1 (by decide) (by decide)
  have h_qq_2 := hP.2.1 2 (by decide) (by decide)
  have h_qq_3 := hP.2.1 3 (by decide) (by decide)
  have h_qq_4 := hP.2.1 4 (by decide) (by decide)
  have h_qq_5 := hP.2.1 5 (by decide) (by decide)
  have h_qq_6 := hP.2.2
  have LL : ∀ (kf : Nat), (∀ (i : Nat), (i ≤ (tX f n E j).length) → (∀ i9, i9 < i → ¬ (tX f n E j).getD i9 0 = 46 ∧ ¬ (tX f n E j).getD i9 0 = 59 ∧ ¬ (tX f n E j).getD i9 0 = 91 ∧ ¬ (tX f n E j).getD i9 0 = 47) →  pl (mT g) kf (mb_124 g).2 (2, [(0, .ref q), (1, .int (nI j)), (2, .int (nI i))], [], M) (fun v M' => (v = some (.int (nI (unqN (tX f n E j)))) ∧ M = M'))) := by
    intro kf
    induction kf with
    | zero => exact (by intros; exact pl_0)
    | succ kf ih =>
      intro i hi hs
      have hl8 := tx_len f n E j
      refine ps_st1 (S' := (3, [(0, .ref q), (1, .int (nI j)), (2, .int (nI i))], [.int (nI i)], M)) rfl rfl rfl ?_
      refine ps_st (S' := (4, [(0, .ref q), (1, .int (nI j)), (2, .int (nI i))], [.ref q, .int (nI i)], M)) rfl rfl rfl ?_
      refine ps_st (S' := (5, [(0, .ref q), (1, .int (nI j)), (2, .int (nI i))], [.int (nI j), .ref q, .int (nI i)], M)) rfl rfl rfl ?_
      refine pl_call (a := [.ref q, .int (nI j)]) (rest := [.int (nI i)]) rfl rfl rfl (dy_textLength (f := f) (n := n) (N := N) (q := q) (E := E) (j := j) (hV) (by omega)) (fun v1 M2 q3 => ?_)
      obtain ⟨rfl, rfl⟩ := q3
      show pl _ _ _ (8, [(0, .ref q), (1, .int (nI j)), (2, .int (nI i))], [.int (nI ((tX f n E j).length)), .int (nI i)], M) _
      refine ps_if2 (S1 := (57, [(0, .ref q), (1, .int (nI j)), (2, .int (nI i))], [], M)) (S2 := (11, [(0, .ref q), (1, .int (nI j)), (2, .int (nI i))], [], M)) rfl rfl rfl (fun c_8 => ?_) (fun c_8 => ?_)
      · have c_8 : (nI ((tX f n E j).length)) ≤ (nI i) := of_decide_eq_true c_8
        have n_8 : (tX f n E j).length ≤ i := (le_nI (p := (tX f n E j).length) (n := i) (Nat.lt_trans (tx_len _ _ _ _) (by decide)) (by omega)).mp c_8
        refine ps_st (S' := (58, [(0, .ref q), (1, .int (nI j)), (2, .int (nI i))], [.ref q], M)) rfl rfl rfl ?_
        refine ps_st (S' := (59, [(0, .ref q), (1, .int (nI j)), (2, .int (nI i))], [.int (nI j), .ref q], M)) rfl rfl rfl ?_
        refine pl_call (a := [.ref q, .int (nI j)]) (rest := []) rfl rfl rfl (dy_textLength (f := f) (n := n) (N := N) (q := q) (E := E) (j := j) (hV) (by omega)) (fun v4 M5 q6 => ?_)
        obtain ⟨rfl, rfl⟩ := q6
        show pl _ _ _ (62, [(0, .ref q), (1, .int (nI j)), (2, .int (nI i))], [.int (nI ((tX f n E j).length))], M) _
        refine ps_if (S1 := (69, [(0, .ref q), (1, .int (nI j)), (2, .int (nI i))], [], M)) (S2 := (65, [(0, .ref q), (1, .int (nI j)), (2, .int (nI i))], [], M)) rfl rfl rfl (fun c_62 => ?_) (fun c_62 => ?_)
        · have c_62 : (nI ((tX f n E j).length)) ≤ 0 := of_decide_eq_true c_62
          have n_62 : (tX f n E j).length ≤ 0 := (le_nI (p := (tX f n E j).length) (n := 0) (Nat.lt_trans (tx_len _ _ _ _) (by decide)) (by decide)).mp c_62
          refine ps_st (S' := (70, [], [.int 0], M)) rfl rfl rfl ?_
          exact ps_ret rfl rfl (⟨by rw [show unqN (tX f n E j) = 0 from unq_nil (by omega)]; rfl, rfl⟩)
        · have c_62 : ¬ ((nI ((tX f n E j).length)) ≤ 0) := of_decide_eq_false c_62
          have n_62 : ¬ ((tX f n E j).length ≤ 0) := fun h9 => c_62 ((le_nI (p := (tX f n E j).length) (n := 0) (Nat.lt_trans (tx_len _ _ _ _) (by decide)) (by decide)).mpr h9)
          refine ps_st (S' := (66, [(0, .ref q), (1, .int (nI j)), (2, .int (nI i))], [.int 1], M)) rfl rfl rfl ?_
          refine ps_st (S' := (70, [], [.int 1], M)) rfl rfl rfl ?_
          exact ps_ret rfl rfl (⟨by rw [show unqN (tX f n E j) = 1 from unq_in (by omega) (fun i9 h9 => hs i9 (by omega))]; rfl, rfl⟩)
      · have c_8 : ¬ ((nI ((tX f n E j).length)) ≤ (nI i)) := of_decide_eq_false c_8
        have n_8 : ¬ ((tX f n E j).length ≤ i) := fun h9 => c_8 ((le_nI (p := (tX f n E j).length) (n := i) (Nat.lt_trans (tx_len _ _ _ _) (by decide)) (by omega)).mpr h9)
        refine ps_st (S' := (12, [(0, .ref q), (1, .int (nI j)), (2, .int (nI i))], [.ref q], M)) rfl rfl rfl ?_
        refine ps_get (S' := (15, [(0, .ref q), (1, .int (nI j)), (2, .int (nI i))], [.ref (qq 6)], M)) rfl h_q rfl rfl ?_
        refine ps_st (S' := (16, [(0, .ref q), (1, .int (nI j)), (2, .int (nI i))], [.ref q, .ref (qq 6)], M)) rfl rfl rfl ?_
        refine ps_get (S' := (19, [(0, .ref q), (1, .int (nI j)), (2, .int (nI i))], [.ref (qq 3), .ref (qq 6)], M)) rfl h_q rfl rfl ?_
        refine ps_st (S' := (20, [(0, .ref q), (1, .int (nI j)), (2, .int (nI i))], [.int (nI j), .ref (qq 3), .ref (qq 6)], M)) rfl rfl rfl ?_
        refine ps_ald (S' := (21, [(0, .ref q), (1, .int (nI j)), (2, .int (nI i))], [.int ((F 3) (Int32.toNatClampNeg (nI j))), .ref (qq 6)], M)) rfl h_qq_3 rfl (fun i0_20 i1_20 => ?_)
        have ht1 : tg f E j = 1 := Decidable.byContradiction (fun h9 => by have h8 := congrArg List.length (tx_no (n := n) h9); simp only [List.length_nil] at h8; omega)
        obtain ⟨c0, a1, a2, a3, a4⟩ := hF.2.2.2.2 j ht1
        have hl9 := tx_len f n E j
        rw [show ((F 3) (Int32.toNatClampNeg (nI j))) = (nI c0) from (congrArg (F 3) (nI_toNat (k := j) (by omega))).trans (a1)]
        show pl _ _ _ (_, [(0, .ref q), (1, .int (nI j)), (2, .int (nI i))], [.int (nI c0), .ref (qq 6)], M) _
        refine ps_st (S' := (22, [(0, .ref q), (1, .int (nI j)), (2, .int (nI i))], [.int (nI i), .int (nI c0), .ref (qq 6)], M)) rfl rfl rfl ?_
        refine ps_st (S' := (23, [(0, .ref q), (1, .int (nI j)), (2, .int (nI i))], [.int ((nI c0) + (nI i)), .ref (qq 6)], M)) rfl rfl rfl ?_
        rw [nI_add1 (p := c0) (k := i) (x := (nI i)) rfl (by omega)]
        show pl _ _ _ (_, [(0, .ref q), (1, .int (nI j)), (2, .int (nI i))], [.int (nI (c0 + i)), .ref (qq 6)], M) _
        refine ps_ald (S' := (24, [(0, .ref q), (1, .int (nI j)), (2, .int (nI i))], [.int ((F 6) (Int32.toNatClampNeg (nI (c0 + i))))], M)) rfl h_qq_6 rfl (fun i0_23 i1_23 => ?_)
        have hb_23 := tx_ch f n E j i
        rw [show ((F 6) (Int32.toNatClampNeg (nI (c0 + i)))) = (nI ((tX f n E j).getD i 0)) from (congrArg (F 6) (nI_toNat (k := c0 + i) (by omega))).trans (a4 i (by omega))]
        show pl _ _ _ (_, [(0, .ref q), (1, .int (nI j)), (2, .int (nI i))], [.int (nI ((tX f n E j).getD i 0))], M) _
        refine ps_st (S' := (25, [(3, .int (nI ((tX f n E j).getD i 0))), (0, .ref q), (1, .int (nI j)), (2, .int (nI i))], [], M)) rfl rfl rfl ?_
        refine ps_st (S' := (26, [(3, .int (nI ((tX f n E j).getD i 0))), (0, .ref q), (1, .int (nI j)), (2, .int (nI i))], [.int (nI ((tX f n E j).getD i 0))], M)) rfl rfl rfl ?_
        refine ps_st (S' := (28, [(3, .int (nI ((tX f n E j).getD i 0))), (0, .ref q), (1, .int (nI j)), (2, .int (nI i))], [.int 46, .int (nI ((tX f n E j).getD i 0))], M)) rfl rfl rfl ?_
        refine ps_if2 (S1 := (49, [], [], M)) (S2 := (31, [(3, .int (nI ((tX f n E j).getD i 0))), (0, .ref q), (1, .int (nI j)), (2, .int (nI i))], [], M)) rfl rfl rfl (fun c_28 => ?_) (fun c_28 => ?_)
        · have c_28 : (nI ((tX f n E j).getD i 0)) = 46 := of_decide_eq_true c_28
          have n_28 : (tX f n E j).getD i 0 = 46 := (eq_nI (p := (tX f n E j).getD i 0) (n := 46) (Nat.lt_trans (tx_ch _ _ _ _ _) (by decide)) (by decide)).mp c_28
          refine ps_st (S' := (50, [], [.int 0], M)) rfl rfl rfl ?_
          exact ps_ret rfl rfl (⟨by rw [show unqN (tX f n E j) = 0 from unq_no (i := i) (by omega) (by omega)]; rfl, rfl⟩)
        · have c_28 : ¬ ((nI ((tX f n E j).getD i 0)) = 46) := of_decide_eq_false c_28
          have n_28 : ¬ ((tX f n E j).getD i 0 = 46) := fun h9 => c_28 ((eq_nI (p := (tX f n E j).getD i 0) (n := 46) (Nat.lt_trans (tx_ch _ _ _ _ _) (by decide)) (by decide)).mpr h9)
          refine ps_st (S' := (32, [(3, .int (nI ((tX f n E j).getD i 0))), (0, .ref q), (1, .int (nI j)), (2, .int (nI i))], [.int (nI ((tX f n E j).getD i 0))], M)) rfl rfl rfl ?_
          refine ps_st (S' := (34, [(3, .int (nI ((tX f n E j).getD i 0))), (0, .ref q), (1, .int (nI j)), (2, .int (nI i))], [.int 59, .int (nI ((tX f n E j).getD i 0))], M)) rfl rfl rfl ?_
          refine ps_if2 (S1 := (49, [], [], M)) (S2 := (37, [(3, .int (nI ((tX f n E j).getD i 0))), (0, .ref q), (1, .int (nI j)), (2, .int (nI i))], [], M)) rfl rfl rfl (fun c_34 => ?_) (fun c_34 => ?_)
          · have c_34 : (nI ((tX f n E j).getD i 0)) = 59 := of_decide_eq_true c_34
            have n_34 : (tX f n E j).getD i 0 = 59 := (eq_nI (p := (tX f n E j).getD i 0) (n := 59) (Nat.lt_trans (tx_ch _ _ _ _ _) (by decide)) (by decide)).mp c_34
            refine ps_st (S' := (50, [], [.int 0], M)) rfl rfl rfl ?_
            exact ps_ret rfl rfl (⟨by rw [show unqN (tX f n E j) = 0 from unq_no (i := i) (by omega) (by omega)]; rfl, rfl⟩)
          · have c_34 : ¬ ((nI ((tX f n E j).getD i 0)) = 59) := of_decide_eq_false c_34
            have n_34 : ¬ ((tX f n E j).getD i 0 = 59) := fun h9 => c_34 ((eq_nI (p := (tX f n E j).getD i 0) (n := 59) (Nat.lt_trans (tx_ch _ _ _ _ _) (by decide)) (by decide)).mpr h9)
            refine ps_st (S' := (38, [(3, .int (nI ((tX f n E j).getD i 0))), (0, .ref q), (1, .int (nI j)), (2, .int (nI i))], [.int (nI ((tX f n E j).getD i 0))], M)) rfl rfl rfl ?_
            refine ps_st (S' := (40, [(3, .int (nI ((tX f n E j).getD i 0))), (0, .ref q), (1, .int (nI j)), (2, .int (nI i))], [.int 91, .int (nI ((tX f n E j).getD i 0))], M)) rfl rfl rfl ?_
            refine ps_if2 (S1 := (49, [], [], M)) (S2 := (43, [(3, .int (nI ((tX f n E j).getD i 0))), (0, .ref q), (1, .int (nI j)), (2, .int (nI i))], [], M)) rfl rfl rfl (fun c_40 => ?_) (fun c_40 => ?_)
            · have c_40 : (nI ((tX f n E j).getD i 0)) = 91 := of_decide_eq_true c_40
              have n_40 : (tX f n E j).getD i 0 = 91 := (eq_nI (p := (tX f n E j).getD i 0) (n := 91) (Nat.lt_trans (tx_ch _ _ _ _ _) (by decide)) (by decide)).mp c_40
              refine ps_st (S' := (50, [], [.int 0], M)) rfl rfl rfl ?_
              exact ps_ret rfl rfl (⟨by rw [show unqN (tX f n E j) = 0 from unq_no (i := i) (by omega) (by omega)]; rfl, rfl⟩)
            · have c_40 : ¬ ((nI ((tX f n E j).getD i 0)) = 91) := of_decide_eq_false c_40
              have n_40 : ¬ ((tX f n E j).getD i 0 = 91) := fun h9 => c_40 ((eq_nI (p := (tX f n E j).getD i 0) (n := 91) (Nat.lt_trans (tx_ch _ _ _ _ _) (by decide)) (by decide)).mpr h9)
              refine ps_st (S' := (44, [(3, .int (nI ((tX f n E j).getD i 0))), (0, .ref q), (1, .int (nI j)), (2, .int (nI i))], [.int (nI ((tX f n E j).getD i 0))], M)) rfl rfl rfl ?_
              refine ps_st (S' := (46, [(3, .int (nI ((tX f n E j).getD i 0))), (0, .ref q), (1, .int (nI j)), (2, .int (nI i))], [.int 47, .int (nI ((tX f n E j).getD i 0))], M)) rfl rfl rfl ?_
              refine ps_if2 (S1 := (51, [(3, .int (nI ((tX f n E j).getD i 0))), (0, .ref q), (1, .int (nI j)), (2, .int (nI i))], [], M)) (S2 := (49, [], [], M)) rfl rfl rfl (fun c_46 => ?_) (fun c_46 => ?_)
              · have c_46 : ¬ (nI ((tX f n E j).getD i 0)) = 47 := of_decide_eq_true c_46
                have n_46 : ¬ ((tX f n E j).getD i 0 = 47) := fun h9 => c_46 ((eq_nI (p := (tX f n E j).getD i 0) (n := 47) (Nat.lt_trans (tx_ch _ _ _ _ _) (by decide)) (by decide)).mpr h9)
                refine ps_st (S' := (54, [(2, .int ((nI i) + 1)), (3, .int (nI ((tX f n E j).getD i 0))), (0, .ref q), (1, .int (nI j))], [], M)) rfl rfl rfl ?_
                rw [nI_add1 (p := i) (k := 1) (x := 1) rfl (by omega)]
                show pl _ _ _ (_, [(2, .int (nI (i + 1))), (3, .int (nI ((tX f n E j).getD i 0))), (0, .ref q), (1, .int (nI j))], [], M) _
                refine ps_st (S' := (2, [(0, .ref q), (1, .int (nI j)), (2, .int (nI (i + 1)))], [], M)) rfl rfl rfl ?_
                exact ih (i + 1)  (by omega) (fun i9 h9 => by rcases Nat.lt_succ_iff_lt_or_eq.mp h9 with h8 | rfl; exact hs i9 h8; omega)
              · have c_46 : ¬ (¬ (nI ((tX f n E j).getD i 0)) = 47) := of_decide_eq_false c_46
                have n_46 : (tX f n E j).getD i 0 = 47 := (eq_nI (p := (tX f n E j).getD i 0) (n := 47) (Nat.lt_trans (tx_ch _ _ _ _ _) (by decide)) (by decide)).mp (Decidable.not_not.mp c_46)
                refine ps_st (S' := (50, [], [.int 0], M)) rfl rfl rfl ?_
                exact ps_ret rfl rfl (⟨by rw [show unqN (tX f n E j) = 0 from unq_no (i := i) (by omega) (by omega)]; rfl, rfl⟩)
  refine ps_st (S' := (1, [(0, .ref q), (1, .int (nI j))], [.int 0], M)) rfl rfl rfl ?_
  refine ps_st (S' := (2, [(0, .ref q), (1, .int (nI j)), (2, .int 0)], [], M)) rfl rfl rfl ?_
  exact (LL kf) (0)  (by omega) (fun i9 h9 => by omega)
set_option maxHeartbeats 1000000 in
theorem dy_textIs {g : xe_G} {M : mi_H} {f : Nat → Int32} {n N q : Nat} {E : List (Nat × Nat)} {j k : Nat}  (hV : PV g f n N E q M) (hj : j < 65536) (hk : k < 15) : pt (mT g) 140 [.ref q, .int (nI j), .ref (g.2.1 k)] M (fun v M' => (v = some (.int (nI (eqN (tX f n E j) (ltx k)))) ∧ M = M')) := by
  refine pt_in (b := mb_140 g) rfl (fun kf => ?_)
  show pl (mT g) kf (mb_140 g).2 (0, [(0, .ref q), (1, .int (nI j)), (2, .ref (g.2.1 k))], [], M) _
  have hV0 := hV
  obtain ⟨hL, H, m, qq, F, cc, hP, hT, hB, hb, hF, hS⟩ := hV0
  have h_q := hP.1
  have h_qq_1 := hP.2.1 1 (by decide) (by decide)
  have h_qq_2 := hP.2.1 2 (by decide) (by decide)
  have h_qq_3 := hP.2.1 3 (by decide) (by decide)
  have h_qq_4 := hP.2.1 4 (by decide) (by decide)
  have h_qq_5 := hP.2.1 5 (by decide) (by decide)
  have h_qq_6 := hP.2.2
  obtain ⟨hl0, k9, fl9, hk9, hlt, htx⟩ := hL k hk
  have hll : (xe_lt k9).2.2.2.length = (ltx k).length := by rw [htx]; unfold ltx; simp
  have hl7 := (ltx_ch k (by omega) 0 (by decide)).2
  have LL : ∀ (kf : Nat), (∀ (i : Nat), (tg f E j = 1) → ((tX f n E j).length = (ltx k).length) → (i ≤ (ltx k).length) → (∀ i9, i9 < i → (tX f n E j).getD i9 0 = (ltx k).getD i9 0) →  pl (mT g) kf (mb_140 g).2 (26, [(0, .ref q), (1, .int (nI j)), (2, .ref (g.2.1 k)), (3, .int (nI i))], [], M) (fun v M' => (v = some (.int (nI (eqN (tX f n E j) (ltx k)))) ∧ M = M'))) := by
    intro kf
    induction kf with
    | zero => exact (by intros; exact pl_0)
    | succ kf ih =>
      intro i ht1 he hi hs
      obtain ⟨c0, a1, a2, a3, a4⟩ := hF.2.2.2.2 j ht1
      refine ps_st1 (S' := (27, [(0, .ref q), (1, .int (nI j)), (2, .ref (g.2.1 k)), (3, .int (nI i))], [.int (nI i)], M)) rfl rfl rfl ?_
      refine ps_st (S' := (28, [(0, .ref q), (1, .int (nI j)), (2, .ref (g.2.1 k)), (3, .int (nI i))], [.ref (g.2.1 k), .int (nI i)], M)) rfl rfl rfl ?_
      refine ps_slen (S' := (31, [(0, .ref q), (1, .int (nI j)), (2, .ref (g.2.1 k)), (3, .int (nI i))], [.int (nI (ltx k).length), .int (nI i)], M)) rfl hlt (hll) rfl ?_
      refine ps_if2 (S1 := (63, [(0, .ref q), (1, .int (nI j)), (2, .ref (g.2.1 k)), (3, .int (nI i))], [], M)) (S2 := (34, [(0, .ref q), (1, .int (nI j)), (2, .ref (g.2.1 k)), (3, .int (nI i))], [], M)) rfl rfl rfl (fun c_31 => ?_) (fun c_31 => ?_)
      · have c_31 : (nI (ltx k).length) ≤ (nI i) := of_decide_eq_true c_31
        have n_31 : (ltx k).length ≤ i := (le_nI (p := (ltx k).length) (n := i) (by omega) (by omega)).mp c_31
        refine ps_st (S' := (64, [(0, .ref q), (1, .int (nI j)), (2, .ref (g.2.1 k)), (3, .int (nI i))], [.int 1], M)) rfl rfl rfl ?_
        exact ps_ret rfl rfl (⟨by rw [show eqN (tX f n E j) (ltx k) = 1 from if_pos (gd_ext (by omega) (fun i9 h9 => hs i9 (by omega)))]; rfl, rfl⟩)
      · have c_31 : ¬ ((nI (ltx k).length) ≤ (nI i)) := of_decide_eq_false c_31
        have n_31 : ¬ ((ltx k).length ≤ i) := fun h9 => c_31 ((le_nI (p := (ltx k).length) (n := i) (by omega) (by omega)).mpr h9)
        refine ps_st (S' := (35, [(0, .ref q), (1, .int (nI j)), (2, .ref (g.2.1 k)), (3, .int (nI i))], [.ref q], M)) rfl rfl rfl ?_
        refine ps_get (S' := (38, [(0, .ref q), (1, .int (nI j)), (2, .ref (g.2.1 k)), (3, .int (nI i))], [.ref (qq 6)], M)) rfl h_q rfl rfl ?_
        refine ps_st (S' := (39, [(0, .ref q), (1, .int (nI j)), (2, .ref (g.2.1 k)), (3, .int (nI i))], [.ref q, .ref (qq 6)], M)) rfl rfl rfl ?_
        refine ps_get (S' := (42, [(0, .ref q), (1, .int (nI j)), (2, .ref (g.2.1 k)), (3, .int (nI i))], [.ref (qq 3), .ref (qq 6)], M)) rfl h_q rfl rfl ?_
        refine ps_st (S' := (43, [(0, .ref q), (1, .int (nI j)), (2, .ref (g.2.1 k)), (3, .int (nI i))], [.int (nI j), .ref (qq 3), .ref (qq 6)], M)) rfl rfl rfl ?_
        refine ps_ald (S' := (44, [(0, .ref q), (1, .int (nI j)), (2, .ref (g.2.1 k)), (3, .int (nI i))], [.int ((F 3) (Int32.toNatClampNeg (nI j))), .ref (qq 6)], M)) rfl h_qq_3 rfl (fun i0_43 i1_43 => ?_)
        have hl9 := tx_len f n E j
        rw [show ((F 3) (Int32.toNatClampNeg (nI j))) = (nI c0) from (congrArg (F 3) (nI_toNat (k := j) (by omega))).trans (a1)]
        show pl _ _ _ (_, [(0, .ref q), (1, .int (nI j)), (2, .ref (g.2.1 k)), (3, .int (nI i))], [.int (nI c0), .ref (qq 6)], M) _
        refine ps_st (S' := (45, [(0, .ref q), (1, .int (nI j)), (2, .ref (g.2.1 k)), (3, .int (nI i))], [.int (nI i), .int (nI c0), .ref (qq 6)], M)) rfl rfl rfl ?_
        refine ps_st (S' := (46, [(0, .ref q), (1, .int (nI j)), (2, .ref (g.2.1 k)), (3, .int (nI i))], [.int ((nI c0) + (nI i)), .ref (qq 6)], M)) rfl rfl rfl ?_
        rw [nI_add1 (p := c0) (k := i) (x := (nI i)) rfl (by omega)]
        show pl _ _ _ (_, [(0, .ref q), (1, .int (nI j)), (2, .ref (g.2.1 k)), (3, .int (nI i))], [.int (nI (c0 + i)), .ref (qq 6)], M) _
        refine ps_ald (S' := (47, [(0, .ref q), (1, .int (nI j)), (2, .ref (g.2.1 k)), (3, .int (nI i))], [.int ((F 6) (Int32.toNatClampNeg (nI (c0 + i))))], M)) rfl h_qq_6 rfl (fun i0_46 i1_46 => ?_)
        have hb_46 := tx_ch f n E j i
        have hb9_46 := (ltx_ch k (by omega) i (by omega)).1
        rw [show ((F 6) (Int32.toNatClampNeg (nI (c0 + i)))) = (nI ((tX f n E j).getD i 0)) from (congrArg (F 6) (nI_toNat (k := c0 + i) (by omega))).trans (a4 i (by omega))]
        show pl _ _ _ (_, [(0, .ref q), (1, .int (nI j)), (2, .ref (g.2.1 k)), (3, .int (nI i))], [.int (nI ((tX f n E j).getD i 0))], M) _
        refine ps_st (S' := (48, [(0, .ref q), (1, .int (nI j)), (2, .ref (g.2.1 k)), (3, .int (nI i))], [.ref (g.2.1 k), .int (nI ((tX f n E j).getD i 0))], M)) rfl rfl rfl ?_
        refine ps_st (S' := (49, [(0, .ref q), (1, .int (nI j)), (2, .ref (g.2.1 k)), (3, .int (nI i))], [.int (nI i), .ref (g.2.1 k), .int (nI ((tX f n E j).getD i 0))], M)) rfl rfl rfl ?_
        refine ps_schar (S' := (52, [(0, .ref q), (1, .int (nI j)), (2, .ref (g.2.1 k)), (3, .int (nI i))], [.int (nI ((ltx k).getD i 0)), .int (nI ((tX f n E j).getD i 0))], M)) rfl hlt ⟨(by omega : k < 30), htx⟩ (by omega) rfl ?_
        refine ps_if2 (S1 := (57, [(0, .ref q), (1, .int (nI j)), (2, .ref (g.2.1 k)), (3, .int (nI i))], [], M)) (S2 := (55, [(0, .ref q), (1, .int (nI j)), (2, .ref (g.2.1 k)), (3, .int (nI i))], [], M)) rfl rfl rfl (fun c_52 => ?_) (fun c_52 => ?_)
        · have c_52 : (nI ((tX f n E j).getD i 0)) = (nI ((ltx k).getD i 0)) := of_decide_eq_true c_52
          have n_52 : (tX f n E j).getD i 0 = (ltx k).getD i 0 := (eq_nI (p := (tX f n E j).getD i 0) (n := (ltx k).getD i 0) (Nat.lt_trans (tx_ch _ _ _ _ _) (by decide)) (by omega)).mp c_52
          refine ps_st (S' := (60, [(3, .int ((nI i) + 1)), (0, .ref q), (1, .int (nI j)), (2, .ref (g.2.1 k))], [], M)) rfl rfl rfl ?_
          rw [nI_add1 (p := i) (k := 1) (x := 1) rfl (by omega)]
          show pl _ _ _ (_, [(3, .int (nI (i + 1))), (0, .ref q), (1, .int (nI j)), (2, .ref (g.2.1 k))], [], M) _
          refine ps_st (S' := (26, [(0, .ref q), (1, .int (nI j)), (2, .ref (g.2.1 k)), (3, .int (nI (i + 1)))], [], M)) rfl rfl rfl ?_
          exact ih (i + 1)  (ht1) (he) (by omega) (fun i9 h9 => by rcases Nat.lt_succ_iff_lt_or_eq.mp h9 with h8 | rfl; exact hs i9 h8; omega)
        · have c_52 : ¬ ((nI ((tX f n E j).getD i 0)) = (nI ((ltx k).getD i 0))) := of_decide_eq_false c_52
          have n_52 : ¬ ((tX f n E j).getD i 0 = (ltx k).getD i 0) := fun h9 => c_52 ((eq_nI (p := (tX f n E j).getD i 0) (n := (ltx k).getD i 0) (Nat.lt_trans (tx_ch _ _ _ _ _) (by decide)) (by omega)).mpr h9)
          refine ps_st (S' := (56, [(0, .ref q), (1, .int (nI j)), (2, .ref (g.2.1 k)), (3, .int (nI i))], [.int 0], M)) rfl rfl rfl ?_
          exact ps_ret rfl rfl (⟨by rw [show eqN (tX f n E j) (ltx k) = 0 from if_neg (fun h9 => by rw [h9] at n_52; exact n_52 rfl)]; rfl, rfl⟩)
  refine ps_st (S' := (1, [(0, .ref q), (1, .int (nI j)), (2, .ref (g.2.1 k))], [.ref q], M)) rfl rfl rfl ?_
  refine ps_st (S' := (2, [(0, .ref q), (1, .int (nI j)), (2, .ref (g.2.1 k))], [.int (nI j), .ref q], M)) rfl rfl rfl ?_
  refine pl_call (a := [.ref q, .int (nI j)]) (rest := []) rfl rfl rfl (dy_tagOf (f := f) (n := n) (N := N) (q := q) (E := E) (j := j) (hV) (by omega)) (fun v1 M2 q3 => ?_)
  obtain ⟨rfl, rfl⟩ := q3
  show pl _ _ _ (5, [(0, .ref q), (1, .int (nI j)), (2, .ref (g.2.1 k))], [.int (nI (tg f E j))], M) _
  refine ps_st (S' := (6, [(0, .ref q), (1, .int (nI j)), (2, .ref (g.2.1 k))], [.int 1, .int (nI (tg f E j))], M)) rfl rfl rfl ?_
  refine ps_if2 (S1 := (22, [], [], M)) (S2 := (9, [(0, .ref q), (1, .int (nI j)), (2, .ref (g.2.1 k))], [], M)) rfl rfl rfl (fun c_6 => ?_) (fun c_6 => ?_)
  · have c_6 : ¬ (nI (tg f E j)) = 1 := of_decide_eq_true c_6
    have n_6 : ¬ (tg f E j = 1) := fun h9 => c_6 ((eq_nI (p := tg f E j) (n := 1) (Nat.lt_trans (tg_lt _ _ _) (by decide)) (by decide)).mpr h9)
    refine ps_st (S' := (23, [], [.int 0], M)) rfl rfl rfl ?_
    exact ps_ret rfl rfl (⟨by rw [show eqN (tX f n E j) (ltx k) = 0 from if_neg (fun h9 => by have h8 := tx_no (n := n) n_6; rw [h8] at h9; exact ltx_ne k (by omega) h9.symm)]; rfl, rfl⟩)
  · have c_6 : ¬ (¬ (nI (tg f E j)) = 1) := of_decide_eq_false c_6
    have n_6 : tg f E j = 1 := (eq_nI (p := tg f E j) (n := 1) (Nat.lt_trans (tg_lt _ _ _) (by decide)) (by decide)).mp (Decidable.not_not.mp c_6)
    refine ps_st (S' := (10, [(0, .ref q), (1, .int (nI j)), (2, .ref (g.2.1 k))], [.ref q], M)) rfl rfl rfl ?_
    refine ps_get (S' := (13, [(0, .ref q), (1, .int (nI j)), (2, .ref (g.2.1 k))], [.ref (qq 4)], M)) rfl h_q rfl rfl ?_
    refine ps_st (S' := (14, [(0, .ref q), (1, .int (nI j)), (2, .ref (g.2.1 k))], [.int (nI j), .ref (qq 4)], M)) rfl rfl rfl ?_
    refine ps_ald (S' := (15, [(0, .ref q), (1, .int (nI j)), (2, .ref (g.2.1 k))], [.int ((F 4) (Int32.toNatClampNeg (nI j)))], M)) rfl h_qq_4 rfl (fun i0_14 i1_14 => ?_)
    have ht1 : tg f E j = 1 := by omega
    have hl9 := tx_len f n E j
    rw [show ((F 4) (Int32.toNatClampNeg (nI j))) = (nI (tX f n E j).length) from (congrArg (F 4) (nI_toNat (k := j) (by omega))).trans (hF.2.2.2.2 j ht1 |>.choose_spec.2.1)]
    show pl _ _ _ (_, [(0, .ref q), (1, .int (nI j)), (2, .ref (g.2.1 k))], [.int (nI (tX f n E j).length)], M) _
    refine ps_st (S' := (16, [(0, .ref q), (1, .int (nI j)), (2, .ref (g.2.1 k))], [.ref (g.2.1 k), .int (nI (tX f n E j).length)], M)) rfl rfl rfl ?_
    refine ps_slen (S' := (19, [(0, .ref q), (1, .int (nI j)), (2, .ref (g.2.1 k))], [.int (nI (ltx k).length), .int (nI (tX f n E j).length)], M)) rfl hlt (hll) rfl ?_
    refine ps_if2 (S1 := (24, [(0, .ref q), (1, .int (nI j)), (2, .ref (g.2.1 k))], [], M)) (S2 := (22, [], [], M)) rfl rfl rfl (fun c_19 => ?_) (fun c_19 => ?_)
    · have c_19 : (nI (tX f n E j).length) = (nI (ltx k).length) := of_decide_eq_true c_19
      have n_19 : (tX f n E j).length = (ltx k).length := (eq_nI (p := (tX f n E j).length) (n := (ltx k).length) (Nat.lt_trans (tx_len _ _ _ _) (by decide)) (by omega)).mp c_19
      refine ps_st (S' := (25, [(0, .ref q), (1, .int (nI j)), (2, .ref (g.2.1 k))], [.int 0], M)) rfl rfl rfl ?_
      refine ps_st (S' := (26, [(0, .ref q), (1, .int (nI j)), (2, .ref (g.2.1 k)), (3, .int 0)], [], M)) rfl rfl rfl ?_
      exact (LL kf) (0)  (ht1) (by omega) (by omega) (fun i9 h9 => by omega)
    · have c_19 : ¬ ((nI (tX f n E j).length) = (nI (ltx k).length)) := of_decide_eq_false c_19
      have n_19 : ¬ ((tX f n E j).length = (ltx k).length) := fun h9 => c_19 ((eq_nI (p := (tX f n E j).length) (n := (ltx k).length) (Nat.lt_trans (tx_len _ _ _ _) (by decide)) (by omega)).mpr h9)
      refine ps_st (S' := (23, [], [.int 0], M)) rfl rfl rfl ?_
      exact ps_ret rfl rfl (⟨by rw [show eqN (tX f n E j) (ltx k) = 0 from if_neg (fun h9 => by have h8 := congrArg List.length h9; omega)]; rfl, rfl⟩)
theorem dy_char0 {g : xe_G} {M : mi_H} {f : Nat → Int32} {n N q : Nat} {E : List (Nat × Nat)} {j : Nat}  (hV : PV g f n N E q M) (hj : j < 65536) : pt (mT g) 113 [.ref q, .int (nI j), .int 0] M (fun v M' => ((0 < (tX f n E j).length) ∧ v = some (.int (nI ((tX f n E j).getD 0 0))) ∧ M = M') ∨ ((¬ 0 < (tX f n E j).length) ∧ v = some (.int (-1)) ∧ M = M')) := by
  refine (dy_characterAt (i := 0) hV hj (by decide)).mono (fun v M' h => ?_)
  by_cases h1 : 0 < (tX f n E j).length
  · exact Or.inl ⟨h1, by rw [h.1, if_pos h1], h.2⟩
  · exact Or.inr ⟨h1, by rw [h.1, if_neg h1], h.2⟩
set_option maxHeartbeats 1000000 in
theorem dy_isClassText {g : xe_G} {M : mi_H} {f : Nat → Int32} {n N q : Nat} {E : List (Nat × Nat)} {j : Nat}  (hV : PV g f n N E q M) (hj : j < 65536) : pt (mT g) 120 [.ref q, .int (nI j)] M (fun v M' => (v = some (.int (nI (clsN (tX f n E j)))) ∧ M = M')) := by
  refine pt_in (b := mb_120 g) rfl (fun kf => ?_)
  show pl (mT g) kf (mb_120 g).2 (0, [(0, .ref q), (1, .int (nI j))], [], M) _
  have hV0 := hV
  obtain ⟨hL, H, m, qq, F, cc, hP, hT, hB, hb, hF, hS⟩ := hV0
  have h_q := hP.1
  have h_qq_1 := hP.2.1 1 (by decide) (by decide)
  have h_qq_2 := hP.2.1 2 (by decide) (by decide)
  have h_qq_3 := hP.2.1 3 (by decide) (by decide)
  have h_qq_4 := hP.2.1 4 (by decide) (by decide)
  have h_qq_5 := hP.2.1 5 (by decide) (by decide)
  have h_qq_6 := hP.2.2
  have hl8 := tx_len f n E j
  refine ps_st (S' := (1, [(0, .ref q), (1, .int (nI j))], [.ref q], M)) rfl rfl rfl ?_
  refine ps_st (S' := (2, [(0, .ref q), (1, .int (nI j))], [.int (nI j), .ref q], M)) rfl rfl rfl ?_
  refine ps_st (S' := (3, [(0, .ref q), (1, .int (nI j))], [.int 0, .int (nI j), .ref q], M)) rfl rfl rfl ?_
  refine pl_call (a := [.ref q, .int (nI j), .int 0]) (rest := []) rfl rfl rfl (dy_char0 (f := f) (n := n) (N := N) (q := q) (E := E) (j := j) (hV) (by omega)) (fun v1 M2 q3 => ?_)
  rcases q3 with q3 | q3
  · skip
    obtain ⟨q3_a, rfl, rfl⟩ := q3
    show pl _ _ _ (6, [(0, .ref q), (1, .int (nI j))], [.int (nI ((tX f n E j).getD 0 0))], M) _
    have hb_3 := tx_ch f n E j 0
    refine ps_st (S' := (8, [(0, .ref q), (1, .int (nI j))], [.int 91, .int (nI ((tX f n E j).getD 0 0))], M)) rfl rfl rfl ?_
    refine ps_if2 (S1 := (17, [(0, .ref q), (1, .int (nI j))], [], M)) (S2 := (11, [(0, .ref q), (1, .int (nI j))], [], M)) rfl rfl rfl (fun c_8 => ?_) (fun c_8 => ?_)
    · have c_8 : ¬ (nI ((tX f n E j).getD 0 0)) = 91 := of_decide_eq_true c_8
      have n_8 : ¬ ((tX f n E j).getD 0 0 = 91) := fun h9 => c_8 ((eq_nI (p := (tX f n E j).getD 0 0) (n := 91) (Nat.lt_trans (tx_ch _ _ _ _ _) (by decide)) (by decide)).mpr h9)
      refine ps_st (S' := (18, [(0, .ref q), (1, .int (nI j))], [.ref q], M)) rfl rfl rfl ?_
      refine ps_st (S' := (19, [(0, .ref q), (1, .int (nI j))], [.int (nI j), .ref q], M)) rfl rfl rfl ?_
      refine pl_call (a := [.ref q, .int (nI j)]) (rest := []) rfl rfl rfl (dy_tagOf (f := f) (n := n) (N := N) (q := q) (E := E) (j := j) (hV) (by omega)) (fun v4 M5 q6 => ?_)
      obtain ⟨rfl, rfl⟩ := q6
      show pl _ _ _ (22, [(0, .ref q), (1, .int (nI j))], [.int (nI (tg f E j))], M) _
      refine ps_st (S' := (23, [(0, .ref q), (1, .int (nI j))], [.int 1, .int (nI (tg f E j))], M)) rfl rfl rfl ?_
      refine ps_if2 (S1 := (35, [(0, .ref q), (1, .int (nI j))], [], M)) (S2 := (26, [(0, .ref q), (1, .int (nI j))], [], M)) rfl rfl rfl (fun c_23 => ?_) (fun c_23 => ?_)
      · have c_23 : ¬ (nI (tg f E j)) = 1 := of_decide_eq_true c_23
        have n_23 : ¬ (tg f E j = 1) := fun h9 => c_23 ((eq_nI (p := tg f E j) (n := 1) (Nat.lt_trans (tg_lt _ _ _) (by decide)) (by decide)).mpr h9)
        refine ps_st (S' := (36, [(0, .ref q), (1, .int (nI j))], [.int 0], M)) rfl rfl rfl ?_
        refine ps_st (S' := (37, [(2, .int 0), (0, .ref q), (1, .int (nI j))], [], M)) rfl rfl rfl ?_
        refine ps_st (S' := (38, [(2, .int 0), (0, .ref q), (1, .int (nI j))], [.int 0], M)) rfl rfl rfl ?_
        refine ps_st (S' := (39, [(2, .int 0), (0, .ref q), (1, .int (nI j))], [.ref q, .int 0], M)) rfl rfl rfl ?_
        refine ps_st (S' := (40, [(2, .int 0), (0, .ref q), (1, .int (nI j))], [.int (nI j), .ref q, .int 0], M)) rfl rfl rfl ?_
        refine pl_call (a := [.ref q, .int (nI j)]) (rest := [.int 0]) rfl rfl rfl (dy_textLength (f := f) (n := n) (N := N) (q := q) (E := E) (j := j) (hV) (by omega)) (fun v7 M8 q9 => ?_)
        obtain ⟨rfl, rfl⟩ := q9
        show pl _ _ _ (43, [(2, .int 0), (0, .ref q), (1, .int (nI j))], [.int (nI ((tX f n E j).length)), .int 0], M) _
        refine ps_st (S' := (44, [(2, .int 0), (0, .ref q), (1, .int (nI j))], [.int (0 + (nI ((tX f n E j).length)))], M)) rfl rfl rfl ?_
        rw [nI_add2 (p := 0) (k := (tX f n E j).length) (x := 0) (y := (nI ((tX f n E j).length))) rfl rfl (by omega)]
        show pl _ _ _ (_, [(2, .int 0), (0, .ref q), (1, .int (nI j))], [.int (nI (0 + (tX f n E j).length))], M) _
        refine ps_st (S' := (45, [(3, .int (nI (0 + (tX f n E j).length))), (2, .int 0), (0, .ref q), (1, .int (nI j))], [], M)) rfl rfl rfl ?_
        refine ps_st (S' := (46, [(3, .int (nI (0 + (tX f n E j).length))), (2, .int 0), (0, .ref q), (1, .int (nI j))], [.ref q], M)) rfl rfl rfl ?_
        refine ps_st (S' := (47, [(3, .int (nI (0 + (tX f n E j).length))), (2, .int 0), (0, .ref q), (1, .int (nI j))], [.int 0, .ref q], M)) rfl rfl rfl ?_
        refine ps_st (S' := (48, [(3, .int (nI (0 + (tX f n E j).length))), (2, .int 0), (0, .ref q), (1, .int (nI j))], [.int (nI (0 + (tX f n E j).length)), .int 0, .ref q], M)) rfl rfl rfl ?_
        refine pl_call (a := [.ref q, .int 0, .int (nI (0 + (tX f n E j).length))]) (rest := []) rfl rfl rfl (dy_nameEnd (q := q) (c := (fun i => (tX f n E j).getD i 0)) (B := 0) (e := (tX f n E j).length) (i0 := 0) (hP) (by rw [tx_no n_23]; simp; omega) (fun i9 h9 => by rw [tx_no n_23] at h9; simp at h9) (by omega)) (fun v10 M11 q12 => ?_)
        rcases q12 with q12 | q12
        · skip
          obtain ⟨q48_s, rfl, rfl⟩ := q12
          show pl _ _ _ (51, [(3, .int (nI (0 + (tX f n E j).length))), (2, .int 0), (0, .ref q), (1, .int (nI j))], [.int (-1)], M) _
          refine ps_st (S' := (52, [(3, .int (nI (0 + (tX f n E j).length))), (2, .int 0), (0, .ref q), (1, .int (nI j))], [.int (nI (0 + (tX f n E j).length)), .int (-1)], M)) rfl rfl rfl ?_
          refine ps_if2 (S1 := (59, [(3, .int (nI (0 + (tX f n E j).length))), (2, .int 0), (0, .ref q), (1, .int (nI j))], [], M)) (S2 := (55, [(3, .int (nI (0 + (tX f n E j).length))), (2, .int 0), (0, .ref q), (1, .int (nI j))], [], M)) rfl rfl rfl (fun c_52 => ?_) (fun c_52 => ?_)
          rotate_left
          · exact absurd (m1_ne (by omega)) (of_decide_eq_false c_52)
          refine ps_st (S' := (60, [], [.int 0], M)) rfl rfl rfl ?_
          exact ps_ret rfl rfl (⟨by rw [show clsN (tX f n E j) = 0 by unfold clsN; rw [if_neg (by omega), if_neg (by have h8 := q48_s; rw [Nat.sub_zero] at h8; rw [h8]; intro h7; cases h7)]]; rfl, rfl⟩)
        · skip
          obtain ⟨x13, q48_s, rfl, rfl⟩ := q12
          show pl _ _ _ (51, [(3, .int (nI (0 + (tX f n E j).length))), (2, .int 0), (0, .ref q), (1, .int (nI j))], [.int (nI (0 + x13))], M) _
          have hl_48 := s_nm_le q48_s
          refine ps_st (S' := (52, [(3, .int (nI (0 + (tX f n E j).length))), (2, .int 0), (0, .ref q), (1, .int (nI j))], [.int (nI (0 + (tX f n E j).length)), .int (nI (0 + x13))], M)) rfl rfl rfl ?_
          refine ps_if2 (S1 := (59, [(3, .int (nI (0 + (tX f n E j).length))), (2, .int 0), (0, .ref q), (1, .int (nI j))], [], M)) (S2 := (55, [(3, .int (nI (0 + (tX f n E j).length))), (2, .int 0), (0, .ref q), (1, .int (nI j))], [], M)) rfl rfl rfl (fun c_52 => ?_) (fun c_52 => ?_)
          · have c_52 : ¬ (nI (0 + x13)) = (nI (0 + (tX f n E j).length)) := of_decide_eq_true c_52
            have n_52 : ¬ (0 + x13 = 0 + (tX f n E j).length) := fun h9 => c_52 ((eq_nI (p := 0 + x13) (n := 0 + (tX f n E j).length) (by omega) (by omega)).mpr h9)
            refine ps_st (S' := (60, [], [.int 0], M)) rfl rfl rfl ?_
            exact ps_ret rfl rfl (⟨by rw [show clsN (tX f n E j) = 0 by unfold clsN; rw [if_neg (by omega), if_neg (by have h8 := q48_s; rw [Nat.sub_zero] at h8; rw [h8]; intro h7; simp only [Option.some.injEq] at h7; omega)]]; rfl, rfl⟩)
          · have c_52 : ¬ (¬ (nI (0 + x13)) = (nI (0 + (tX f n E j).length))) := of_decide_eq_false c_52
            have n_52 : 0 + x13 = 0 + (tX f n E j).length := (eq_nI (p := 0 + x13) (n := 0 + (tX f n E j).length) (by omega) (by omega)).mp (Decidable.not_not.mp c_52)
            refine ps_st (S' := (56, [(3, .int (nI (0 + (tX f n E j).length))), (2, .int 0), (0, .ref q), (1, .int (nI j))], [.int 1], M)) rfl rfl rfl ?_
            refine ps_st (S' := (60, [], [.int 1], M)) rfl rfl rfl ?_
            exact ps_ret rfl rfl (⟨by rw [show clsN (tX f n E j) = 1 by unfold clsN; rw [if_neg (by omega), if_pos (by have h8 := q48_s; rw [Nat.sub_zero] at h8; rw [h8]; congr 1; omega)]]; rfl, rfl⟩)
      · have c_23 : ¬ (¬ (nI (tg f E j)) = 1) := of_decide_eq_false c_23
        have n_23 : tg f E j = 1 := (eq_nI (p := tg f E j) (n := 1) (Nat.lt_trans (tg_lt _ _ _) (by decide)) (by decide)).mp (Decidable.not_not.mp c_23)
        refine ps_st (S' := (27, [(0, .ref q), (1, .int (nI j))], [.ref q], M)) rfl rfl rfl ?_
        refine ps_get (S' := (30, [(0, .ref q), (1, .int (nI j))], [.ref (qq 3)], M)) rfl h_q rfl rfl ?_
        refine ps_st (S' := (31, [(0, .ref q), (1, .int (nI j))], [.int (nI j), .ref (qq 3)], M)) rfl rfl rfl ?_
        refine ps_ald (S' := (32, [(0, .ref q), (1, .int (nI j))], [.int ((F 3) (Int32.toNatClampNeg (nI j)))], M)) rfl h_qq_3 rfl (fun i0_31 i1_31 => ?_)
        have ht1 : tg f E j = 1 := by omega
        obtain ⟨c0, a1, a2, a3, a4⟩ := hF.2.2.2.2 j ht1
        rw [show ((F 3) (Int32.toNatClampNeg (nI j))) = (nI c0) from (congrArg (F 3) (nI_toNat (k := j) (by omega))).trans (a1)]
        show pl _ _ _ (_, [(0, .ref q), (1, .int (nI j))], [.int (nI c0)], M) _
        refine ps_st (S' := (36, [(0, .ref q), (1, .int (nI j))], [.int (nI c0)], M)) rfl rfl rfl ?_
        refine ps_st (S' := (37, [(2, .int (nI c0)), (0, .ref q), (1, .int (nI j))], [], M)) rfl rfl rfl ?_
        refine ps_st (S' := (38, [(2, .int (nI c0)), (0, .ref q), (1, .int (nI j))], [.int (nI c0)], M)) rfl rfl rfl ?_
        refine ps_st (S' := (39, [(2, .int (nI c0)), (0, .ref q), (1, .int (nI j))], [.ref q, .int (nI c0)], M)) rfl rfl rfl ?_
        refine ps_st (S' := (40, [(2, .int (nI c0)), (0, .ref q), (1, .int (nI j))], [.int (nI j), .ref q, .int (nI c0)], M)) rfl rfl rfl ?_
        refine pl_call (a := [.ref q, .int (nI j)]) (rest := [.int (nI c0)]) rfl rfl rfl (dy_textLength (f := f) (n := n) (N := N) (q := q) (E := E) (j := j) (hV) (by omega)) (fun v14 M15 q16 => ?_)
        obtain ⟨rfl, rfl⟩ := q16
        show pl _ _ _ (43, [(2, .int (nI c0)), (0, .ref q), (1, .int (nI j))], [.int (nI ((tX f n E j).length)), .int (nI c0)], M) _
        refine ps_st (S' := (44, [(2, .int (nI c0)), (0, .ref q), (1, .int (nI j))], [.int ((nI c0) + (nI ((tX f n E j).length)))], M)) rfl rfl rfl ?_
        rw [nI_add1 (p := c0) (k := (tX f n E j).length) (x := (nI ((tX f n E j).length))) rfl (by omega)]
        show pl _ _ _ (_, [(2, .int (nI c0)), (0, .ref q), (1, .int (nI j))], [.int (nI (c0 + (tX f n E j).length))], M) _
        refine ps_st (S' := (45, [(3, .int (nI (c0 + (tX f n E j).length))), (2, .int (nI c0)), (0, .ref q), (1, .int (nI j))], [], M)) rfl rfl rfl ?_
        refine ps_st (S' := (46, [(3, .int (nI (c0 + (tX f n E j).length))), (2, .int (nI c0)), (0, .ref q), (1, .int (nI j))], [.ref q], M)) rfl rfl rfl ?_
        refine ps_st (S' := (47, [(3, .int (nI (c0 + (tX f n E j).length))), (2, .int (nI c0)), (0, .ref q), (1, .int (nI j))], [.int (nI c0), .ref q], M)) rfl rfl rfl ?_
        refine ps_st (S' := (48, [(3, .int (nI (c0 + (tX f n E j).length))), (2, .int (nI c0)), (0, .ref q), (1, .int (nI j))], [.int (nI (c0 + (tX f n E j).length)), .int (nI c0), .ref q], M)) rfl rfl rfl ?_
        refine pl_call (a := [.ref q, .int (nI c0), .int (nI (c0 + (tX f n E j).length))]) (rest := []) rfl rfl rfl (dy_nameEnd (q := q) (c := (fun i => (tX f n E j).getD i 0)) (B := c0) (e := (tX f n E j).length) (i0 := 0) (hP) (by omega) (fun i9 h9 => ⟨a4 i9 h9, tx_ch f n E j i9⟩) (by omega)) (fun v17 M18 q19 => ?_)
        rcases q19 with q19 | q19
        · skip
          obtain ⟨q48_s, rfl, rfl⟩ := q19
          show pl _ _ _ (51, [(3, .int (nI (c0 + (tX f n E j).length))), (2, .int (nI c0)), (0, .ref q), (1, .int (nI j))], [.int (-1)], M) _
          refine ps_st (S' := (52, [(3, .int (nI (c0 + (tX f n E j).length))), (2, .int (nI c0)), (0, .ref q), (1, .int (nI j))], [.int (nI (c0 + (tX f n E j).length)), .int (-1)], M)) rfl rfl rfl ?_
          refine ps_if2 (S1 := (59, [(3, .int (nI (c0 + (tX f n E j).length))), (2, .int (nI c0)), (0, .ref q), (1, .int (nI j))], [], M)) (S2 := (55, [(3, .int (nI (c0 + (tX f n E j).length))), (2, .int (nI c0)), (0, .ref q), (1, .int (nI j))], [], M)) rfl rfl rfl (fun c_52 => ?_) (fun c_52 => ?_)
          rotate_left
          · exact absurd (m1_ne (by omega)) (of_decide_eq_false c_52)
          refine ps_st (S' := (60, [], [.int 0], M)) rfl rfl rfl ?_
          exact ps_ret rfl rfl (⟨by rw [show clsN (tX f n E j) = 0 by unfold clsN; rw [if_neg (by omega), if_neg (by have h8 := q48_s; rw [Nat.sub_zero] at h8; rw [h8]; intro h7; cases h7)]]; rfl, rfl⟩)
        · skip
          obtain ⟨x20, q48_s, rfl, rfl⟩ := q19
          show pl _ _ _ (51, [(3, .int (nI (c0 + (tX f n E j).length))), (2, .int (nI c0)), (0, .ref q), (1, .int (nI j))], [.int (nI (c0 + x20))], M) _
          have hl_48 := s_nm_le q48_s
          refine ps_st (S' := (52, [(3, .int (nI (c0 + (tX f n E j).length))), (2, .int (nI c0)), (0, .ref q), (1, .int (nI j))], [.int (nI (c0 + (tX f n E j).length)), .int (nI (c0 + x20))], M)) rfl rfl rfl ?_
          refine ps_if2 (S1 := (59, [(3, .int (nI (c0 + (tX f n E j).length))), (2, .int (nI c0)), (0, .ref q), (1, .int (nI j))], [], M)) (S2 := (55, [(3, .int (nI (c0 + (tX f n E j).length))), (2, .int (nI c0)), (0, .ref q), (1, .int (nI j))], [], M)) rfl rfl rfl (fun c_52 => ?_) (fun c_52 => ?_)
          · have c_52 : ¬ (nI (c0 + x20)) = (nI (c0 + (tX f n E j).length)) := of_decide_eq_true c_52
            have n_52 : ¬ (c0 + x20 = c0 + (tX f n E j).length) := fun h9 => c_52 ((eq_nI (p := c0 + x20) (n := c0 + (tX f n E j).length) (by omega) (by omega)).mpr h9)
            refine ps_st (S' := (60, [], [.int 0], M)) rfl rfl rfl ?_
            exact ps_ret rfl rfl (⟨by rw [show clsN (tX f n E j) = 0 by unfold clsN; rw [if_neg (by omega), if_neg (by have h8 := q48_s; rw [Nat.sub_zero] at h8; rw [h8]; intro h7; simp only [Option.some.injEq] at h7; omega)]]; rfl, rfl⟩)
          · have c_52 : ¬ (¬ (nI (c0 + x20)) = (nI (c0 + (tX f n E j).length))) := of_decide_eq_false c_52
            have n_52 : c0 + x20 = c0 + (tX f n E j).length := (eq_nI (p := c0 + x20) (n := c0 + (tX f n E j).length) (by omega) (by omega)).mp (Decidable.not_not.mp c_52)
            refine ps_st (S' := (56, [(3, .int (nI (c0 + (tX f n E j).length))), (2, .int (nI c0)), (0, .ref q), (1, .int (nI j))], [.int 1], M)) rfl rfl rfl ?_
            refine ps_st (S' := (60, [], [.int 1], M)) rfl rfl rfl ?_
            exact ps_ret rfl rfl (⟨by rw [show clsN (tX f n E j) = 1 by unfold clsN; rw [if_neg (by omega), if_pos (by have h8 := q48_s; rw [Nat.sub_zero] at h8; rw [h8]; congr 1; omega)]]; rfl, rfl⟩)
    · have c_8 : ¬ (¬ (nI ((tX f n E j).getD 0 0)) = 91) := of_decide_eq_false c_8
      have n_8 : (tX f n E j).getD 0 0 = 91 := (eq_nI (p := (tX f n E j).getD 0 0) (n := 91) (Nat.lt_trans (tx_ch _ _ _ _ _) (by decide)) (by decide)).mp (Decidable.not_not.mp c_8)
      refine ps_st (S' := (12, [(0, .ref q), (1, .int (nI j))], [.ref q], M)) rfl rfl rfl ?_
      refine ps_st (S' := (13, [(0, .ref q), (1, .int (nI j))], [.int (nI j), .ref q], M)) rfl rfl rfl ?_
      refine pl_call (a := [.ref q, .int (nI j)]) (rest := []) rfl rfl rfl (dy_isFieldDescriptor (f := f) (n := n) (N := N) (q := q) (E := E) (j := j) (hV) (by omega)) (fun v21 M22 q23 => ?_)
      obtain ⟨rfl, rfl⟩ := q23
      show pl _ _ _ (16, [(0, .ref q), (1, .int (nI j))], [.int (nI (fldN (tX f n E j)))], M) _
      exact ps_reti rfl (⟨by rw [show clsN (tX f n E j) = fldN (tX f n E j) from if_pos (by omega)], rfl⟩)
  · skip
    obtain ⟨q3_a, rfl, rfl⟩ := q3
    show pl _ _ _ (6, [(0, .ref q), (1, .int (nI j))], [.int (-1)], M) _
    have hb_3 := tx_ch f n E j 0
    refine ps_st (S' := (8, [(0, .ref q), (1, .int (nI j))], [.int 91, .int (-1)], M)) rfl rfl rfl ?_
    refine ps_if2 (S1 := (17, [(0, .ref q), (1, .int (nI j))], [], M)) (S2 := (11, [(0, .ref q), (1, .int (nI j))], [], M)) rfl rfl rfl (fun c_8 => ?_) (fun c_8 => ?_)
    rotate_left
    · exact absurd (by decide) (of_decide_eq_false c_8)
    refine ps_st (S' := (18, [(0, .ref q), (1, .int (nI j))], [.ref q], M)) rfl rfl rfl ?_
    refine ps_st (S' := (19, [(0, .ref q), (1, .int (nI j))], [.int (nI j), .ref q], M)) rfl rfl rfl ?_
    refine pl_call (a := [.ref q, .int (nI j)]) (rest := []) rfl rfl rfl (dy_tagOf (f := f) (n := n) (N := N) (q := q) (E := E) (j := j) (hV) (by omega)) (fun v24 M25 q26 => ?_)
    obtain ⟨rfl, rfl⟩ := q26
    show pl _ _ _ (22, [(0, .ref q), (1, .int (nI j))], [.int (nI (tg f E j))], M) _
    refine ps_st (S' := (23, [(0, .ref q), (1, .int (nI j))], [.int 1, .int (nI (tg f E j))], M)) rfl rfl rfl ?_
    refine ps_if2 (S1 := (35, [(0, .ref q), (1, .int (nI j))], [], M)) (S2 := (26, [(0, .ref q), (1, .int (nI j))], [], M)) rfl rfl rfl (fun c_23 => ?_) (fun c_23 => ?_)
    · have c_23 : ¬ (nI (tg f E j)) = 1 := of_decide_eq_true c_23
      have n_23 : ¬ (tg f E j = 1) := fun h9 => c_23 ((eq_nI (p := tg f E j) (n := 1) (Nat.lt_trans (tg_lt _ _ _) (by decide)) (by decide)).mpr h9)
      refine ps_st (S' := (36, [(0, .ref q), (1, .int (nI j))], [.int 0], M)) rfl rfl rfl ?_
      refine ps_st (S' := (37, [(2, .int 0), (0, .ref q), (1, .int (nI j))], [], M)) rfl rfl rfl ?_
      refine ps_st (S' := (38, [(2, .int 0), (0, .ref q), (1, .int (nI j))], [.int 0], M)) rfl rfl rfl ?_
      refine ps_st (S' := (39, [(2, .int 0), (0, .ref q), (1, .int (nI j))], [.ref q, .int 0], M)) rfl rfl rfl ?_
      refine ps_st (S' := (40, [(2, .int 0), (0, .ref q), (1, .int (nI j))], [.int (nI j), .ref q, .int 0], M)) rfl rfl rfl ?_
      refine pl_call (a := [.ref q, .int (nI j)]) (rest := [.int 0]) rfl rfl rfl (dy_textLength (f := f) (n := n) (N := N) (q := q) (E := E) (j := j) (hV) (by omega)) (fun v27 M28 q29 => ?_)
      obtain ⟨rfl, rfl⟩ := q29
      show pl _ _ _ (43, [(2, .int 0), (0, .ref q), (1, .int (nI j))], [.int (nI ((tX f n E j).length)), .int 0], M) _
      refine ps_st (S' := (44, [(2, .int 0), (0, .ref q), (1, .int (nI j))], [.int (0 + (nI ((tX f n E j).length)))], M)) rfl rfl rfl ?_
      rw [nI_add2 (p := 0) (k := (tX f n E j).length) (x := 0) (y := (nI ((tX f n E j).length))) rfl rfl (by omega)]
      show pl _ _ _ (_, [(2, .int 0), (0, .ref q), (1, .int (nI j))], [.int (nI (0 + (tX f n E j).length))], M) _
      refine ps_st (S' := (45, [(3, .int (nI (0 + (tX f n E j).length))), (2, .int 0), (0, .ref q), (1, .int (nI j))], [], M)) rfl rfl rfl ?_
      refine ps_st (S' := (46, [(3, .int (nI (0 + (tX f n E j).length))), (2, .int 0), (0, .ref q), (1, .int (nI j))], [.ref q], M)) rfl rfl rfl ?_
      refine ps_st (S' := (47, [(3, .int (nI (0 + (tX f n E j).length))), (2, .int 0), (0, .ref q), (1, .int (nI j))], [.int 0, .ref q], M)) rfl rfl rfl ?_
      refine ps_st (S' := (48, [(3, .int (nI (0 + (tX f n E j).length))), (2, .int 0), (0, .ref q), (1, .int (nI j))], [.int (nI (0 + (tX f n E j).length)), .int 0, .ref q], M)) rfl rfl rfl ?_
      refine pl_call (a := [.ref q, .int 0, .int (nI (0 + (tX f n E j).length))]) (rest := []) rfl rfl rfl (dy_nameEnd (q := q) (c := (fun i => (tX f n E j).getD i 0)) (B := 0) (e := (tX f n E j).length) (i0 := 0) (hP) (by rw [tx_no n_23]; simp; omega) (fun i9 h9 => by rw [tx_no n_23] at h9; simp at h9) (by omega)) (fun v30 M31 q32 => ?_)
      rcases q32 with q32 | q32
      · skip
        obtain ⟨q48_s, rfl, rfl⟩ := q32
        show pl _ _ _ (51, [(3, .int (nI (0 + (tX f n E j).length))), (2, .int 0), (0, .ref q), (1, .int (nI j))], [.int (-1)], M) _
        refine ps_st (S' := (52, [(3, .int (nI (0 + (tX f n E j).length))), (2, .int 0), (0, .ref q), (1, .int (nI j))], [.int (nI (0 + (tX f n E j).length)), .int (-1)], M)) rfl rfl rfl ?_
        refine ps_if2 (S1 := (59, [(3, .int (nI (0 + (tX f n E j).length))), (2, .int 0), (0, .ref q), (1, .int (nI j))], [], M)) (S2 := (55, [(3, .int (nI (0 + (tX f n E j).length))), (2, .int 0), (0, .ref q), (1, .int (nI j))], [], M)) rfl rfl rfl (fun c_52 => ?_) (fun c_52 => ?_)
        rotate_left
        · exact absurd (m1_ne (by omega)) (of_decide_eq_false c_52)
        refine ps_st (S' := (60, [], [.int 0], M)) rfl rfl rfl ?_
        exact ps_ret rfl rfl (⟨by rw [show clsN (tX f n E j) = 0 by unfold clsN; rw [if_neg (gd_nil (by omega) (by decide)), if_neg (by have h8 := q48_s; rw [Nat.sub_zero] at h8; rw [h8]; intro h7; cases h7)]]; rfl, rfl⟩)
      · skip
        obtain ⟨x33, q48_s, rfl, rfl⟩ := q32
        show pl _ _ _ (51, [(3, .int (nI (0 + (tX f n E j).length))), (2, .int 0), (0, .ref q), (1, .int (nI j))], [.int (nI (0 + x33))], M) _
        have hl_48 := s_nm_le q48_s
        refine ps_st (S' := (52, [(3, .int (nI (0 + (tX f n E j).length))), (2, .int 0), (0, .ref q), (1, .int (nI j))], [.int (nI (0 + (tX f n E j).length)), .int (nI (0 + x33))], M)) rfl rfl rfl ?_
        refine ps_if2 (S1 := (59, [(3, .int (nI (0 + (tX f n E j).length))), (2, .int 0), (0, .ref q), (1, .int (nI j))], [], M)) (S2 := (55, [(3, .int (nI (0 + (tX f n E j).length))), (2, .int 0), (0, .ref q), (1, .int (nI j))], [], M)) rfl rfl rfl (fun c_52 => ?_) (fun c_52 => ?_)
        · have c_52 : ¬ (nI (0 + x33)) = (nI (0 + (tX f n E j).length)) := of_decide_eq_true c_52
          have n_52 : ¬ (0 + x33 = 0 + (tX f n E j).length) := fun h9 => c_52 ((eq_nI (p := 0 + x33) (n := 0 + (tX f n E j).length) (by omega) (by omega)).mpr h9)
          refine ps_st (S' := (60, [], [.int 0], M)) rfl rfl rfl ?_
          exact ps_ret rfl rfl (⟨by rw [show clsN (tX f n E j) = 0 by unfold clsN; rw [if_neg (gd_nil (by omega) (by decide)), if_neg (by have h8 := q48_s; rw [Nat.sub_zero] at h8; rw [h8]; intro h7; simp only [Option.some.injEq] at h7; omega)]]; rfl, rfl⟩)
        · have c_52 : ¬ (¬ (nI (0 + x33)) = (nI (0 + (tX f n E j).length))) := of_decide_eq_false c_52
          have n_52 : 0 + x33 = 0 + (tX f n E j).length := (eq_nI (p := 0 + x33) (n := 0 + (tX f n E j).length) (by omega) (by omega)).mp (Decidable.not_not.mp c_52)
          refine ps_st (S' := (56, [(3, .int (nI (0 + (tX f n E j).length))), (2, .int 0), (0, .ref q), (1, .int (nI j))], [.int 1], M)) rfl rfl rfl ?_
          refine ps_st (S' := (60, [], [.int 1], M)) rfl rfl rfl ?_
          exact ps_ret rfl rfl (⟨by rw [show clsN (tX f n E j) = 1 by unfold clsN; rw [if_neg (gd_nil (by omega) (by decide)), if_pos (by have h8 := q48_s; rw [Nat.sub_zero] at h8; rw [h8]; congr 1; omega)]]; rfl, rfl⟩)
    · have c_23 : ¬ (¬ (nI (tg f E j)) = 1) := of_decide_eq_false c_23
      have n_23 : tg f E j = 1 := (eq_nI (p := tg f E j) (n := 1) (Nat.lt_trans (tg_lt _ _ _) (by decide)) (by decide)).mp (Decidable.not_not.mp c_23)
      refine ps_st (S' := (27, [(0, .ref q), (1, .int (nI j))], [.ref q], M)) rfl rfl rfl ?_
      refine ps_get (S' := (30, [(0, .ref q), (1, .int (nI j))], [.ref (qq 3)], M)) rfl h_q rfl rfl ?_
      refine ps_st (S' := (31, [(0, .ref q), (1, .int (nI j))], [.int (nI j), .ref (qq 3)], M)) rfl rfl rfl ?_
      refine ps_ald (S' := (32, [(0, .ref q), (1, .int (nI j))], [.int ((F 3) (Int32.toNatClampNeg (nI j)))], M)) rfl h_qq_3 rfl (fun i0_31 i1_31 => ?_)
      have ht1 : tg f E j = 1 := by omega
      obtain ⟨c0, a1, a2, a3, a4⟩ := hF.2.2.2.2 j ht1
      rw [show ((F 3) (Int32.toNatClampNeg (nI j))) = (nI c0) from (congrArg (F 3) (nI_toNat (k := j) (by omega))).trans (a1)]
      show pl _ _ _ (_, [(0, .ref q), (1, .int (nI j))], [.int (nI c0)], M) _
      refine ps_st (S' := (36, [(0, .ref q), (1, .int (nI j))], [.int (nI c0)], M)) rfl rfl rfl ?_
      refine ps_st (S' := (37, [(2, .int (nI c0)), (0, .ref q), (1, .int (nI j))], [], M)) rfl rfl rfl ?_
      refine ps_st (S' := (38, [(2, .int (nI c0)), (0, .ref q), (1, .int (nI j))], [.int (nI c0)], M)) rfl rfl rfl ?_
      refine ps_st (S' := (39, [(2, .int (nI c0)), (0, .ref q), (1, .int (nI j))], [.ref q, .int (nI c0)], M)) rfl rfl rfl ?_
      refine ps_st (S' := (40, [(2, .int (nI c0)), (0, .ref q), (1, .int (nI j))], [.int (nI j), .ref q, .int (nI c0)], M)) rfl rfl rfl ?_
      refine pl_call (a := [.ref q, .int (nI j)]) (rest := [.int (nI c0)]) rfl rfl rfl (dy_textLength (f := f) (n := n) (N := N) (q := q) (E := E) (j := j) (hV) (by omega)) (fun v34 M35 q36 => ?_)
      obtain ⟨rfl, rfl⟩ := q36
      show pl _ _ _ (43, [(2, .int (nI c0)), (0, .ref q), (1, .int (nI j))], [.int (nI ((tX f n E j).length)), .int (nI c0)], M) _
      refine ps_st (S' := (44, [(2, .int (nI c0)), (0, .ref q), (1, .int (nI j))], [.int ((nI c0) + (nI ((tX f n E j).length)))], M)) rfl rfl rfl ?_
      rw [nI_add1 (p := c0) (k := (tX f n E j).length) (x := (nI ((tX f n E j).length))) rfl (by omega)]
      show pl _ _ _ (_, [(2, .int (nI c0)), (0, .ref q), (1, .int (nI j))], [.int (nI (c0 + (tX f n E j).length))], M) _
      refine ps_st (S' := (45, [(3, .int (nI (c0 + (tX f n E j).length))), (2, .int (nI c0)), (0, .ref q), (1, .int (nI j))], [], M)) rfl rfl rfl ?_
      refine ps_st (S' := (46, [(3, .int (nI (c0 + (tX f n E j).length))), (2, .int (nI c0)), (0, .ref q), (1, .int (nI j))], [.ref q], M)) rfl rfl rfl ?_
      refine ps_st (S' := (47, [(3, .int (nI (c0 + (tX f n E j).length))), (2, .int (nI c0)), (0, .ref q), (1, .int (nI j))], [.int (nI c0), .ref q], M)) rfl rfl rfl ?_
      refine ps_st (S' := (48, [(3, .int (nI (c0 + (tX f n E j).length))), (2, .int (nI c0)), (0, .ref q), (1, .int (nI j))], [.int (nI (c0 + (tX f n E j).length)), .int (nI c0), .ref q], M)) rfl rfl rfl ?_
      refine pl_call (a := [.ref q, .int (nI c0), .int (nI (c0 + (tX f n E j).length))]) (rest := []) rfl rfl rfl (dy_nameEnd (q := q) (c := (fun i => (tX f n E j).getD i 0)) (B := c0) (e := (tX f n E j).length) (i0 := 0) (hP) (by omega) (fun i9 h9 => ⟨a4 i9 h9, tx_ch f n E j i9⟩) (by omega)) (fun v37 M38 q39 => ?_)
      rcases q39 with q39 | q39
      · skip
        obtain ⟨q48_s, rfl, rfl⟩ := q39
        show pl _ _ _ (51, [(3, .int (nI (c0 + (tX f n E j).length))), (2, .int (nI c0)), (0, .ref q), (1, .int (nI j))], [.int (-1)], M) _
        refine ps_st (S' := (52, [(3, .int (nI (c0 + (tX f n E j).length))), (2, .int (nI c0)), (0, .ref q), (1, .int (nI j))], [.int (nI (c0 + (tX f n E j).length)), .int (-1)], M)) rfl rfl rfl ?_
        refine ps_if2 (S1 := (59, [(3, .int (nI (c0 + (tX f n E j).length))), (2, .int (nI c0)), (0, .ref q), (1, .int (nI j))], [], M)) (S2 := (55, [(3, .int (nI (c0 + (tX f n E j).length))), (2, .int (nI c0)), (0, .ref q), (1, .int (nI j))], [], M)) rfl rfl rfl (fun c_52 => ?_) (fun c_52 => ?_)
        rotate_left
        · exact absurd (m1_ne (by omega)) (of_decide_eq_false c_52)
        refine ps_st (S' := (60, [], [.int 0], M)) rfl rfl rfl ?_
        exact ps_ret rfl rfl (⟨by rw [show clsN (tX f n E j) = 0 by unfold clsN; rw [if_neg (gd_nil (by omega) (by decide)), if_neg (by have h8 := q48_s; rw [Nat.sub_zero] at h8; rw [h8]; intro h7; cases h7)]]; rfl, rfl⟩)
      · skip
        obtain ⟨x40, q48_s, rfl, rfl⟩ := q39
        show pl _ _ _ (51, [(3, .int (nI (c0 + (tX f n E j).length))), (2, .int (nI c0)), (0, .ref q), (1, .int (nI j))], [.int (nI (c0 + x40))], M) _
        have hl_48 := s_nm_le q48_s
        refine ps_st (S' := (52, [(3, .int (nI (c0 + (tX f n E j).length))), (2, .int (nI c0)), (0, .ref q), (1, .int (nI j))], [.int (nI (c0 + (tX f n E j).length)), .int (nI (c0 + x40))], M)) rfl rfl rfl ?_
        refine ps_if2 (S1 := (59, [(3, .int (nI (c0 + (tX f n E j).length))), (2, .int (nI c0)), (0, .ref q), (1, .int (nI j))], [], M)) (S2 := (55, [(3, .int (nI (c0 + (tX f n E j).length))), (2, .int (nI c0)), (0, .ref q), (1, .int (nI j))], [], M)) rfl rfl rfl (fun c_52 => ?_) (fun c_52 => ?_)
        · have c_52 : ¬ (nI (c0 + x40)) = (nI (c0 + (tX f n E j).length)) := of_decide_eq_true c_52
          have n_52 : ¬ (c0 + x40 = c0 + (tX f n E j).length) := fun h9 => c_52 ((eq_nI (p := c0 + x40) (n := c0 + (tX f n E j).length) (by omega) (by omega)).mpr h9)
          refine ps_st (S' := (60, [], [.int 0], M)) rfl rfl rfl ?_
          exact ps_ret rfl rfl (⟨by rw [show clsN (tX f n E j) = 0 by unfold clsN; rw [if_neg (gd_nil (by omega) (by decide)), if_neg (by have h8 := q48_s; rw [Nat.sub_zero] at h8; rw [h8]; intro h7; simp only [Option.some.injEq] at h7; omega)]]; rfl, rfl⟩)
        · have c_52 : ¬ (¬ (nI (c0 + x40)) = (nI (c0 + (tX f n E j).length))) := of_decide_eq_false c_52
          have n_52 : c0 + x40 = c0 + (tX f n E j).length := (eq_nI (p := c0 + x40) (n := c0 + (tX f n E j).length) (by omega) (by omega)).mp (Decidable.not_not.mp c_52)
          refine ps_st (S' := (56, [(3, .int (nI (c0 + (tX f n E j).length))), (2, .int (nI c0)), (0, .ref q), (1, .int (nI j))], [.int 1], M)) rfl rfl rfl ?_
          refine ps_st (S' := (60, [], [.int 1], M)) rfl rfl rfl ?_
          exact ps_ret rfl rfl (⟨by rw [show clsN (tX f n E j) = 1 by unfold clsN; rw [if_neg (gd_nil (by omega) (by decide)), if_pos (by have h8 := q48_s; rw [Nat.sub_zero] at h8; rw [h8]; congr 1; omega)]]; rfl, rfl⟩)
set_option maxHeartbeats 1000000 in
theorem dy_namesInit {g : xe_G} {M : mi_H} {f : Nat → Int32} {n N q : Nat} {E : List (Nat × Nat)} {j : Nat}  (hV : PV g f n N E q M) (hj : j < 65536) : pt (mT g) 129 [.ref q, .int (nI j)] M (fun v M' => (v = some (.int (nI (eqN (tX f n E (fi f E (se f E j))) (ltx 14)))) ∧ M = M')) := by
  refine pt_in (b := mb_129 g) rfl (fun kf => ?_)
  show pl (mT g) kf (mb_129 g).2 (0, [(0, .ref q), (1, .int (nI j))], [], M) _
  refine ps_st (S' := (1, [(0, .ref q), (1, .int (nI j))], [.ref q], M)) rfl rfl rfl ?_
  refine ps_st (S' := (2, [(0, .ref q), (1, .int (nI j))], [.ref q, .ref q], M)) rfl rfl rfl ?_
  refine ps_st (S' := (3, [(0, .ref q), (1, .int (nI j))], [.int (nI j), .ref q, .ref q], M)) rfl rfl rfl ?_
  refine pl_call (a := [.ref q, .int (nI j)]) (rest := [.ref q]) rfl rfl rfl (dy_nameOf (f := f) (n := n) (N := N) (q := q) (E := E) (j := j) (hV) (by omega)) (fun v1 M2 q3 => ?_)
  obtain ⟨rfl, rfl⟩ := q3
  show pl _ _ _ (6, [(0, .ref q), (1, .int (nI j))], [.int (nI (fi f E (se f E j))), .ref q], M) _
  refine ps_st (S' := (8, [(0, .ref q), (1, .int (nI j))], [.ref (g.2.1 14), .int (nI (fi f E (se f E j))), .ref q], M)) rfl rfl rfl ?_
  refine pl_call (a := [.ref q, .int (nI (fi f E (se f E j))), .ref (g.2.1 14)]) (rest := []) rfl rfl rfl (dy_textIs (f := f) (n := n) (N := N) (q := q) (E := E) (j := (fi f E (se f E j))) (k := 14) (hV) (fi_lt _ _ _) (by decide)) (fun v4 M5 q6 => ?_)
  obtain ⟨rfl, rfl⟩ := q6
  show pl _ _ _ (11, [(0, .ref q), (1, .int (nI j))], [.int (nI (eqN (tX f n E (fi f E (se f E j))) (ltx 14)))], M) _
  exact ps_reti rfl (⟨rfl, rfl⟩)
set_option maxHeartbeats 1000000 in
theorem dy_sameText {g : xe_G} {M : mi_H} {f : Nat → Int32} {n N q : Nat} {E : List (Nat × Nat)} {j k : Nat}  (hV : PV g f n N E q M) (hj : j < 65536) (hk : k < 65536) : pt (mT g) 133 [.ref q, .int (nI j), .int (nI k)] M (fun v M' => (v = some (.int (nI (smN f n E j k))) ∧ M = M')) := by
  refine pt_in (b := mb_133 g) rfl (fun kf => ?_)
  show pl (mT g) kf (mb_133 g).2 (0, [(0, .ref q), (1, .int (nI j)), (2, .int (nI k))], [], M) _
  have hV0 := hV
  obtain ⟨hL, H, m, qq, F, cc, hP, hT, hB, hb, hF, hS⟩ := hV0
  have h_q := hP.1
  have h_qq_1 := hP.2.1 1 (by decide) (by decide)
  have h_qq_2 := hP.2.1 2 (by decide) (by decide)
  have h_qq_3 := hP.2.1 3 (by decide) (by decide)
  have h_qq_4 := hP.2.1 4 (by decide) (by decide)
  have h_qq_5 := hP.2.1 5 (by decide) (by decide)
  have h_qq_6 := hP.2.2
  have LL : ∀ (kf : Nat), (∀ (i : Nat), (¬ j = k) → (tg f E j = 1) → (tg f E k = 1) → ((tX f n E j).length = (tX f n E k).length) → (i ≤ (tX f n E j).length) → (∀ i9, i9 < i → (tX f n E j).getD i9 0 = (tX f n E k).getD i9 0) →  pl (mT g) kf (mb_133 g).2 (44, [(0, .ref q), (1, .int (nI j)), (2, .int (nI k)), (3, .int (nI i))], [], M) (fun v M' => (v = some (.int (nI (smN f n E j k))) ∧ M = M'))) := by
    intro kf
    induction kf with
    | zero => exact (by intros; exact pl_0)
    | succ kf ih =>
      intro i hjk h1_j h1_k he hi hs
      obtain ⟨c0, a1, a2, a3, a4⟩ := hF.2.2.2.2 j h1_j
      obtain ⟨c1, b1, b2, b3, b4⟩ := hF.2.2.2.2 k h1_k
      refine ps_st1 (S' := (45, [(0, .ref q), (1, .int (nI j)), (2, .int (nI k)), (3, .int (nI i))], [.int (nI i)], M)) rfl rfl rfl ?_
      refine ps_st (S' := (46, [(0, .ref q), (1, .int (nI j)), (2, .int (nI k)), (3, .int (nI i))], [.ref q, .int (nI i)], M)) rfl rfl rfl ?_
      refine ps_get (S' := (49, [(0, .ref q), (1, .int (nI j)), (2, .int (nI k)), (3, .int (nI i))], [.ref (qq 4), .int (nI i)], M)) rfl h_q rfl rfl ?_
      refine ps_st (S' := (50, [(0, .ref q), (1, .int (nI j)), (2, .int (nI k)), (3, .int (nI i))], [.int (nI j), .ref (qq 4), .int (nI i)], M)) rfl rfl rfl ?_
      refine ps_ald (S' := (51, [(0, .ref q), (1, .int (nI j)), (2, .int (nI k)), (3, .int (nI i))], [.int ((F 4) (Int32.toNatClampNeg (nI j))), .int (nI i)], M)) rfl h_qq_4 rfl (fun i0_50 i1_50 => ?_)
      have hl_j := tx_len f n E j
      rw [show ((F 4) (Int32.toNatClampNeg (nI j))) = (nI (tX f n E j).length) from (congrArg (F 4) (nI_toNat (k := j) (by omega))).trans ((hF.2.2.2.2 j h1_j).choose_spec.2.1)]
      show pl _ _ _ (_, [(0, .ref q), (1, .int (nI j)), (2, .int (nI k)), (3, .int (nI i))], [.int (nI (tX f n E j).length), .int (nI i)], M) _
      refine ps_if2 (S1 := (91, [(0, .ref q), (1, .int (nI j)), (2, .int (nI k)), (3, .int (nI i))], [], M)) (S2 := (54, [(0, .ref q), (1, .int (nI j)), (2, .int (nI k)), (3, .int (nI i))], [], M)) rfl rfl rfl (fun c_51 => ?_) (fun c_51 => ?_)
      · have c_51 : (nI (tX f n E j).length) ≤ (nI i) := of_decide_eq_true c_51
        have n_51 : (tX f n E j).length ≤ i := (le_nI (p := (tX f n E j).length) (n := i) (Nat.lt_trans (tx_len _ _ _ _) (by decide)) (by omega)).mp c_51
        refine ps_st (S' := (92, [(0, .ref q), (1, .int (nI j)), (2, .int (nI k)), (3, .int (nI i))], [.int 1], M)) rfl rfl rfl ?_
        exact ps_ret rfl rfl (⟨by rw [show smN f n E j k = 1 from if_pos (Or.inr ⟨h1_j, h1_k, gd_ext he (fun i9 h9 => hs i9 (by omega))⟩)]; rfl, rfl⟩)
      · have c_51 : ¬ ((nI (tX f n E j).length) ≤ (nI i)) := of_decide_eq_false c_51
        have n_51 : ¬ ((tX f n E j).length ≤ i) := fun h9 => c_51 ((le_nI (p := (tX f n E j).length) (n := i) (Nat.lt_trans (tx_len _ _ _ _) (by decide)) (by omega)).mpr h9)
        refine ps_st (S' := (55, [(0, .ref q), (1, .int (nI j)), (2, .int (nI k)), (3, .int (nI i))], [.ref q], M)) rfl rfl rfl ?_
        refine ps_get (S' := (58, [(0, .ref q), (1, .int (nI j)), (2, .int (nI k)), (3, .int (nI i))], [.ref (qq 6)], M)) rfl h_q rfl rfl ?_
        refine ps_st (S' := (59, [(0, .ref q), (1, .int (nI j)), (2, .int (nI k)), (3, .int (nI i))], [.ref q, .ref (qq 6)], M)) rfl rfl rfl ?_
        refine ps_get (S' := (62, [(0, .ref q), (1, .int (nI j)), (2, .int (nI k)), (3, .int (nI i))], [.ref (qq 3), .ref (qq 6)], M)) rfl h_q rfl rfl ?_
        refine ps_st (S' := (63, [(0, .ref q), (1, .int (nI j)), (2, .int (nI k)), (3, .int (nI i))], [.int (nI j), .ref (qq 3), .ref (qq 6)], M)) rfl rfl rfl ?_
        refine ps_ald (S' := (64, [(0, .ref q), (1, .int (nI j)), (2, .int (nI k)), (3, .int (nI i))], [.int ((F 3) (Int32.toNatClampNeg (nI j))), .ref (qq 6)], M)) rfl h_qq_3 rfl (fun i0_63 i1_63 => ?_)
        rw [show ((F 3) (Int32.toNatClampNeg (nI j))) = (nI c0) from (congrArg (F 3) (nI_toNat (k := j) (by omega))).trans (a1)]
        show pl _ _ _ (_, [(0, .ref q), (1, .int (nI j)), (2, .int (nI k)), (3, .int (nI i))], [.int (nI c0), .ref (qq 6)], M) _
        refine ps_st (S' := (65, [(0, .ref q), (1, .int (nI j)), (2, .int (nI k)), (3, .int (nI i))], [.int (nI i), .int (nI c0), .ref (qq 6)], M)) rfl rfl rfl ?_
        refine ps_st (S' := (66, [(0, .ref q), (1, .int (nI j)), (2, .int (nI k)), (3, .int (nI i))], [.int ((nI c0) + (nI i)), .ref (qq 6)], M)) rfl rfl rfl ?_
        rw [nI_add1 (p := c0) (k := i) (x := (nI i)) rfl (by omega)]
        show pl _ _ _ (_, [(0, .ref q), (1, .int (nI j)), (2, .int (nI k)), (3, .int (nI i))], [.int (nI (c0 + i)), .ref (qq 6)], M) _
        refine ps_ald (S' := (67, [(0, .ref q), (1, .int (nI j)), (2, .int (nI k)), (3, .int (nI i))], [.int ((F 6) (Int32.toNatClampNeg (nI (c0 + i))))], M)) rfl h_qq_6 rfl (fun i0_66 i1_66 => ?_)
        have hb_66 := tx_ch f n E j i
        rw [show ((F 6) (Int32.toNatClampNeg (nI (c0 + i)))) = (nI ((tX f n E j).getD i 0)) from (congrArg (F 6) (nI_toNat (k := c0 + i) (by omega))).trans (a4 i (by omega))]
        show pl _ _ _ (_, [(0, .ref q), (1, .int (nI j)), (2, .int (nI k)), (3, .int (nI i))], [.int (nI ((tX f n E j).getD i 0))], M) _
        refine ps_st (S' := (68, [(0, .ref q), (1, .int (nI j)), (2, .int (nI k)), (3, .int (nI i))], [.ref q, .int (nI ((tX f n E j).getD i 0))], M)) rfl rfl rfl ?_
        refine ps_get (S' := (71, [(0, .ref q), (1, .int (nI j)), (2, .int (nI k)), (3, .int (nI i))], [.ref (qq 6), .int (nI ((tX f n E j).getD i 0))], M)) rfl h_q rfl rfl ?_
        refine ps_st (S' := (72, [(0, .ref q), (1, .int (nI j)), (2, .int (nI k)), (3, .int (nI i))], [.ref q, .ref (qq 6), .int (nI ((tX f n E j).getD i 0))], M)) rfl rfl rfl ?_
        refine ps_get (S' := (75, [(0, .ref q), (1, .int (nI j)), (2, .int (nI k)), (3, .int (nI i))], [.ref (qq 3), .ref (qq 6), .int (nI ((tX f n E j).getD i 0))], M)) rfl h_q rfl rfl ?_
        refine ps_st (S' := (76, [(0, .ref q), (1, .int (nI j)), (2, .int (nI k)), (3, .int (nI i))], [.int (nI k), .ref (qq 3), .ref (qq 6), .int (nI ((tX f n E j).getD i 0))], M)) rfl rfl rfl ?_
        refine ps_ald (S' := (77, [(0, .ref q), (1, .int (nI j)), (2, .int (nI k)), (3, .int (nI i))], [.int ((F 3) (Int32.toNatClampNeg (nI k))), .ref (qq 6), .int (nI ((tX f n E j).getD i 0))], M)) rfl h_qq_3 rfl (fun i0_76 i1_76 => ?_)
        rw [show ((F 3) (Int32.toNatClampNeg (nI k))) = (nI c1) from (congrArg (F 3) (nI_toNat (k := k) (by omega))).trans (b1)]
        show pl _ _ _ (_, [(0, .ref q), (1, .int (nI j)), (2, .int (nI k)), (3, .int (nI i))], [.int (nI c1), .ref (qq 6), .int (nI ((tX f n E j).getD i 0))], M) _
        refine ps_st (S' := (78, [(0, .ref q), (1, .int (nI j)), (2, .int (nI k)), (3, .int (nI i))], [.int (nI i), .int (nI c1), .ref (qq 6), .int (nI ((tX f n E j).getD i 0))], M)) rfl rfl rfl ?_
        refine ps_st (S' := (79, [(0, .ref q), (1, .int (nI j)), (2, .int (nI k)), (3, .int (nI i))], [.int ((nI c1) + (nI i)), .ref (qq 6), .int (nI ((tX f n E j).getD i 0))], M)) rfl rfl rfl ?_
        rw [nI_add1 (p := c1) (k := i) (x := (nI i)) rfl (by omega)]
        show pl _ _ _ (_, [(0, .ref q), (1, .int (nI j)), (2, .int (nI k)), (3, .int (nI i))], [.int (nI (c1 + i)), .ref (qq 6), .int (nI ((tX f n E j).getD i 0))], M) _
        refine ps_ald (S' := (80, [(0, .ref q), (1, .int (nI j)), (2, .int (nI k)), (3, .int (nI i))], [.int ((F 6) (Int32.toNatClampNeg (nI (c1 + i)))), .int (nI ((tX f n E j).getD i 0))], M)) rfl h_qq_6 rfl (fun i0_79 i1_79 => ?_)
        have hb_79 := tx_ch f n E k i
        rw [show ((F 6) (Int32.toNatClampNeg (nI (c1 + i)))) = (nI ((tX f n E k).getD i 0)) from (congrArg (F 6) (nI_toNat (k := c1 + i) (by omega))).trans (b4 i (by omega))]
        show pl _ _ _ (_, [(0, .ref q), (1, .int (nI j)), (2, .int (nI k)), (3, .int (nI i))], [.int (nI ((tX f n E k).getD i 0)), .int (nI ((tX f n E j).getD i 0))], M) _
        refine ps_if2 (S1 := (85, [(0, .ref q), (1, .int (nI j)), (2, .int (nI k)), (3, .int (nI i))], [], M)) (S2 := (83, [(0, .ref q), (1, .int (nI j)), (2, .int (nI k)), (3, .int (nI i))], [], M)) rfl rfl rfl (fun c_80 => ?_) (fun c_80 => ?_)
        · have c_80 : (nI ((tX f n E j).getD i 0)) = (nI ((tX f n E k).getD i 0)) := of_decide_eq_true c_80
          have n_80 : (tX f n E j).getD i 0 = (tX f n E k).getD i 0 := (eq_nI (p := (tX f n E j).getD i 0) (n := (tX f n E k).getD i 0) (Nat.lt_trans (tx_ch _ _ _ _ _) (by decide)) (Nat.lt_trans (tx_ch _ _ _ _ _) (by decide))).mp c_80
          refine ps_st (S' := (88, [(3, .int ((nI i) + 1)), (0, .ref q), (1, .int (nI j)), (2, .int (nI k))], [], M)) rfl rfl rfl ?_
          rw [nI_add1 (p := i) (k := 1) (x := 1) rfl (by omega)]
          show pl _ _ _ (_, [(3, .int (nI (i + 1))), (0, .ref q), (1, .int (nI j)), (2, .int (nI k))], [], M) _
          refine ps_st (S' := (44, [(0, .ref q), (1, .int (nI j)), (2, .int (nI k)), (3, .int (nI (i + 1)))], [], M)) rfl rfl rfl ?_
          exact ih (i + 1)  (hjk) (h1_j) (h1_k) (he) (by omega) (fun i9 h9 => by rcases Nat.lt_succ_iff_lt_or_eq.mp h9 with h8 | rfl; exact hs i9 h8; omega)
        · have c_80 : ¬ ((nI ((tX f n E j).getD i 0)) = (nI ((tX f n E k).getD i 0))) := of_decide_eq_false c_80
          have n_80 : ¬ ((tX f n E j).getD i 0 = (tX f n E k).getD i 0) := fun h9 => c_80 ((eq_nI (p := (tX f n E j).getD i 0) (n := (tX f n E k).getD i 0) (Nat.lt_trans (tx_ch _ _ _ _ _) (by decide)) (Nat.lt_trans (tx_ch _ _ _ _ _) (by decide))).mpr h9)
          refine ps_st (S' := (84, [(0, .ref q), (1, .int (nI j)), (2, .int (nI k)), (3, .int (nI i))], [.int 0], M)) rfl rfl rfl ?_
          exact ps_ret rfl rfl (⟨by rw [show smN f n E j k = 0 from if_neg (fun h0 => h0.elim (fun h9 => hjk h9) (fun h9 => by rw [h9.2.2] at n_80; exact n_80 rfl))]; rfl, rfl⟩)
  refine ps_st (S' := (1, [(0, .ref q), (1, .int (nI j)), (2, .int (nI k))], [.int (nI j)], M)) rfl rfl rfl ?_
  refine ps_st (S' := (2, [(0, .ref q), (1, .int (nI j)), (2, .int (nI k))], [.int (nI k), .int (nI j)], M)) rfl rfl rfl ?_
  refine ps_if2 (S1 := (7, [(0, .ref q), (1, .int (nI j)), (2, .int (nI k))], [], M)) (S2 := (5, [(0, .ref q), (1, .int (nI j)), (2, .int (nI k))], [], M)) rfl rfl rfl (fun c_2 => ?_) (fun c_2 => ?_)
  · have c_2 : ¬ (nI j) = (nI k) := of_decide_eq_true c_2
    have n_2 : ¬ (j = k) := fun h9 => c_2 ((eq_nI (p := j) (n := k) (by omega) (by omega)).mpr h9)
    refine ps_st (S' := (8, [(0, .ref q), (1, .int (nI j)), (2, .int (nI k))], [.ref q], M)) rfl rfl rfl ?_
    refine ps_st (S' := (9, [(0, .ref q), (1, .int (nI j)), (2, .int (nI k))], [.int (nI j), .ref q], M)) rfl rfl rfl ?_
    refine pl_call (a := [.ref q, .int (nI j)]) (rest := []) rfl rfl rfl (dy_tagOf (f := f) (n := n) (N := N) (q := q) (E := E) (j := j) (hV) (by omega)) (fun v1 M2 q3 => ?_)
    obtain ⟨rfl, rfl⟩ := q3
    show pl _ _ _ (12, [(0, .ref q), (1, .int (nI j)), (2, .int (nI k))], [.int (nI (tg f E j))], M) _
    refine ps_st (S' := (13, [(0, .ref q), (1, .int (nI j)), (2, .int (nI k))], [.int 1, .int (nI (tg f E j))], M)) rfl rfl rfl ?_
    refine ps_if2 (S1 := (40, [], [], M)) (S2 := (16, [(0, .ref q), (1, .int (nI j)), (2, .int (nI k))], [], M)) rfl rfl rfl (fun c_13 => ?_) (fun c_13 => ?_)
    · have c_13 : ¬ (nI (tg f E j)) = 1 := of_decide_eq_true c_13
      have n_13 : ¬ (tg f E j = 1) := fun h9 => c_13 ((eq_nI (p := tg f E j) (n := 1) (Nat.lt_trans (tg_lt _ _ _) (by decide)) (by decide)).mpr h9)
      refine ps_st (S' := (41, [], [.int 0], M)) rfl rfl rfl ?_
      exact ps_ret rfl rfl (⟨by rw [show smN f n E j k = 0 from if_neg (fun h0 => h0.elim (fun h9 => by omega) (fun h9 => by omega))]; rfl, rfl⟩)
    · have c_13 : ¬ (¬ (nI (tg f E j)) = 1) := of_decide_eq_false c_13
      have n_13 : tg f E j = 1 := (eq_nI (p := tg f E j) (n := 1) (Nat.lt_trans (tg_lt _ _ _) (by decide)) (by decide)).mp (Decidable.not_not.mp c_13)
      refine ps_st (S' := (17, [(0, .ref q), (1, .int (nI j)), (2, .int (nI k))], [.ref q], M)) rfl rfl rfl ?_
      refine ps_st (S' := (18, [(0, .ref q), (1, .int (nI j)), (2, .int (nI k))], [.int (nI k), .ref q], M)) rfl rfl rfl ?_
      refine pl_call (a := [.ref q, .int (nI k)]) (rest := []) rfl rfl rfl (dy_tagOf (f := f) (n := n) (N := N) (q := q) (E := E) (j := k) (hV) (by omega)) (fun v4 M5 q6 => ?_)
      obtain ⟨rfl, rfl⟩ := q6
      show pl _ _ _ (21, [(0, .ref q), (1, .int (nI j)), (2, .int (nI k))], [.int (nI (tg f E k))], M) _
      refine ps_st (S' := (22, [(0, .ref q), (1, .int (nI j)), (2, .int (nI k))], [.int 1, .int (nI (tg f E k))], M)) rfl rfl rfl ?_
      refine ps_if2 (S1 := (40, [], [], M)) (S2 := (25, [(0, .ref q), (1, .int (nI j)), (2, .int (nI k))], [], M)) rfl rfl rfl (fun c_22 => ?_) (fun c_22 => ?_)
      · have c_22 : ¬ (nI (tg f E k)) = 1 := of_decide_eq_true c_22
        have n_22 : ¬ (tg f E k = 1) := fun h9 => c_22 ((eq_nI (p := tg f E k) (n := 1) (Nat.lt_trans (tg_lt _ _ _) (by decide)) (by decide)).mpr h9)
        refine ps_st (S' := (41, [], [.int 0], M)) rfl rfl rfl ?_
        exact ps_ret rfl rfl (⟨by rw [show smN f n E j k = 0 from if_neg (fun h0 => h0.elim (fun h9 => by omega) (fun h9 => by omega))]; rfl, rfl⟩)
      · have c_22 : ¬ (¬ (nI (tg f E k)) = 1) := of_decide_eq_false c_22
        have n_22 : tg f E k = 1 := (eq_nI (p := tg f E k) (n := 1) (Nat.lt_trans (tg_lt _ _ _) (by decide)) (by decide)).mp (Decidable.not_not.mp c_22)
        refine ps_st (S' := (26, [(0, .ref q), (1, .int (nI j)), (2, .int (nI k))], [.ref q], M)) rfl rfl rfl ?_
        refine ps_get (S' := (29, [(0, .ref q), (1, .int (nI j)), (2, .int (nI k))], [.ref (qq 4)], M)) rfl h_q rfl rfl ?_
        refine ps_st (S' := (30, [(0, .ref q), (1, .int (nI j)), (2, .int (nI k))], [.int (nI j), .ref (qq 4)], M)) rfl rfl rfl ?_
        refine ps_ald (S' := (31, [(0, .ref q), (1, .int (nI j)), (2, .int (nI k))], [.int ((F 4) (Int32.toNatClampNeg (nI j)))], M)) rfl h_qq_4 rfl (fun i0_30 i1_30 => ?_)
        have hl_j := tx_len f n E j
        have h1_j : tg f E j = 1 := by omega
        rw [show ((F 4) (Int32.toNatClampNeg (nI j))) = (nI (tX f n E j).length) from (congrArg (F 4) (nI_toNat (k := j) (by omega))).trans ((hF.2.2.2.2 j h1_j).choose_spec.2.1)]
        show pl _ _ _ (_, [(0, .ref q), (1, .int (nI j)), (2, .int (nI k))], [.int (nI (tX f n E j).length)], M) _
        refine ps_st (S' := (32, [(0, .ref q), (1, .int (nI j)), (2, .int (nI k))], [.ref q, .int (nI (tX f n E j).length)], M)) rfl rfl rfl ?_
        refine ps_get (S' := (35, [(0, .ref q), (1, .int (nI j)), (2, .int (nI k))], [.ref (qq 4), .int (nI (tX f n E j).length)], M)) rfl h_q rfl rfl ?_
        refine ps_st (S' := (36, [(0, .ref q), (1, .int (nI j)), (2, .int (nI k))], [.int (nI k), .ref (qq 4), .int (nI (tX f n E j).length)], M)) rfl rfl rfl ?_
        refine ps_ald (S' := (37, [(0, .ref q), (1, .int (nI j)), (2, .int (nI k))], [.int ((F 4) (Int32.toNatClampNeg (nI k))), .int (nI (tX f n E j).length)], M)) rfl h_qq_4 rfl (fun i0_36 i1_36 => ?_)
        have hl_k := tx_len f n E k
        have h1_k : tg f E k = 1 := by omega
        rw [show ((F 4) (Int32.toNatClampNeg (nI k))) = (nI (tX f n E k).length) from (congrArg (F 4) (nI_toNat (k := k) (by omega))).trans ((hF.2.2.2.2 k h1_k).choose_spec.2.1)]
        show pl _ _ _ (_, [(0, .ref q), (1, .int (nI j)), (2, .int (nI k))], [.int (nI (tX f n E k).length), .int (nI (tX f n E j).length)], M) _
        refine ps_if2 (S1 := (42, [(0, .ref q), (1, .int (nI j)), (2, .int (nI k))], [], M)) (S2 := (40, [], [], M)) rfl rfl rfl (fun c_37 => ?_) (fun c_37 => ?_)
        · have c_37 : (nI (tX f n E j).length) = (nI (tX f n E k).length) := of_decide_eq_true c_37
          have n_37 : (tX f n E j).length = (tX f n E k).length := (eq_nI (p := (tX f n E j).length) (n := (tX f n E k).length) (Nat.lt_trans (tx_len _ _ _ _) (by decide)) (Nat.lt_trans (tx_len _ _ _ _) (by decide))).mp c_37
          refine ps_st (S' := (43, [(0, .ref q), (1, .int (nI j)), (2, .int (nI k))], [.int 0], M)) rfl rfl rfl ?_
          refine ps_st (S' := (44, [(0, .ref q), (1, .int (nI j)), (2, .int (nI k)), (3, .int 0)], [], M)) rfl rfl rfl ?_
          exact (LL kf) (0)  (by omega) (by omega) (by omega) (by omega) (by omega) (fun i9 h9 => by omega)
        · have c_37 : ¬ ((nI (tX f n E j).length) = (nI (tX f n E k).length)) := of_decide_eq_false c_37
          have n_37 : ¬ ((tX f n E j).length = (tX f n E k).length) := fun h9 => c_37 ((eq_nI (p := (tX f n E j).length) (n := (tX f n E k).length) (Nat.lt_trans (tx_len _ _ _ _) (by decide)) (Nat.lt_trans (tx_len _ _ _ _) (by decide))).mpr h9)
          refine ps_st (S' := (41, [], [.int 0], M)) rfl rfl rfl ?_
          exact ps_ret rfl rfl (⟨by rw [show smN f n E j k = 0 from if_neg (fun h0 => h0.elim (fun h9 => by omega) (fun h9 => by have h8 := congrArg List.length h9.2.2; omega))]; rfl, rfl⟩)
  · have c_2 : ¬ (¬ (nI j) = (nI k)) := of_decide_eq_false c_2
    have n_2 : j = k := (eq_nI (p := j) (n := k) (by omega) (by omega)).mp (Decidable.not_not.mp c_2)
    refine ps_st (S' := (6, [(0, .ref q), (1, .int (nI j)), (2, .int (nI k))], [.int 1], M)) rfl rfl rfl ?_
    exact ps_ret rfl rfl (⟨by rw [show smN f n E j k = 1 from if_pos (Or.inl (by omega))]; rfl, rfl⟩)
end
section
/-! checks of the pool (laid by wip/p4/d8.py) -/
/-! what the pool's entries must hold (my own text) -/
section CKA
variable (f : Nat → Int32) (n : Nat) (E : List (Nat × Nat))
def pairN (k : Nat) : Nat := if tg f E k = 12 ∧ tg f E (fi f E k) = 1 ∧ tg f E (se f E k) = 1 then 1 else 0
def ismN (k : Nat) : Nat := if tg f E k = 9 ∨ tg f E k = 10 ∨ tg f E k = 11 then 1 else 0
def memN (k : Nat) : Nat := if tg f E (fi f E k) = 7 ∧ tg f E (fi f E (fi f E k)) = 1 ∧ ¬ pairN f E (se f E k) = 0 then 1 else 0
def lnkN (k : Nat) : Nat :=
  if tg f E k = 7 ∨ tg f E k = 8 ∨ tg f E k = 16 ∨ tg f E k = 19 ∨ tg f E k = 20 then (if tg f E (fi f E k) = 1 then 1 else 0) else
  if tg f E k = 12 then pairN f E k else if tg f E k = 9 ∨ tg f E k = 10 ∨ tg f E k = 11 then memN f E k else
  if tg f E k = 15 then (if ismN f E (se f E k) = 0 then (if tg f E (se f E k) = 0 then 0 else 1) else memN f E (se f E k)) else
  if tg f E k = 17 ∨ tg f E k = 18 then pairN f E (se f E k) else 1
def nwtN (k : Nat) : Nat := if ¬ unqN (tX f n E (fi f E k)) = 0 ∧ (¬ fldN (tX f n E (se f E k)) = 0 ∨ ¬ mthN (tX f n E (se f E k)) = 0) then 1 else 0
def mrfN (k : Nat) : Nat := if mthN (tX f n E (se f E (se f E k))) = 0 then 0 else if angN (tX f n E (fi f E (se f E k))) = 0 then 1 else
  if tg f E k = 10 ∧ ¬ eqN (tX f n E (fi f E (se f E k))) (ltx 14) = 0 ∧ ¬ nresN (tX f n E (se f E (se f E k))) = 0 then 1 else 0
def hdlN (mj d e : Nat) : Nat :=
  if d = 1 ∨ d = 2 ∨ d = 3 ∨ d = 4 then (if tg f E e = 9 then 1 else 0) else
  if d = 5 then (if tg f E e = 10 ∧ eqN (tX f n E (fi f E (se f E e))) (ltx 14) = 0 then 1 else 0) else
  if d = 6 ∨ d = 7 then (if (tg f E e = 10 ∨ (tg f E e = 11 ∧ 52 ≤ mj)) ∧ eqN (tX f n E (fi f E (se f E e))) (ltx 14) = 0 then 1 else 0) else
  if d = 8 then (if tg f E e = 10 ∧ ¬ eqN (tX f n E (fi f E (se f E e))) (ltx 14) = 0 then 1 else 0) else
  if d = 9 then (if tg f E e = 11 ∧ eqN (tX f n E (fi f E (se f E e))) (ltx 14) = 0 then 1 else 0) else 0
def brkN (mj k : Nat) : Nat :=
  if tg f E k = 7 then (if clsN (tX f n E (fi f E k)) = 0 then 10 else 0) else
  if tg f E k = 12 then (if nwtN f n E k = 0 then 11 else 0) else
  if tg f E k = 9 then (if fldN (tX f n E (se f E (se f E k))) = 0 then 12 else 0) else
  if tg f E k = 10 ∨ tg f E k = 11 then (if mrfN f n E k = 0 then 12 else 0) else
  if tg f E k = 15 then (if hdlN f n E mj (fi f E k) (se f E k) = 0 then 13 else 0) else
  if tg f E k = 16 then (if mthN (tX f n E (fi f E k)) = 0 then 14 else 0) else
  if tg f E k = 17 then (if fldN (tX f n E (se f E (se f E k))) = 0 ∨ ¬ angN (tX f n E (fi f E (se f E k))) = 0 then 14 else 0) else
  if tg f E k = 18 then (if mthN (tX f n E (se f E (se f E k))) = 0 ∨ ¬ angN (tX f n E (fi f E (se f E k))) = 0 then 14 else 0) else 0
def tp (k : Nat) : Nat := match lk E k with
  | some p => p
  | none => 0
/-- the first entry that is wrong, of r from k on -/
def chkP (mj : Nat) : Nat → Nat → Option (Nat × Nat)
  | 0, _ => none
  | r + 1, k => if lnkN f E k = 0 then some (9, tp E k) else if brkN f n E mj k = 0 then chkP mj r (k + 1) else some (brkN f n E mj k, tp E k)
def chkB (bc : Nat) : Nat → Nat → Option (Nat × Nat)
  | 0, _ => none
  | r + 1, k => if (tg f E k = 17 ∨ tg f E k = 18) ∧ bc ≤ fi f E k then some (40, tp E k) else chkB bc r (k + 1)
end CKA
theorem le1_pair (f : Nat → Int32) (E : List (Nat × Nat)) (k : Nat) : pairN f E k < 2 := by unfold pairN; split <;> decide
theorem le1_ism (f : Nat → Int32) (E : List (Nat × Nat)) (k : Nat) : ismN f E k < 2 := by unfold ismN; split <;> decide
theorem le1_mem (f : Nat → Int32) (E : List (Nat × Nat)) (k : Nat) : memN f E k < 2 := by unfold memN; split <;> decide
theorem le1_lnk (f : Nat → Int32) (E : List (Nat × Nat)) (k : Nat) : lnkN f E k < 2 := by
  have h1 := le1_pair f E k
  have h2 := le1_mem f E k
  have h3 := le1_mem f E (se f E k)
  have h4 := le1_pair f E (se f E k)
  unfold lnkN
  repeat' split
  all_goals omega
theorem le1_nwt (f : Nat → Int32) (n : Nat) (E : List (Nat × Nat)) (k : Nat) : nwtN f n E k < 2 := by unfold nwtN; split <;> decide
theorem le1_mrf (f : Nat → Int32) (n : Nat) (E : List (Nat × Nat)) (k : Nat) : mrfN f n E k < 2 := by
  unfold mrfN
  repeat' split
  all_goals decide
theorem le1_hdl (f : Nat → Int32) (n : Nat) (E : List (Nat × Nat)) (mj d e : Nat) : hdlN f n E mj d e < 2 := by
  unfold hdlN
  repeat' split
  all_goals decide
theorem le_brk (f : Nat → Int32) (n : Nat) (E : List (Nat × Nat)) (mj k : Nat) : brkN f n E mj k < 15 := by
  unfold brkN
  repeat' split
  all_goals decide
theorem tp_of {f : Nat → Int32} {E : List (Nat × Nat)} {k : Nat} (h : ¬ tg f E k = 0) : lk E k = some (tp E k) := by
  unfold tg at h
  unfold tp
  split
  · rename_i p hp
    exact hp
  · rename_i hp
    rw [hp] at h
    exact absurd rfl h
theorem lnk_t {f : Nat → Int32} {E : List (Nat × Nat)} {k : Nat} (h : lnkN f E k = 0) : ¬ tg f E k = 0 := by
  intro h0
  unfold lnkN at h
  rw [if_neg (by omega), if_neg (by omega), if_neg (by omega), if_neg (by omega), if_neg (by omega)] at h
  cases h
theorem brk_t {f : Nat → Int32} {n : Nat} {E : List (Nat × Nat)} {mj k : Nat} (h : ¬ brkN f n E mj k = 0) : ¬ tg f E k = 0 := by
  intro h0
  unfold brkN at h
  rw [if_neg (by omega), if_neg (by omega), if_neg (by omega), if_neg (by omega), if_neg (by omega), if_neg (by omega), if_neg (by omega), if_neg (by omega)] at h
  exact h rfl
theorem chkP_st {f : Nat → Int32} {n : Nat} {E : List (Nat × Nat)} {mj N k : Nat} (h : k < N) : chkP f n E mj (N - k) k = if lnkN f E k = 0 then some (9, tp E k) else if brkN f n E mj k = 0 then chkP f n E mj (N - (k + 1)) (k + 1) else some (brkN f n E mj k, tp E k) := by
  rw [show N - k = (N - (k + 1)) + 1 by omega]
  rfl
theorem chkB_st {f : Nat → Int32} {E : List (Nat × Nat)} {bc N k : Nat} (h : k < N) : chkB f E bc (N - k) k = if (tg f E k = 17 ∨ tg f E k = 18) ∧ bc ≤ fi f E k then some (40, tp E k) else chkB f E bc (N - (k + 1)) (k + 1) := by
  rw [show N - k = (N - (k + 1)) + 1 by omega]
  rfl
set_option maxHeartbeats 1000000 in
theorem dk_pairHolds {g : xe_G} {M : mi_H} {f : Nat → Int32} {n N q : Nat} {E : List (Nat × Nat)} {o vd mj : Nat} {k : Nat} (h_o : M.1 o = some (ob 8 [.ref q, .int (nI mj), .ref vd])) (hV : PV g f n N E q M) (hmj : mj < 65536) (hk : k < 65536) : pt (mT g) 153 [.ref o, .int (nI k)] M (fun v M' => (v = some (.int (nI (pairN f E k))) ∧ M = M')) := by
  refine pt_in (b := mb_153 g) rfl (fun kf => ?_)
  show pl (mT g) kf (mb_153 g).2 (0, [(0, .ref o), (1, .int (nI k))], [], M) _
  refine ps_st (S' := (1, [(0, .ref o), (1, .int (nI k))], [.ref o], M)) rfl rfl rfl ?_
  refine ps_get (S' := (4, [(0, .ref o), (1, .int (nI k))], [.ref q], M)) rfl h_o rfl rfl ?_
  refine ps_st (S' := (5, [(0, .ref o), (1, .int (nI k))], [.int (nI k), .ref q], M)) rfl rfl rfl ?_
  refine pl_call (a := [.ref q, .int (nI k)]) (rest := []) rfl rfl rfl (dy_tagOf (f := f) (n := n) (N := N) (q := q) (E := E) (j := k) (hV) (by omega)) (fun v1 M2 q3 => ?_)
  obtain ⟨rfl, rfl⟩ := q3
  show pl _ _ _ (8, [(0, .ref o), (1, .int (nI k))], [.int (nI (tg f E k))], M) _
  refine ps_st (S' := (10, [(0, .ref o), (1, .int (nI k))], [.int 12, .int (nI (tg f E k))], M)) rfl rfl rfl ?_
  refine ps_if2 (S1 := (55, [], [], M)) (S2 := (13, [(0, .ref o), (1, .int (nI k))], [], M)) rfl rfl rfl (fun c_10 => ?_) (fun c_10 => ?_)
  · have c_10 : ¬ (nI (tg f E k)) = 12 := of_decide_eq_true c_10
    have n_10 : ¬ (tg f E k = 12) := fun h9 => c_10 ((eq_nI (p := tg f E k) (n := 12) (Nat.lt_trans (tg_lt _ _ _) (by decide)) (by decide)).mpr h9)
    refine ps_st (S' := (56, [], [.int 0], M)) rfl rfl rfl ?_
    exact ps_ret rfl rfl (⟨congrArg (fun x => some (Value.int (nI x))) (show 0 = pairN f E k from by
        unfold pairN
        first | ((repeat first | rw [if_pos (by omega)] | rw [if_neg (by omega)]) <;> first | rfl | omega) | ((repeat' split) <;> first | rfl | (exfalso; omega) | omega)), rfl⟩)
  · have c_10 : ¬ (¬ (nI (tg f E k)) = 12) := of_decide_eq_false c_10
    have n_10 : tg f E k = 12 := (eq_nI (p := tg f E k) (n := 12) (Nat.lt_trans (tg_lt _ _ _) (by decide)) (by decide)).mp (Decidable.not_not.mp c_10)
    refine ps_st (S' := (14, [(0, .ref o), (1, .int (nI k))], [.ref o], M)) rfl rfl rfl ?_
    refine ps_get (S' := (17, [(0, .ref o), (1, .int (nI k))], [.ref q], M)) rfl h_o rfl rfl ?_
    refine ps_st (S' := (18, [(0, .ref o), (1, .int (nI k))], [.ref o, .ref q], M)) rfl rfl rfl ?_
    refine ps_get (S' := (21, [(0, .ref o), (1, .int (nI k))], [.ref q, .ref q], M)) rfl h_o rfl rfl ?_
    refine ps_st (S' := (22, [(0, .ref o), (1, .int (nI k))], [.int (nI k), .ref q, .ref q], M)) rfl rfl rfl ?_
    refine pl_call (a := [.ref q, .int (nI k)]) (rest := [.ref q]) rfl rfl rfl (dy_firstIndex (f := f) (n := n) (N := N) (q := q) (E := E) (j := k) (hV) (by omega)) (fun v4 M5 q6 => ?_)
    obtain ⟨rfl, rfl⟩ := q6
    show pl _ _ _ (25, [(0, .ref o), (1, .int (nI k))], [.int (nI (fi f E k)), .ref q], M) _
    refine pl_call (a := [.ref q, .int (nI (fi f E k))]) (rest := []) rfl rfl rfl (dy_tagOf (f := f) (n := n) (N := N) (q := q) (E := E) (j := (fi f E k)) (hV) (fi_lt _ _ _)) (fun v7 M8 q9 => ?_)
    obtain ⟨rfl, rfl⟩ := q9
    show pl _ _ _ (28, [(0, .ref o), (1, .int (nI k))], [.int (nI (tg f E (fi f E k)))], M) _
    refine ps_st (S' := (29, [(0, .ref o), (1, .int (nI k))], [.int 1, .int (nI (tg f E (fi f E k)))], M)) rfl rfl rfl ?_
    refine ps_if2 (S1 := (55, [], [], M)) (S2 := (32, [(0, .ref o), (1, .int (nI k))], [], M)) rfl rfl rfl (fun c_29 => ?_) (fun c_29 => ?_)
    · have c_29 : ¬ (nI (tg f E (fi f E k))) = 1 := of_decide_eq_true c_29
      have n_29 : ¬ (tg f E (fi f E k) = 1) := fun h9 => c_29 ((eq_nI (p := tg f E (fi f E k)) (n := 1) (Nat.lt_trans (tg_lt _ _ _) (by decide)) (by decide)).mpr h9)
      refine ps_st (S' := (56, [], [.int 0], M)) rfl rfl rfl ?_
      exact ps_ret rfl rfl (⟨congrArg (fun x => some (Value.int (nI x))) (show 0 = pairN f E k from by
          unfold pairN
          first | ((repeat first | rw [if_pos (by omega)] | rw [if_neg (by omega)]) <;> first | rfl | omega) | ((repeat' split) <;> first | rfl | (exfalso; omega) | omega)), rfl⟩)
    · have c_29 : ¬ (¬ (nI (tg f E (fi f E k))) = 1) := of_decide_eq_false c_29
      have n_29 : tg f E (fi f E k) = 1 := (eq_nI (p := tg f E (fi f E k)) (n := 1) (Nat.lt_trans (tg_lt _ _ _) (by decide)) (by decide)).mp (Decidable.not_not.mp c_29)
      refine ps_st (S' := (33, [(0, .ref o), (1, .int (nI k))], [.ref o], M)) rfl rfl rfl ?_
      refine ps_get (S' := (36, [(0, .ref o), (1, .int (nI k))], [.ref q], M)) rfl h_o rfl rfl ?_
      refine ps_st (S' := (37, [(0, .ref o), (1, .int (nI k))], [.ref o, .ref q], M)) rfl rfl rfl ?_
      refine ps_get (S' := (40, [(0, .ref o), (1, .int (nI k))], [.ref q, .ref q], M)) rfl h_o rfl rfl ?_
      refine ps_st (S' := (41, [(0, .ref o), (1, .int (nI k))], [.int (nI k), .ref q, .ref q], M)) rfl rfl rfl ?_
      refine pl_call (a := [.ref q, .int (nI k)]) (rest := [.ref q]) rfl rfl rfl (dy_secondIndex (f := f) (n := n) (N := N) (q := q) (E := E) (j := k) (hV) (by omega)) (fun v10 M11 q12 => ?_)
      obtain ⟨rfl, rfl⟩ := q12
      show pl _ _ _ (44, [(0, .ref o), (1, .int (nI k))], [.int (nI (se f E k)), .ref q], M) _
      refine pl_call (a := [.ref q, .int (nI (se f E k))]) (rest := []) rfl rfl rfl (dy_tagOf (f := f) (n := n) (N := N) (q := q) (E := E) (j := (se f E k)) (hV) (se_lt _ _ _)) (fun v13 M14 q15 => ?_)
      obtain ⟨rfl, rfl⟩ := q15
      show pl _ _ _ (47, [(0, .ref o), (1, .int (nI k))], [.int (nI (tg f E (se f E k)))], M) _
      refine ps_st (S' := (48, [(0, .ref o), (1, .int (nI k))], [.int 1, .int (nI (tg f E (se f E k)))], M)) rfl rfl rfl ?_
      refine ps_if2 (S1 := (55, [], [], M)) (S2 := (51, [(0, .ref o), (1, .int (nI k))], [], M)) rfl rfl rfl (fun c_48 => ?_) (fun c_48 => ?_)
      · have c_48 : ¬ (nI (tg f E (se f E k))) = 1 := of_decide_eq_true c_48
        have n_48 : ¬ (tg f E (se f E k) = 1) := fun h9 => c_48 ((eq_nI (p := tg f E (se f E k)) (n := 1) (Nat.lt_trans (tg_lt _ _ _) (by decide)) (by decide)).mpr h9)
        refine ps_st (S' := (56, [], [.int 0], M)) rfl rfl rfl ?_
        exact ps_ret rfl rfl (⟨congrArg (fun x => some (Value.int (nI x))) (show 0 = pairN f E k from by
            unfold pairN
            first | ((repeat first | rw [if_pos (by omega)] | rw [if_neg (by omega)]) <;> first | rfl | omega) | ((repeat' split) <;> first | rfl | (exfalso; omega) | omega)), rfl⟩)
      · have c_48 : ¬ (¬ (nI (tg f E (se f E k))) = 1) := of_decide_eq_false c_48
        have n_48 : tg f E (se f E k) = 1 := (eq_nI (p := tg f E (se f E k)) (n := 1) (Nat.lt_trans (tg_lt _ _ _) (by decide)) (by decide)).mp (Decidable.not_not.mp c_48)
        refine ps_st (S' := (52, [(0, .ref o), (1, .int (nI k))], [.int 1], M)) rfl rfl rfl ?_
        refine ps_st (S' := (56, [], [.int 1], M)) rfl rfl rfl ?_
        exact ps_ret rfl rfl (⟨congrArg (fun x => some (Value.int (nI x))) (show 1 = pairN f E k from by
            unfold pairN
            first | ((repeat first | rw [if_pos (by omega)] | rw [if_neg (by omega)]) <;> first | rfl | omega) | ((repeat' split) <;> first | rfl | (exfalso; omega) | omega)), rfl⟩)
set_option maxHeartbeats 1000000 in
theorem dk_isMember {g : xe_G} {M : mi_H} {f : Nat → Int32} {n N q : Nat} {E : List (Nat × Nat)} {o vd mj : Nat} {k : Nat} (h_o : M.1 o = some (ob 8 [.ref q, .int (nI mj), .ref vd])) (hV : PV g f n N E q M) (hmj : mj < 65536) (hk : k < 65536) : pt (mT g) 148 [.ref o, .int (nI k)] M (fun v M' => (v = some (.int (nI (ismN f E k))) ∧ M = M')) := by
  refine pt_in (b := mb_148 g) rfl (fun kf => ?_)
  show pl (mT g) kf (mb_148 g).2 (0, [(0, .ref o), (1, .int (nI k))], [], M) _
  refine ps_st (S' := (1, [(0, .ref o), (1, .int (nI k))], [.ref o], M)) rfl rfl rfl ?_
  refine ps_get (S' := (4, [(0, .ref o), (1, .int (nI k))], [.ref q], M)) rfl h_o rfl rfl ?_
  refine ps_st (S' := (5, [(0, .ref o), (1, .int (nI k))], [.int (nI k), .ref q], M)) rfl rfl rfl ?_
  refine pl_call (a := [.ref q, .int (nI k)]) (rest := []) rfl rfl rfl (dy_tagOf (f := f) (n := n) (N := N) (q := q) (E := E) (j := k) (hV) (by omega)) (fun v1 M2 q3 => ?_)
  obtain ⟨rfl, rfl⟩ := q3
  show pl _ _ _ (8, [(0, .ref o), (1, .int (nI k))], [.int (nI (tg f E k))], M) _
  refine ps_st (S' := (9, [(2, .int (nI (tg f E k))), (0, .ref o), (1, .int (nI k))], [], M)) rfl rfl rfl ?_
  refine ps_st (S' := (10, [(2, .int (nI (tg f E k))), (0, .ref o), (1, .int (nI k))], [.int (nI (tg f E k))], M)) rfl rfl rfl ?_
  refine ps_st (S' := (12, [(2, .int (nI (tg f E k))), (0, .ref o), (1, .int (nI k))], [.int 9, .int (nI (tg f E k))], M)) rfl rfl rfl ?_
  refine ps_if2 (S1 := (27, [], [], M)) (S2 := (15, [(2, .int (nI (tg f E k))), (0, .ref o), (1, .int (nI k))], [], M)) rfl rfl rfl (fun c_12 => ?_) (fun c_12 => ?_)
  · have c_12 : (nI (tg f E k)) = 9 := of_decide_eq_true c_12
    have n_12 : tg f E k = 9 := (eq_nI (p := tg f E k) (n := 9) (Nat.lt_trans (tg_lt _ _ _) (by decide)) (by decide)).mp c_12
    refine ps_st (S' := (28, [], [.int 1], M)) rfl rfl rfl ?_
    refine ps_st (S' := (32, [], [.int 1], M)) rfl rfl rfl ?_
    exact ps_ret rfl rfl (⟨congrArg (fun x => some (Value.int (nI x))) (show 1 = ismN f E k from by
        unfold ismN
        first | ((repeat first | rw [if_pos (by omega)] | rw [if_neg (by omega)]) <;> first | rfl | omega) | ((repeat' split) <;> first | rfl | (exfalso; omega) | omega)), rfl⟩)
  · have c_12 : ¬ ((nI (tg f E k)) = 9) := of_decide_eq_false c_12
    have n_12 : ¬ (tg f E k = 9) := fun h9 => c_12 ((eq_nI (p := tg f E k) (n := 9) (Nat.lt_trans (tg_lt _ _ _) (by decide)) (by decide)).mpr h9)
    refine ps_st (S' := (16, [(2, .int (nI (tg f E k))), (0, .ref o), (1, .int (nI k))], [.int (nI (tg f E k))], M)) rfl rfl rfl ?_
    refine ps_st (S' := (18, [(2, .int (nI (tg f E k))), (0, .ref o), (1, .int (nI k))], [.int 10, .int (nI (tg f E k))], M)) rfl rfl rfl ?_
    refine ps_if2 (S1 := (27, [], [], M)) (S2 := (21, [(2, .int (nI (tg f E k))), (0, .ref o), (1, .int (nI k))], [], M)) rfl rfl rfl (fun c_18 => ?_) (fun c_18 => ?_)
    · have c_18 : (nI (tg f E k)) = 10 := of_decide_eq_true c_18
      have n_18 : tg f E k = 10 := (eq_nI (p := tg f E k) (n := 10) (Nat.lt_trans (tg_lt _ _ _) (by decide)) (by decide)).mp c_18
      refine ps_st (S' := (28, [], [.int 1], M)) rfl rfl rfl ?_
      refine ps_st (S' := (32, [], [.int 1], M)) rfl rfl rfl ?_
      exact ps_ret rfl rfl (⟨congrArg (fun x => some (Value.int (nI x))) (show 1 = ismN f E k from by
          unfold ismN
          first | ((repeat first | rw [if_pos (by omega)] | rw [if_neg (by omega)]) <;> first | rfl | omega) | ((repeat' split) <;> first | rfl | (exfalso; omega) | omega)), rfl⟩)
    · have c_18 : ¬ ((nI (tg f E k)) = 10) := of_decide_eq_false c_18
      have n_18 : ¬ (tg f E k = 10) := fun h9 => c_18 ((eq_nI (p := tg f E k) (n := 10) (Nat.lt_trans (tg_lt _ _ _) (by decide)) (by decide)).mpr h9)
      refine ps_st (S' := (22, [(2, .int (nI (tg f E k))), (0, .ref o), (1, .int (nI k))], [.int (nI (tg f E k))], M)) rfl rfl rfl ?_
      refine ps_st (S' := (24, [(2, .int (nI (tg f E k))), (0, .ref o), (1, .int (nI k))], [.int 11, .int (nI (tg f E k))], M)) rfl rfl rfl ?_
      refine ps_if2 (S1 := (31, [(2, .int (nI (tg f E k))), (0, .ref o), (1, .int (nI k))], [], M)) (S2 := (27, [], [], M)) rfl rfl rfl (fun c_24 => ?_) (fun c_24 => ?_)
      · have c_24 : ¬ (nI (tg f E k)) = 11 := of_decide_eq_true c_24
        have n_24 : ¬ (tg f E k = 11) := fun h9 => c_24 ((eq_nI (p := tg f E k) (n := 11) (Nat.lt_trans (tg_lt _ _ _) (by decide)) (by decide)).mpr h9)
        refine ps_st (S' := (32, [], [.int 0], M)) rfl rfl rfl ?_
        exact ps_ret rfl rfl (⟨congrArg (fun x => some (Value.int (nI x))) (show 0 = ismN f E k from by
            unfold ismN
            first | ((repeat first | rw [if_pos (by omega)] | rw [if_neg (by omega)]) <;> first | rfl | omega) | ((repeat' split) <;> first | rfl | (exfalso; omega) | omega)), rfl⟩)
      · have c_24 : ¬ (¬ (nI (tg f E k)) = 11) := of_decide_eq_false c_24
        have n_24 : tg f E k = 11 := (eq_nI (p := tg f E k) (n := 11) (Nat.lt_trans (tg_lt _ _ _) (by decide)) (by decide)).mp (Decidable.not_not.mp c_24)
        refine ps_st (S' := (28, [], [.int 1], M)) rfl rfl rfl ?_
        refine ps_st (S' := (32, [], [.int 1], M)) rfl rfl rfl ?_
        exact ps_ret rfl rfl (⟨congrArg (fun x => some (Value.int (nI x))) (show 1 = ismN f E k from by
            unfold ismN
            first | ((repeat first | rw [if_pos (by omega)] | rw [if_neg (by omega)]) <;> first | rfl | omega) | ((repeat' split) <;> first | rfl | (exfalso; omega) | omega)), rfl⟩)
set_option maxHeartbeats 1000000 in
theorem dk_memberHolds {g : xe_G} {M : mi_H} {f : Nat → Int32} {n N q : Nat} {E : List (Nat × Nat)} {o vd mj : Nat} {k : Nat} (h_o : M.1 o = some (ob 8 [.ref q, .int (nI mj), .ref vd])) (hV : PV g f n N E q M) (hmj : mj < 65536) (hk : k < 65536) : pt (mT g) 152 [.ref o, .int (nI k)] M (fun v M' => (v = some (.int (nI (memN f E k))) ∧ M = M')) := by
  refine pt_in (b := mb_152 g) rfl (fun kf => ?_)
  show pl (mT g) kf (mb_152 g).2 (0, [(0, .ref o), (1, .int (nI k))], [], M) _
  refine ps_st (S' := (1, [(0, .ref o), (1, .int (nI k))], [.ref o], M)) rfl rfl rfl ?_
  refine ps_get (S' := (4, [(0, .ref o), (1, .int (nI k))], [.ref q], M)) rfl h_o rfl rfl ?_
  refine ps_st (S' := (5, [(0, .ref o), (1, .int (nI k))], [.int (nI k), .ref q], M)) rfl rfl rfl ?_
  refine pl_call (a := [.ref q, .int (nI k)]) (rest := []) rfl rfl rfl (dy_firstIndex (f := f) (n := n) (N := N) (q := q) (E := E) (j := k) (hV) (by omega)) (fun v1 M2 q3 => ?_)
  obtain ⟨rfl, rfl⟩ := q3
  show pl _ _ _ (8, [(0, .ref o), (1, .int (nI k))], [.int (nI (fi f E k))], M) _
  refine ps_st (S' := (9, [(2, .int (nI (fi f E k))), (0, .ref o), (1, .int (nI k))], [], M)) rfl rfl rfl ?_
  refine ps_st (S' := (10, [(2, .int (nI (fi f E k))), (0, .ref o), (1, .int (nI k))], [.ref o], M)) rfl rfl rfl ?_
  refine ps_get (S' := (13, [(2, .int (nI (fi f E k))), (0, .ref o), (1, .int (nI k))], [.ref q], M)) rfl h_o rfl rfl ?_
  refine ps_st (S' := (14, [(2, .int (nI (fi f E k))), (0, .ref o), (1, .int (nI k))], [.int (nI (fi f E k)), .ref q], M)) rfl rfl rfl ?_
  refine pl_call (a := [.ref q, .int (nI (fi f E k))]) (rest := []) rfl rfl rfl (dy_tagOf (f := f) (n := n) (N := N) (q := q) (E := E) (j := (fi f E k)) (hV) (fi_lt _ _ _)) (fun v4 M5 q6 => ?_)
  obtain ⟨rfl, rfl⟩ := q6
  show pl _ _ _ (17, [(2, .int (nI (fi f E k))), (0, .ref o), (1, .int (nI k))], [.int (nI (tg f E (fi f E k)))], M) _
  refine ps_st (S' := (19, [(2, .int (nI (fi f E k))), (0, .ref o), (1, .int (nI k))], [.int 7, .int (nI (tg f E (fi f E k)))], M)) rfl rfl rfl ?_
  refine ps_if2 (S1 := (60, [], [], M)) (S2 := (22, [(2, .int (nI (fi f E k))), (0, .ref o), (1, .int (nI k))], [], M)) rfl rfl rfl (fun c_19 => ?_) (fun c_19 => ?_)
  · have c_19 : ¬ (nI (tg f E (fi f E k))) = 7 := of_decide_eq_true c_19
    have n_19 : ¬ (tg f E (fi f E k) = 7) := fun h9 => c_19 ((eq_nI (p := tg f E (fi f E k)) (n := 7) (Nat.lt_trans (tg_lt _ _ _) (by decide)) (by decide)).mpr h9)
    refine ps_st (S' := (61, [], [.int 0], M)) rfl rfl rfl ?_
    exact ps_ret rfl rfl (⟨congrArg (fun x => some (Value.int (nI x))) (show 0 = memN f E k from by
        unfold memN
        first | ((repeat first | rw [if_pos (by omega)] | rw [if_neg (by omega)]) <;> first | rfl | omega) | ((repeat' split) <;> first | rfl | (exfalso; omega) | omega)), rfl⟩)
  · have c_19 : ¬ (¬ (nI (tg f E (fi f E k))) = 7) := of_decide_eq_false c_19
    have n_19 : tg f E (fi f E k) = 7 := (eq_nI (p := tg f E (fi f E k)) (n := 7) (Nat.lt_trans (tg_lt _ _ _) (by decide)) (by decide)).mp (Decidable.not_not.mp c_19)
    refine ps_st (S' := (23, [(2, .int (nI (fi f E k))), (0, .ref o), (1, .int (nI k))], [.ref o], M)) rfl rfl rfl ?_
    refine ps_get (S' := (26, [(2, .int (nI (fi f E k))), (0, .ref o), (1, .int (nI k))], [.ref q], M)) rfl h_o rfl rfl ?_
    refine ps_st (S' := (27, [(2, .int (nI (fi f E k))), (0, .ref o), (1, .int (nI k))], [.ref o, .ref q], M)) rfl rfl rfl ?_
    refine ps_get (S' := (30, [(2, .int (nI (fi f E k))), (0, .ref o), (1, .int (nI k))], [.ref q, .ref q], M)) rfl h_o rfl rfl ?_
    refine ps_st (S' := (31, [(2, .int (nI (fi f E k))), (0, .ref o), (1, .int (nI k))], [.int (nI (fi f E k)), .ref q, .ref q], M)) rfl rfl rfl ?_
    refine pl_call (a := [.ref q, .int (nI (fi f E k))]) (rest := [.ref q]) rfl rfl rfl (dy_firstIndex (f := f) (n := n) (N := N) (q := q) (E := E) (j := (fi f E k)) (hV) (fi_lt _ _ _)) (fun v7 M8 q9 => ?_)
    obtain ⟨rfl, rfl⟩ := q9
    show pl _ _ _ (34, [(2, .int (nI (fi f E k))), (0, .ref o), (1, .int (nI k))], [.int (nI (fi f E (fi f E k))), .ref q], M) _
    refine pl_call (a := [.ref q, .int (nI (fi f E (fi f E k)))]) (rest := []) rfl rfl rfl (dy_tagOf (f := f) (n := n) (N := N) (q := q) (E := E) (j := (fi f E (fi f E k))) (hV) (fi_lt _ _ _)) (fun v10 M11 q12 => ?_)
    obtain ⟨rfl, rfl⟩ := q12
    show pl _ _ _ (37, [(2, .int (nI (fi f E k))), (0, .ref o), (1, .int (nI k))], [.int (nI (tg f E (fi f E (fi f E k))))], M) _
    refine ps_st (S' := (38, [(2, .int (nI (fi f E k))), (0, .ref o), (1, .int (nI k))], [.int 1, .int (nI (tg f E (fi f E (fi f E k))))], M)) rfl rfl rfl ?_
    refine ps_if2 (S1 := (60, [], [], M)) (S2 := (41, [(2, .int (nI (fi f E k))), (0, .ref o), (1, .int (nI k))], [], M)) rfl rfl rfl (fun c_38 => ?_) (fun c_38 => ?_)
    · have c_38 : ¬ (nI (tg f E (fi f E (fi f E k)))) = 1 := of_decide_eq_true c_38
      have n_38 : ¬ (tg f E (fi f E (fi f E k)) = 1) := fun h9 => c_38 ((eq_nI (p := tg f E (fi f E (fi f E k))) (n := 1) (Nat.lt_trans (tg_lt _ _ _) (by decide)) (by decide)).mpr h9)
      refine ps_st (S' := (61, [], [.int 0], M)) rfl rfl rfl ?_
      exact ps_ret rfl rfl (⟨congrArg (fun x => some (Value.int (nI x))) (show 0 = memN f E k from by
          unfold memN
          first | ((repeat first | rw [if_pos (by omega)] | rw [if_neg (by omega)]) <;> first | rfl | omega) | ((repeat' split) <;> first | rfl | (exfalso; omega) | omega)), rfl⟩)
    · have c_38 : ¬ (¬ (nI (tg f E (fi f E (fi f E k)))) = 1) := of_decide_eq_false c_38
      have n_38 : tg f E (fi f E (fi f E k)) = 1 := (eq_nI (p := tg f E (fi f E (fi f E k))) (n := 1) (Nat.lt_trans (tg_lt _ _ _) (by decide)) (by decide)).mp (Decidable.not_not.mp c_38)
      refine ps_st (S' := (42, [(2, .int (nI (fi f E k))), (0, .ref o), (1, .int (nI k))], [.ref o], M)) rfl rfl rfl ?_
      refine ps_st (S' := (43, [(2, .int (nI (fi f E k))), (0, .ref o), (1, .int (nI k))], [.ref o, .ref o], M)) rfl rfl rfl ?_
      refine ps_get (S' := (46, [(2, .int (nI (fi f E k))), (0, .ref o), (1, .int (nI k))], [.ref q, .ref o], M)) rfl h_o rfl rfl ?_
      refine ps_st (S' := (47, [(2, .int (nI (fi f E k))), (0, .ref o), (1, .int (nI k))], [.int (nI k), .ref q, .ref o], M)) rfl rfl rfl ?_
      refine pl_call (a := [.ref q, .int (nI k)]) (rest := [.ref o]) rfl rfl rfl (dy_secondIndex (f := f) (n := n) (N := N) (q := q) (E := E) (j := k) (hV) (by omega)) (fun v13 M14 q15 => ?_)
      obtain ⟨rfl, rfl⟩ := q15
      show pl _ _ _ (50, [(2, .int (nI (fi f E k))), (0, .ref o), (1, .int (nI k))], [.int (nI (se f E k)), .ref o], M) _
      refine pl_call (a := [.ref o, .int (nI (se f E k))]) (rest := []) rfl rfl rfl (dk_pairHolds (f := f) (n := n) (N := N) (q := q) (E := E) (o := o) (vd := vd) (mj := mj) (k := (se f E k)) h_o (hV) (hmj) (se_lt _ _ _)) (fun v16 M17 q18 => ?_)
      obtain ⟨rfl, rfl⟩ := q18
      show pl _ _ _ (53, [(2, .int (nI (fi f E k))), (0, .ref o), (1, .int (nI k))], [.int (nI (pairN f E (se f E k)))], M) _
      refine ps_if (S1 := (60, [], [], M)) (S2 := (56, [(2, .int (nI (fi f E k))), (0, .ref o), (1, .int (nI k))], [], M)) rfl rfl rfl (fun c_53 => ?_) (fun c_53 => ?_)
      · have c_53 : (nI (pairN f E (se f E k))) = 0 := of_decide_eq_true c_53
        have n_53 : pairN f E (se f E k) = 0 := (eq_nI (p := pairN f E (se f E k)) (n := 0) (Nat.lt_trans (le1_pair _ _ _) (by decide)) (by decide)).mp c_53
        refine ps_st (S' := (61, [], [.int 0], M)) rfl rfl rfl ?_
        exact ps_ret rfl rfl (⟨congrArg (fun x => some (Value.int (nI x))) (show 0 = memN f E k from by
            unfold memN
            first | ((repeat first | rw [if_pos (by omega)] | rw [if_neg (by omega)]) <;> first | rfl | omega) | ((repeat' split) <;> first | rfl | (exfalso; omega) | omega)), rfl⟩)
      · have c_53 : ¬ ((nI (pairN f E (se f E k))) = 0) := of_decide_eq_false c_53
        have n_53 : ¬ (pairN f E (se f E k) = 0) := fun h9 => c_53 ((eq_nI (p := pairN f E (se f E k)) (n := 0) (Nat.lt_trans (le1_pair _ _ _) (by decide)) (by decide)).mpr h9)
        refine ps_st (S' := (57, [(2, .int (nI (fi f E k))), (0, .ref o), (1, .int (nI k))], [.int 1], M)) rfl rfl rfl ?_
        refine ps_st (S' := (61, [], [.int 1], M)) rfl rfl rfl ?_
        exact ps_ret rfl rfl (⟨congrArg (fun x => some (Value.int (nI x))) (show 1 = memN f E k from by
            unfold memN
            first | ((repeat first | rw [if_pos (by omega)] | rw [if_neg (by omega)]) <;> first | rfl | omega) | ((repeat' split) <;> first | rfl | (exfalso; omega) | omega)), rfl⟩)
set_option maxHeartbeats 1000000 in
theorem dk_linksHold {g : xe_G} {M : mi_H} {f : Nat → Int32} {n N q : Nat} {E : List (Nat × Nat)} {o vd mj : Nat} {k : Nat} (h_o : M.1 o = some (ob 8 [.ref q, .int (nI mj), .ref vd])) (hV : PV g f n N E q M) (hmj : mj < 65536) (hk : k < 65536) : pt (mT g) 151 [.ref o, .int (nI k)] M (fun v M' => (v = some (.int (nI (lnkN f E k))) ∧ M = M')) := by
  refine pt_in (b := mb_151 g) rfl (fun kf => ?_)
  show pl (mT g) kf (mb_151 g).2 (0, [(0, .ref o), (1, .int (nI k))], [], M) _
  refine ps_st (S' := (1, [(0, .ref o), (1, .int (nI k))], [.ref o], M)) rfl rfl rfl ?_
  refine ps_get (S' := (4, [(0, .ref o), (1, .int (nI k))], [.ref q], M)) rfl h_o rfl rfl ?_
  refine ps_st (S' := (5, [(0, .ref o), (1, .int (nI k))], [.int (nI k), .ref q], M)) rfl rfl rfl ?_
  refine pl_call (a := [.ref q, .int (nI k)]) (rest := []) rfl rfl rfl (dy_tagOf (f := f) (n := n) (N := N) (q := q) (E := E) (j := k) (hV) (by omega)) (fun v1 M2 q3 => ?_)
  obtain ⟨rfl, rfl⟩ := q3
  show pl _ _ _ (8, [(0, .ref o), (1, .int (nI k))], [.int (nI (tg f E k))], M) _
  refine pl_sw rfl (fun t_8 et_8 => ?_)
  have ht_8 : t_8 ∈ [80, 105, 111, 117, 159, 172] := mi_sw_sub et_8 (by decide)
  simp only [List.mem_cons, List.not_mem_nil, or_false] at ht_8
  rcases ht_8 with rfl | rfl | rfl | rfl | rfl | rfl
  · show pl _ _ _ (80, [(0, .ref o), (1, .int (nI k))], [], M) _
    have m_8 := sw_nat (t := tg f E k) (Nat.lt_trans (tg_lt _ _ _) (by decide)) et_8
    simp at m_8
    refine ps_st (S' := (81, [(0, .ref o), (1, .int (nI k))], [.ref o], M)) rfl rfl rfl ?_
    refine ps_get (S' := (84, [(0, .ref o), (1, .int (nI k))], [.ref q], M)) rfl h_o rfl rfl ?_
    refine ps_st (S' := (85, [(0, .ref o), (1, .int (nI k))], [.ref o, .ref q], M)) rfl rfl rfl ?_
    refine ps_get (S' := (88, [(0, .ref o), (1, .int (nI k))], [.ref q, .ref q], M)) rfl h_o rfl rfl ?_
    refine ps_st (S' := (89, [(0, .ref o), (1, .int (nI k))], [.int (nI k), .ref q, .ref q], M)) rfl rfl rfl ?_
    refine pl_call (a := [.ref q, .int (nI k)]) (rest := [.ref q]) rfl rfl rfl (dy_firstIndex (f := f) (n := n) (N := N) (q := q) (E := E) (j := k) (hV) (by omega)) (fun v4 M5 q6 => ?_)
    obtain ⟨rfl, rfl⟩ := q6
    show pl _ _ _ (92, [(0, .ref o), (1, .int (nI k))], [.int (nI (fi f E k)), .ref q], M) _
    refine pl_call (a := [.ref q, .int (nI (fi f E k))]) (rest := []) rfl rfl rfl (dy_tagOf (f := f) (n := n) (N := N) (q := q) (E := E) (j := (fi f E k)) (hV) (fi_lt _ _ _)) (fun v7 M8 q9 => ?_)
    obtain ⟨rfl, rfl⟩ := q9
    show pl _ _ _ (95, [(0, .ref o), (1, .int (nI k))], [.int (nI (tg f E (fi f E k)))], M) _
    refine ps_st (S' := (96, [(0, .ref o), (1, .int (nI k))], [.int 1, .int (nI (tg f E (fi f E k)))], M)) rfl rfl rfl ?_
    refine ps_if2 (S1 := (103, [(0, .ref o), (1, .int (nI k))], [], M)) (S2 := (99, [(0, .ref o), (1, .int (nI k))], [], M)) rfl rfl rfl (fun c_96 => ?_) (fun c_96 => ?_)
    · have c_96 : ¬ (nI (tg f E (fi f E k))) = 1 := of_decide_eq_true c_96
      have n_96 : ¬ (tg f E (fi f E k) = 1) := fun h9 => c_96 ((eq_nI (p := tg f E (fi f E k)) (n := 1) (Nat.lt_trans (tg_lt _ _ _) (by decide)) (by decide)).mpr h9)
      refine ps_st (S' := (104, [], [.int 0], M)) rfl rfl rfl ?_
      exact ps_ret rfl rfl (⟨congrArg (fun x => some (Value.int (nI x))) (show 0 = lnkN f E k from by
          unfold lnkN
          first | ((repeat first | rw [if_pos (by omega)] | rw [if_neg (by omega)]) <;> first | rfl | omega) | ((repeat' split) <;> first | rfl | (exfalso; omega) | omega)), rfl⟩)
    · have c_96 : ¬ (¬ (nI (tg f E (fi f E k))) = 1) := of_decide_eq_false c_96
      have n_96 : tg f E (fi f E k) = 1 := (eq_nI (p := tg f E (fi f E k)) (n := 1) (Nat.lt_trans (tg_lt _ _ _) (by decide)) (by decide)).mp (Decidable.not_not.mp c_96)
      refine ps_st (S' := (100, [(0, .ref o), (1, .int (nI k))], [.int 1], M)) rfl rfl rfl ?_
      refine ps_st (S' := (104, [], [.int 1], M)) rfl rfl rfl ?_
      exact ps_ret rfl rfl (⟨congrArg (fun x => some (Value.int (nI x))) (show 1 = lnkN f E k from by
          unfold lnkN
          first | ((repeat first | rw [if_pos (by omega)] | rw [if_neg (by omega)]) <;> first | rfl | omega) | ((repeat' split) <;> first | rfl | (exfalso; omega) | omega)), rfl⟩)
  · show pl _ _ _ (105, [(0, .ref o), (1, .int (nI k))], [], M) _
    have m_8 := sw_nat (t := tg f E k) (Nat.lt_trans (tg_lt _ _ _) (by decide)) et_8
    simp at m_8
    refine ps_st (S' := (106, [(0, .ref o), (1, .int (nI k))], [.ref o], M)) rfl rfl rfl ?_
    refine ps_st (S' := (107, [(0, .ref o), (1, .int (nI k))], [.int (nI k), .ref o], M)) rfl rfl rfl ?_
    refine pl_call (a := [.ref o, .int (nI k)]) (rest := []) rfl rfl rfl (dk_pairHolds (f := f) (n := n) (N := N) (q := q) (E := E) (o := o) (vd := vd) (mj := mj) (k := k) h_o (hV) (hmj) (by omega)) (fun v10 M11 q12 => ?_)
    obtain ⟨rfl, rfl⟩ := q12
    show pl _ _ _ (110, [(0, .ref o), (1, .int (nI k))], [.int (nI (pairN f E k))], M) _
    exact ps_reti rfl (⟨congrArg (fun x => some (Value.int (nI x))) (show pairN f E k = lnkN f E k from by
        unfold lnkN
        first | ((repeat first | rw [if_pos (by omega)] | rw [if_neg (by omega)]) <;> first | rfl | omega) | ((repeat' split) <;> first | rfl | (exfalso; omega) | omega)), rfl⟩)
  · show pl _ _ _ (111, [(0, .ref o), (1, .int (nI k))], [], M) _
    have m_8 := sw_nat (t := tg f E k) (Nat.lt_trans (tg_lt _ _ _) (by decide)) et_8
    simp at m_8
    refine ps_st (S' := (112, [(0, .ref o), (1, .int (nI k))], [.ref o], M)) rfl rfl rfl ?_
    refine ps_st (S' := (113, [(0, .ref o), (1, .int (nI k))], [.int (nI k), .ref o], M)) rfl rfl rfl ?_
    refine pl_call (a := [.ref o, .int (nI k)]) (rest := []) rfl rfl rfl (dk_memberHolds (f := f) (n := n) (N := N) (q := q) (E := E) (o := o) (vd := vd) (mj := mj) (k := k) h_o (hV) (hmj) (by omega)) (fun v13 M14 q15 => ?_)
    obtain ⟨rfl, rfl⟩ := q15
    show pl _ _ _ (116, [(0, .ref o), (1, .int (nI k))], [.int (nI (memN f E k))], M) _
    exact ps_reti rfl (⟨congrArg (fun x => some (Value.int (nI x))) (show memN f E k = lnkN f E k from by
        unfold lnkN
        first | ((repeat first | rw [if_pos (by omega)] | rw [if_neg (by omega)]) <;> first | rfl | omega) | ((repeat' split) <;> first | rfl | (exfalso; omega) | omega)), rfl⟩)
  · show pl _ _ _ (117, [(0, .ref o), (1, .int (nI k))], [], M) _
    have m_8 := sw_nat (t := tg f E k) (Nat.lt_trans (tg_lt _ _ _) (by decide)) et_8
    simp at m_8
    refine ps_st (S' := (118, [(0, .ref o), (1, .int (nI k))], [.ref o], M)) rfl rfl rfl ?_
    refine ps_get (S' := (121, [(0, .ref o), (1, .int (nI k))], [.ref q], M)) rfl h_o rfl rfl ?_
    refine ps_st (S' := (122, [(0, .ref o), (1, .int (nI k))], [.int (nI k), .ref q], M)) rfl rfl rfl ?_
    refine pl_call (a := [.ref q, .int (nI k)]) (rest := []) rfl rfl rfl (dy_secondIndex (f := f) (n := n) (N := N) (q := q) (E := E) (j := k) (hV) (by omega)) (fun v16 M17 q18 => ?_)
    obtain ⟨rfl, rfl⟩ := q18
    show pl _ _ _ (125, [(0, .ref o), (1, .int (nI k))], [.int (nI (se f E k))], M) _
    refine ps_st (S' := (126, [(2, .int (nI (se f E k))), (0, .ref o), (1, .int (nI k))], [], M)) rfl rfl rfl ?_
    refine ps_st (S' := (127, [(2, .int (nI (se f E k))), (0, .ref o), (1, .int (nI k))], [.ref o], M)) rfl rfl rfl ?_
    refine ps_st (S' := (128, [(2, .int (nI (se f E k))), (0, .ref o), (1, .int (nI k))], [.int (nI (se f E k)), .ref o], M)) rfl rfl rfl ?_
    refine pl_call (a := [.ref o, .int (nI (se f E k))]) (rest := []) rfl rfl rfl (dk_isMember (f := f) (n := n) (N := N) (q := q) (E := E) (o := o) (vd := vd) (mj := mj) (k := (se f E k)) h_o (hV) (hmj) (se_lt _ _ _)) (fun v19 M20 q21 => ?_)
    obtain ⟨rfl, rfl⟩ := q21
    show pl _ _ _ (131, [(2, .int (nI (se f E k))), (0, .ref o), (1, .int (nI k))], [.int (nI (ismN f E (se f E k)))], M) _
    refine ps_if (S1 := (142, [(2, .int (nI (se f E k))), (0, .ref o), (1, .int (nI k))], [], M)) (S2 := (134, [(2, .int (nI (se f E k))), (0, .ref o), (1, .int (nI k))], [], M)) rfl rfl rfl (fun c_131 => ?_) (fun c_131 => ?_)
    · have c_131 : (nI (ismN f E (se f E k))) = 0 := of_decide_eq_true c_131
      have n_131 : ismN f E (se f E k) = 0 := (eq_nI (p := ismN f E (se f E k)) (n := 0) (Nat.lt_trans (le1_ism _ _ _) (by decide)) (by decide)).mp c_131
      refine ps_st (S' := (143, [(2, .int (nI (se f E k))), (0, .ref o), (1, .int (nI k))], [.ref o], M)) rfl rfl rfl ?_
      refine ps_get (S' := (146, [(2, .int (nI (se f E k))), (0, .ref o), (1, .int (nI k))], [.ref q], M)) rfl h_o rfl rfl ?_
      refine ps_st (S' := (147, [(2, .int (nI (se f E k))), (0, .ref o), (1, .int (nI k))], [.int (nI (se f E k)), .ref q], M)) rfl rfl rfl ?_
      refine pl_call (a := [.ref q, .int (nI (se f E k))]) (rest := []) rfl rfl rfl (dy_tagOf (f := f) (n := n) (N := N) (q := q) (E := E) (j := (se f E k)) (hV) (se_lt _ _ _)) (fun v22 M23 q24 => ?_)
      obtain ⟨rfl, rfl⟩ := q24
      show pl _ _ _ (150, [(2, .int (nI (se f E k))), (0, .ref o), (1, .int (nI k))], [.int (nI (tg f E (se f E k)))], M) _
      refine ps_if (S1 := (157, [(2, .int (nI (se f E k))), (0, .ref o), (1, .int (nI k))], [], M)) (S2 := (153, [(2, .int (nI (se f E k))), (0, .ref o), (1, .int (nI k))], [], M)) rfl rfl rfl (fun c_150 => ?_) (fun c_150 => ?_)
      · have c_150 : (nI (tg f E (se f E k))) = 0 := of_decide_eq_true c_150
        have n_150 : tg f E (se f E k) = 0 := (eq_nI (p := tg f E (se f E k)) (n := 0) (Nat.lt_trans (tg_lt _ _ _) (by decide)) (by decide)).mp c_150
        refine ps_st (S' := (158, [], [.int 0], M)) rfl rfl rfl ?_
        exact ps_ret rfl rfl (⟨congrArg (fun x => some (Value.int (nI x))) (show 0 = lnkN f E k from by
            unfold lnkN
            first | ((repeat first | rw [if_pos (by omega)] | rw [if_neg (by omega)]) <;> first | rfl | omega) | ((repeat' split) <;> first | rfl | (exfalso; omega) | omega)), rfl⟩)
      · have c_150 : ¬ ((nI (tg f E (se f E k))) = 0) := of_decide_eq_false c_150
        have n_150 : ¬ (tg f E (se f E k) = 0) := fun h9 => c_150 ((eq_nI (p := tg f E (se f E k)) (n := 0) (Nat.lt_trans (tg_lt _ _ _) (by decide)) (by decide)).mpr h9)
        refine ps_st (S' := (154, [(2, .int (nI (se f E k))), (0, .ref o), (1, .int (nI k))], [.int 1], M)) rfl rfl rfl ?_
        refine ps_st (S' := (158, [], [.int 1], M)) rfl rfl rfl ?_
        exact ps_ret rfl rfl (⟨congrArg (fun x => some (Value.int (nI x))) (show 1 = lnkN f E k from by
            unfold lnkN
            first | ((repeat first | rw [if_pos (by omega)] | rw [if_neg (by omega)]) <;> first | rfl | omega) | ((repeat' split) <;> first | rfl | (exfalso; omega) | omega)), rfl⟩)
    · have c_131 : ¬ ((nI (ismN f E (se f E k))) = 0) := of_decide_eq_false c_131
      have n_131 : ¬ (ismN f E (se f E k) = 0) := fun h9 => c_131 ((eq_nI (p := ismN f E (se f E k)) (n := 0) (Nat.lt_trans (le1_ism _ _ _) (by decide)) (by decide)).mpr h9)
      refine ps_st (S' := (135, [(2, .int (nI (se f E k))), (0, .ref o), (1, .int (nI k))], [.ref o], M)) rfl rfl rfl ?_
      refine ps_st (S' := (136, [(2, .int (nI (se f E k))), (0, .ref o), (1, .int (nI k))], [.int (nI (se f E k)), .ref o], M)) rfl rfl rfl ?_
      refine pl_call (a := [.ref o, .int (nI (se f E k))]) (rest := []) rfl rfl rfl (dk_memberHolds (f := f) (n := n) (N := N) (q := q) (E := E) (o := o) (vd := vd) (mj := mj) (k := (se f E k)) h_o (hV) (hmj) (se_lt _ _ _)) (fun v25 M26 q27 => ?_)
      obtain ⟨rfl, rfl⟩ := q27
      show pl _ _ _ (139, [(2, .int (nI (se f E k))), (0, .ref o), (1, .int (nI k))], [.int (nI (memN f E (se f E k)))], M) _
      refine ps_st (S' := (158, [], [.int (nI (memN f E (se f E k)))], M)) rfl rfl rfl ?_
      exact ps_reti rfl (⟨congrArg (fun x => some (Value.int (nI x))) (show memN f E (se f E k) = lnkN f E k from by
          unfold lnkN
          first | ((repeat first | rw [if_pos (by omega)] | rw [if_neg (by omega)]) <;> first | rfl | omega) | ((repeat' split) <;> first | rfl | (exfalso; omega) | omega)), rfl⟩)
  · show pl _ _ _ (159, [(0, .ref o), (1, .int (nI k))], [], M) _
    have m_8 := sw_nat (t := tg f E k) (Nat.lt_trans (tg_lt _ _ _) (by decide)) et_8
    simp at m_8
    refine ps_st (S' := (160, [(0, .ref o), (1, .int (nI k))], [.ref o], M)) rfl rfl rfl ?_
    refine ps_st (S' := (161, [(0, .ref o), (1, .int (nI k))], [.ref o, .ref o], M)) rfl rfl rfl ?_
    refine ps_get (S' := (164, [(0, .ref o), (1, .int (nI k))], [.ref q, .ref o], M)) rfl h_o rfl rfl ?_
    refine ps_st (S' := (165, [(0, .ref o), (1, .int (nI k))], [.int (nI k), .ref q, .ref o], M)) rfl rfl rfl ?_
    refine pl_call (a := [.ref q, .int (nI k)]) (rest := [.ref o]) rfl rfl rfl (dy_secondIndex (f := f) (n := n) (N := N) (q := q) (E := E) (j := k) (hV) (by omega)) (fun v28 M29 q30 => ?_)
    obtain ⟨rfl, rfl⟩ := q30
    show pl _ _ _ (168, [(0, .ref o), (1, .int (nI k))], [.int (nI (se f E k)), .ref o], M) _
    refine pl_call (a := [.ref o, .int (nI (se f E k))]) (rest := []) rfl rfl rfl (dk_pairHolds (f := f) (n := n) (N := N) (q := q) (E := E) (o := o) (vd := vd) (mj := mj) (k := (se f E k)) h_o (hV) (hmj) (se_lt _ _ _)) (fun v31 M32 q33 => ?_)
    obtain ⟨rfl, rfl⟩ := q33
    show pl _ _ _ (171, [(0, .ref o), (1, .int (nI k))], [.int (nI (pairN f E (se f E k)))], M) _
    exact ps_reti rfl (⟨congrArg (fun x => some (Value.int (nI x))) (show pairN f E (se f E k) = lnkN f E k from by
        unfold lnkN
        first | ((repeat first | rw [if_pos (by omega)] | rw [if_neg (by omega)]) <;> first | rfl | omega) | ((repeat' split) <;> first | rfl | (exfalso; omega) | omega)), rfl⟩)
  · show pl _ _ _ (172, [(0, .ref o), (1, .int (nI k))], [], M) _
    have m_8 := sw_nat (t := tg f E k) (Nat.lt_trans (tg_lt _ _ _) (by decide)) et_8
    simp at m_8
    refine ps_st (S' := (173, [(0, .ref o), (1, .int (nI k))], [.int 1], M)) rfl rfl rfl ?_
    exact ps_ret rfl rfl (⟨congrArg (fun x => some (Value.int (nI x))) (show 1 = lnkN f E k from by
        unfold lnkN
        first | ((repeat first | rw [if_pos (by omega)] | rw [if_neg (by omega)]) <;> first | rfl | omega) | ((repeat' split) <;> first | rfl | (exfalso; omega) | omega)), rfl⟩)
set_option maxHeartbeats 1000000 in
theorem dk_isNameWithType {g : xe_G} {M : mi_H} {f : Nat → Int32} {n N q : Nat} {E : List (Nat × Nat)} {o vd mj : Nat} {k : Nat} (h_o : M.1 o = some (ob 8 [.ref q, .int (nI mj), .ref vd])) (hV : PV g f n N E q M) (hmj : mj < 65536) (hk : k < 65536) : pt (mT g) 150 [.ref o, .int (nI k)] M (fun v M' => (v = some (.int (nI (nwtN f n E k))) ∧ M = M')) := by
  refine pt_in (b := mb_150 g) rfl (fun kf => ?_)
  show pl (mT g) kf (mb_150 g).2 (0, [(0, .ref o), (1, .int (nI k))], [], M) _
  refine ps_st (S' := (1, [(0, .ref o), (1, .int (nI k))], [.ref o], M)) rfl rfl rfl ?_
  refine ps_get (S' := (4, [(0, .ref o), (1, .int (nI k))], [.ref q], M)) rfl h_o rfl rfl ?_
  refine ps_st (S' := (5, [(0, .ref o), (1, .int (nI k))], [.int (nI k), .ref q], M)) rfl rfl rfl ?_
  refine pl_call (a := [.ref q, .int (nI k)]) (rest := []) rfl rfl rfl (dy_secondIndex (f := f) (n := n) (N := N) (q := q) (E := E) (j := k) (hV) (by omega)) (fun v1 M2 q3 => ?_)
  obtain ⟨rfl, rfl⟩ := q3
  show pl _ _ _ (8, [(0, .ref o), (1, .int (nI k))], [.int (nI (se f E k))], M) _
  refine ps_st (S' := (9, [(2, .int (nI (se f E k))), (0, .ref o), (1, .int (nI k))], [], M)) rfl rfl rfl ?_
  refine ps_st (S' := (10, [(2, .int (nI (se f E k))), (0, .ref o), (1, .int (nI k))], [.ref o], M)) rfl rfl rfl ?_
  refine ps_get (S' := (13, [(2, .int (nI (se f E k))), (0, .ref o), (1, .int (nI k))], [.ref q], M)) rfl h_o rfl rfl ?_
  refine ps_st (S' := (14, [(2, .int (nI (se f E k))), (0, .ref o), (1, .int (nI k))], [.ref o, .ref q], M)) rfl rfl rfl ?_
  refine ps_get (S' := (17, [(2, .int (nI (se f E k))), (0, .ref o), (1, .int (nI k))], [.ref q, .ref q], M)) rfl h_o rfl rfl ?_
  refine ps_st (S' := (18, [(2, .int (nI (se f E k))), (0, .ref o), (1, .int (nI k))], [.int (nI k), .ref q, .ref q], M)) rfl rfl rfl ?_
  refine pl_call (a := [.ref q, .int (nI k)]) (rest := [.ref q]) rfl rfl rfl (dy_firstIndex (f := f) (n := n) (N := N) (q := q) (E := E) (j := k) (hV) (by omega)) (fun v4 M5 q6 => ?_)
  obtain ⟨rfl, rfl⟩ := q6
  show pl _ _ _ (21, [(2, .int (nI (se f E k))), (0, .ref o), (1, .int (nI k))], [.int (nI (fi f E k)), .ref q], M) _
  refine pl_call (a := [.ref q, .int (nI (fi f E k))]) (rest := []) rfl rfl rfl (dy_isUnqualifiedName (f := f) (n := n) (N := N) (q := q) (E := E) (j := (fi f E k)) (hV) (fi_lt _ _ _)) (fun v7 M8 q9 => ?_)
  obtain ⟨rfl, rfl⟩ := q9
  show pl _ _ _ (24, [(2, .int (nI (se f E k))), (0, .ref o), (1, .int (nI k))], [.int (nI (unqN (tX f n E (fi f E k))))], M) _
  refine ps_if (S1 := (53, [], [], M)) (S2 := (27, [(2, .int (nI (se f E k))), (0, .ref o), (1, .int (nI k))], [], M)) rfl rfl rfl (fun c_24 => ?_) (fun c_24 => ?_)
  · have c_24 : (nI (unqN (tX f n E (fi f E k)))) = 0 := of_decide_eq_true c_24
    have n_24 : unqN (tX f n E (fi f E k)) = 0 := (eq_nI (p := unqN (tX f n E (fi f E k))) (n := 0) (Nat.lt_trans (le1_unq _) (by decide)) (by decide)).mp c_24
    refine ps_st (S' := (54, [], [.int 0], M)) rfl rfl rfl ?_
    exact ps_ret rfl rfl (⟨congrArg (fun x => some (Value.int (nI x))) (show 0 = nwtN f n E k from by
        unfold nwtN
        first | ((repeat first | rw [if_pos (by omega)] | rw [if_neg (by omega)]) <;> first | rfl | omega) | ((repeat' split) <;> first | rfl | (exfalso; omega) | omega)), rfl⟩)
  · have c_24 : ¬ ((nI (unqN (tX f n E (fi f E k)))) = 0) := of_decide_eq_false c_24
    have n_24 : ¬ (unqN (tX f n E (fi f E k)) = 0) := fun h9 => c_24 ((eq_nI (p := unqN (tX f n E (fi f E k))) (n := 0) (Nat.lt_trans (le1_unq _) (by decide)) (by decide)).mpr h9)
    refine ps_st (S' := (28, [(2, .int (nI (se f E k))), (0, .ref o), (1, .int (nI k))], [.ref o], M)) rfl rfl rfl ?_
    refine ps_get (S' := (31, [(2, .int (nI (se f E k))), (0, .ref o), (1, .int (nI k))], [.ref q], M)) rfl h_o rfl rfl ?_
    refine ps_st (S' := (32, [(2, .int (nI (se f E k))), (0, .ref o), (1, .int (nI k))], [.int (nI (se f E k)), .ref q], M)) rfl rfl rfl ?_
    refine pl_call (a := [.ref q, .int (nI (se f E k))]) (rest := []) rfl rfl rfl (dy_isFieldDescriptor (f := f) (n := n) (N := N) (q := q) (E := E) (j := (se f E k)) (hV) (se_lt _ _ _)) (fun v10 M11 q12 => ?_)
    obtain ⟨rfl, rfl⟩ := q12
    show pl _ _ _ (35, [(2, .int (nI (se f E k))), (0, .ref o), (1, .int (nI k))], [.int (nI (fldN (tX f n E (se f E k))))], M) _
    refine ps_if (S1 := (49, [], [], M)) (S2 := (38, [(2, .int (nI (se f E k))), (0, .ref o), (1, .int (nI k))], [], M)) rfl rfl rfl (fun c_35 => ?_) (fun c_35 => ?_)
    · have c_35 : ¬ (nI (fldN (tX f n E (se f E k)))) = 0 := of_decide_eq_true c_35
      have n_35 : ¬ (fldN (tX f n E (se f E k)) = 0) := fun h9 => c_35 ((eq_nI (p := fldN (tX f n E (se f E k))) (n := 0) (Nat.lt_trans (le1_fld _) (by decide)) (by decide)).mpr h9)
      refine ps_st (S' := (50, [], [.int 1], M)) rfl rfl rfl ?_
      refine ps_st (S' := (54, [], [.int 1], M)) rfl rfl rfl ?_
      exact ps_ret rfl rfl (⟨congrArg (fun x => some (Value.int (nI x))) (show 1 = nwtN f n E k from by
          unfold nwtN
          first | ((repeat first | rw [if_pos (by omega)] | rw [if_neg (by omega)]) <;> first | rfl | omega) | ((repeat' split) <;> first | rfl | (exfalso; omega) | omega)), rfl⟩)
    · have c_35 : ¬ (¬ (nI (fldN (tX f n E (se f E k)))) = 0) := of_decide_eq_false c_35
      have n_35 : fldN (tX f n E (se f E k)) = 0 := (eq_nI (p := fldN (tX f n E (se f E k))) (n := 0) (Nat.lt_trans (le1_fld _) (by decide)) (by decide)).mp (Decidable.not_not.mp c_35)
      refine ps_st (S' := (39, [(2, .int (nI (se f E k))), (0, .ref o), (1, .int (nI k))], [.ref o], M)) rfl rfl rfl ?_
      refine ps_get (S' := (42, [(2, .int (nI (se f E k))), (0, .ref o), (1, .int (nI k))], [.ref q], M)) rfl h_o rfl rfl ?_
      refine ps_st (S' := (43, [(2, .int (nI (se f E k))), (0, .ref o), (1, .int (nI k))], [.int (nI (se f E k)), .ref q], M)) rfl rfl rfl ?_
      refine pl_call (a := [.ref q, .int (nI (se f E k))]) (rest := []) rfl rfl rfl (dy_isMethodDescriptor (f := f) (n := n) (N := N) (q := q) (E := E) (j := (se f E k)) (hV) (se_lt _ _ _)) (fun v13 M14 q15 => ?_)
      obtain ⟨rfl, rfl⟩ := q15
      show pl _ _ _ (46, [(2, .int (nI (se f E k))), (0, .ref o), (1, .int (nI k))], [.int (nI (mthN (tX f n E (se f E k))))], M) _
      refine ps_if (S1 := (53, [], [], M)) (S2 := (49, [], [], M)) rfl rfl rfl (fun c_46 => ?_) (fun c_46 => ?_)
      · have c_46 : (nI (mthN (tX f n E (se f E k)))) = 0 := of_decide_eq_true c_46
        have n_46 : mthN (tX f n E (se f E k)) = 0 := (eq_nI (p := mthN (tX f n E (se f E k))) (n := 0) (Nat.lt_trans (le1_mth _) (by decide)) (by decide)).mp c_46
        refine ps_st (S' := (54, [], [.int 0], M)) rfl rfl rfl ?_
        exact ps_ret rfl rfl (⟨congrArg (fun x => some (Value.int (nI x))) (show 0 = nwtN f n E k from by
            unfold nwtN
            first | ((repeat first | rw [if_pos (by omega)] | rw [if_neg (by omega)]) <;> first | rfl | omega) | ((repeat' split) <;> first | rfl | (exfalso; omega) | omega)), rfl⟩)
      · have c_46 : ¬ ((nI (mthN (tX f n E (se f E k)))) = 0) := of_decide_eq_false c_46
        have n_46 : ¬ (mthN (tX f n E (se f E k)) = 0) := fun h9 => c_46 ((eq_nI (p := mthN (tX f n E (se f E k))) (n := 0) (Nat.lt_trans (le1_mth _) (by decide)) (by decide)).mpr h9)
        refine ps_st (S' := (50, [], [.int 1], M)) rfl rfl rfl ?_
        refine ps_st (S' := (54, [], [.int 1], M)) rfl rfl rfl ?_
        exact ps_ret rfl rfl (⟨congrArg (fun x => some (Value.int (nI x))) (show 1 = nwtN f n E k from by
            unfold nwtN
            first | ((repeat first | rw [if_pos (by omega)] | rw [if_neg (by omega)]) <;> first | rfl | omega) | ((repeat' split) <;> first | rfl | (exfalso; omega) | omega)), rfl⟩)
set_option maxHeartbeats 1000000 in
theorem dk_isMethodRef {g : xe_G} {M : mi_H} {f : Nat → Int32} {n N q : Nat} {E : List (Nat × Nat)} {o vd mj : Nat} {k : Nat} (h_o : M.1 o = some (ob 8 [.ref q, .int (nI mj), .ref vd])) (hV : PV g f n N E q M) (hmj : mj < 65536) (hk : k < 65536) : pt (mT g) 149 [.ref o, .int (nI k)] M (fun v M' => (v = some (.int (nI (mrfN f n E k))) ∧ M = M')) := by
  refine pt_in (b := mb_149 g) rfl (fun kf => ?_)
  show pl (mT g) kf (mb_149 g).2 (0, [(0, .ref o), (1, .int (nI k))], [], M) _
  refine ps_st (S' := (1, [(0, .ref o), (1, .int (nI k))], [.ref o], M)) rfl rfl rfl ?_
  refine ps_get (S' := (4, [(0, .ref o), (1, .int (nI k))], [.ref q], M)) rfl h_o rfl rfl ?_
  refine ps_st (S' := (5, [(0, .ref o), (1, .int (nI k))], [.int (nI k), .ref q], M)) rfl rfl rfl ?_
  refine pl_call (a := [.ref q, .int (nI k)]) (rest := []) rfl rfl rfl (dy_descriptorOf (f := f) (n := n) (N := N) (q := q) (E := E) (j := k) (hV) (by omega)) (fun v1 M2 q3 => ?_)
  obtain ⟨rfl, rfl⟩ := q3
  show pl _ _ _ (8, [(0, .ref o), (1, .int (nI k))], [.int (nI (se f E (se f E k)))], M) _
  refine ps_st (S' := (9, [(2, .int (nI (se f E (se f E k)))), (0, .ref o), (1, .int (nI k))], [], M)) rfl rfl rfl ?_
  refine ps_st (S' := (10, [(2, .int (nI (se f E (se f E k)))), (0, .ref o), (1, .int (nI k))], [.ref o], M)) rfl rfl rfl ?_
  refine ps_get (S' := (13, [(2, .int (nI (se f E (se f E k)))), (0, .ref o), (1, .int (nI k))], [.ref q], M)) rfl h_o rfl rfl ?_
  refine ps_st (S' := (14, [(2, .int (nI (se f E (se f E k)))), (0, .ref o), (1, .int (nI k))], [.int (nI (se f E (se f E k))), .ref q], M)) rfl rfl rfl ?_
  refine pl_call (a := [.ref q, .int (nI (se f E (se f E k)))]) (rest := []) rfl rfl rfl (dy_isMethodDescriptor (f := f) (n := n) (N := N) (q := q) (E := E) (j := (se f E (se f E k))) (hV) (se_lt _ _ _)) (fun v4 M5 q6 => ?_)
  obtain ⟨rfl, rfl⟩ := q6
  show pl _ _ _ (17, [(2, .int (nI (se f E (se f E k)))), (0, .ref o), (1, .int (nI k))], [.int (nI (mthN (tX f n E (se f E (se f E k)))))], M) _
  refine ps_if (S1 := (22, [(2, .int (nI (se f E (se f E k)))), (0, .ref o), (1, .int (nI k))], [], M)) (S2 := (20, [(2, .int (nI (se f E (se f E k)))), (0, .ref o), (1, .int (nI k))], [], M)) rfl rfl rfl (fun c_17 => ?_) (fun c_17 => ?_)
  · have c_17 : ¬ (nI (mthN (tX f n E (se f E (se f E k))))) = 0 := of_decide_eq_true c_17
    have n_17 : ¬ (mthN (tX f n E (se f E (se f E k))) = 0) := fun h9 => c_17 ((eq_nI (p := mthN (tX f n E (se f E (se f E k)))) (n := 0) (Nat.lt_trans (le1_mth _) (by decide)) (by decide)).mpr h9)
    refine ps_st (S' := (23, [(2, .int (nI (se f E (se f E k)))), (0, .ref o), (1, .int (nI k))], [.ref o], M)) rfl rfl rfl ?_
    refine ps_get (S' := (26, [(2, .int (nI (se f E (se f E k)))), (0, .ref o), (1, .int (nI k))], [.ref q], M)) rfl h_o rfl rfl ?_
    refine ps_st (S' := (27, [(2, .int (nI (se f E (se f E k)))), (0, .ref o), (1, .int (nI k))], [.ref o, .ref q], M)) rfl rfl rfl ?_
    refine ps_get (S' := (30, [(2, .int (nI (se f E (se f E k)))), (0, .ref o), (1, .int (nI k))], [.ref q, .ref q], M)) rfl h_o rfl rfl ?_
    refine ps_st (S' := (31, [(2, .int (nI (se f E (se f E k)))), (0, .ref o), (1, .int (nI k))], [.int (nI k), .ref q, .ref q], M)) rfl rfl rfl ?_
    refine pl_call (a := [.ref q, .int (nI k)]) (rest := [.ref q]) rfl rfl rfl (dy_nameOf (f := f) (n := n) (N := N) (q := q) (E := E) (j := k) (hV) (by omega)) (fun v7 M8 q9 => ?_)
    obtain ⟨rfl, rfl⟩ := q9
    show pl _ _ _ (34, [(2, .int (nI (se f E (se f E k)))), (0, .ref o), (1, .int (nI k))], [.int (nI (fi f E (se f E k))), .ref q], M) _
    refine pl_call (a := [.ref q, .int (nI (fi f E (se f E k)))]) (rest := []) rfl rfl rfl (dy_hasAngle (f := f) (n := n) (N := N) (q := q) (E := E) (j := (fi f E (se f E k))) (hV) (fi_lt _ _ _)) (fun v10 M11 q12 => ?_)
    obtain ⟨rfl, rfl⟩ := q12
    show pl _ _ _ (37, [(2, .int (nI (se f E (se f E k)))), (0, .ref o), (1, .int (nI k))], [.int (nI (angN (tX f n E (fi f E (se f E k)))))], M) _
    refine ps_if (S1 := (42, [(2, .int (nI (se f E (se f E k)))), (0, .ref o), (1, .int (nI k))], [], M)) (S2 := (40, [(2, .int (nI (se f E (se f E k)))), (0, .ref o), (1, .int (nI k))], [], M)) rfl rfl rfl (fun c_37 => ?_) (fun c_37 => ?_)
    · have c_37 : ¬ (nI (angN (tX f n E (fi f E (se f E k))))) = 0 := of_decide_eq_true c_37
      have n_37 : ¬ (angN (tX f n E (fi f E (se f E k))) = 0) := fun h9 => c_37 ((eq_nI (p := angN (tX f n E (fi f E (se f E k)))) (n := 0) (Nat.lt_trans (le1_ang _) (by decide)) (by decide)).mpr h9)
      refine ps_st (S' := (43, [(2, .int (nI (se f E (se f E k)))), (0, .ref o), (1, .int (nI k))], [.ref o], M)) rfl rfl rfl ?_
      refine ps_get (S' := (46, [(2, .int (nI (se f E (se f E k)))), (0, .ref o), (1, .int (nI k))], [.ref q], M)) rfl h_o rfl rfl ?_
      refine ps_st (S' := (47, [(2, .int (nI (se f E (se f E k)))), (0, .ref o), (1, .int (nI k))], [.int (nI k), .ref q], M)) rfl rfl rfl ?_
      refine pl_call (a := [.ref q, .int (nI k)]) (rest := []) rfl rfl rfl (dy_tagOf (f := f) (n := n) (N := N) (q := q) (E := E) (j := k) (hV) (by omega)) (fun v13 M14 q15 => ?_)
      obtain ⟨rfl, rfl⟩ := q15
      show pl _ _ _ (50, [(2, .int (nI (se f E (se f E k)))), (0, .ref o), (1, .int (nI k))], [.int (nI (tg f E k))], M) _
      refine ps_st (S' := (52, [(2, .int (nI (se f E (se f E k)))), (0, .ref o), (1, .int (nI k))], [.int 10, .int (nI (tg f E k))], M)) rfl rfl rfl ?_
      refine ps_if2 (S1 := (81, [], [], M)) (S2 := (55, [(2, .int (nI (se f E (se f E k)))), (0, .ref o), (1, .int (nI k))], [], M)) rfl rfl rfl (fun c_52 => ?_) (fun c_52 => ?_)
      · have c_52 : ¬ (nI (tg f E k)) = 10 := of_decide_eq_true c_52
        have n_52 : ¬ (tg f E k = 10) := fun h9 => c_52 ((eq_nI (p := tg f E k) (n := 10) (Nat.lt_trans (tg_lt _ _ _) (by decide)) (by decide)).mpr h9)
        refine ps_st (S' := (82, [], [.int 0], M)) rfl rfl rfl ?_
        exact ps_ret rfl rfl (⟨congrArg (fun x => some (Value.int (nI x))) (show 0 = mrfN f n E k from by
            unfold mrfN
            first | ((repeat first | rw [if_pos (by omega)] | rw [if_neg (by omega)]) <;> first | rfl | omega) | ((repeat' split) <;> first | rfl | (exfalso; omega) | omega)), rfl⟩)
      · have c_52 : ¬ (¬ (nI (tg f E k)) = 10) := of_decide_eq_false c_52
        have n_52 : tg f E k = 10 := (eq_nI (p := tg f E k) (n := 10) (Nat.lt_trans (tg_lt _ _ _) (by decide)) (by decide)).mp (Decidable.not_not.mp c_52)
        refine ps_st (S' := (56, [(2, .int (nI (se f E (se f E k)))), (0, .ref o), (1, .int (nI k))], [.ref o], M)) rfl rfl rfl ?_
        refine ps_get (S' := (59, [(2, .int (nI (se f E (se f E k)))), (0, .ref o), (1, .int (nI k))], [.ref q], M)) rfl h_o rfl rfl ?_
        refine ps_st (S' := (60, [(2, .int (nI (se f E (se f E k)))), (0, .ref o), (1, .int (nI k))], [.int (nI k), .ref q], M)) rfl rfl rfl ?_
        refine pl_call (a := [.ref q, .int (nI k)]) (rest := []) rfl rfl rfl (dy_namesInit (f := f) (n := n) (N := N) (q := q) (E := E) (j := k) (hV) (by omega)) (fun v16 M17 q18 => ?_)
        obtain ⟨rfl, rfl⟩ := q18
        show pl _ _ _ (63, [(2, .int (nI (se f E (se f E k)))), (0, .ref o), (1, .int (nI k))], [.int (nI (eqN (tX f n E (fi f E (se f E k))) (ltx 14)))], M) _
        refine ps_if (S1 := (81, [], [], M)) (S2 := (66, [(2, .int (nI (se f E (se f E k)))), (0, .ref o), (1, .int (nI k))], [], M)) rfl rfl rfl (fun c_63 => ?_) (fun c_63 => ?_)
        · have c_63 : (nI (eqN (tX f n E (fi f E (se f E k))) (ltx 14))) = 0 := of_decide_eq_true c_63
          have n_63 : eqN (tX f n E (fi f E (se f E k))) (ltx 14) = 0 := (eq_nI (p := eqN (tX f n E (fi f E (se f E k))) (ltx 14)) (n := 0) (Nat.lt_trans (le1_eq _ _) (by decide)) (by decide)).mp c_63
          refine ps_st (S' := (82, [], [.int 0], M)) rfl rfl rfl ?_
          exact ps_ret rfl rfl (⟨congrArg (fun x => some (Value.int (nI x))) (show 0 = mrfN f n E k from by
              unfold mrfN
              first | ((repeat first | rw [if_pos (by omega)] | rw [if_neg (by omega)]) <;> first | rfl | omega) | ((repeat' split) <;> first | rfl | (exfalso; omega) | omega)), rfl⟩)
        · have c_63 : ¬ ((nI (eqN (tX f n E (fi f E (se f E k))) (ltx 14))) = 0) := of_decide_eq_false c_63
          have n_63 : ¬ (eqN (tX f n E (fi f E (se f E k))) (ltx 14) = 0) := fun h9 => c_63 ((eq_nI (p := eqN (tX f n E (fi f E (se f E k))) (ltx 14)) (n := 0) (Nat.lt_trans (le1_eq _ _) (by decide)) (by decide)).mpr h9)
          refine ps_st (S' := (67, [(2, .int (nI (se f E (se f E k)))), (0, .ref o), (1, .int (nI k))], [.ref o], M)) rfl rfl rfl ?_
          refine ps_get (S' := (70, [(2, .int (nI (se f E (se f E k)))), (0, .ref o), (1, .int (nI k))], [.ref q], M)) rfl h_o rfl rfl ?_
          refine ps_st (S' := (71, [(2, .int (nI (se f E (se f E k)))), (0, .ref o), (1, .int (nI k))], [.int (nI (se f E (se f E k))), .ref q], M)) rfl rfl rfl ?_
          refine pl_call (a := [.ref q, .int (nI (se f E (se f E k)))]) (rest := []) rfl rfl rfl (dy_hasNoResult (f := f) (n := n) (N := N) (q := q) (E := E) (j := (se f E (se f E k))) (hV) (se_lt _ _ _)) (fun v19 M20 q21 => ?_)
          obtain ⟨rfl, rfl⟩ := q21
          show pl _ _ _ (74, [(2, .int (nI (se f E (se f E k)))), (0, .ref o), (1, .int (nI k))], [.int (nI (nresN (tX f n E (se f E (se f E k)))))], M) _
          refine ps_if (S1 := (81, [], [], M)) (S2 := (77, [(2, .int (nI (se f E (se f E k)))), (0, .ref o), (1, .int (nI k))], [], M)) rfl rfl rfl (fun c_74 => ?_) (fun c_74 => ?_)
          · have c_74 : (nI (nresN (tX f n E (se f E (se f E k))))) = 0 := of_decide_eq_true c_74
            have n_74 : nresN (tX f n E (se f E (se f E k))) = 0 := (eq_nI (p := nresN (tX f n E (se f E (se f E k)))) (n := 0) (Nat.lt_trans (le1_nres _) (by decide)) (by decide)).mp c_74
            refine ps_st (S' := (82, [], [.int 0], M)) rfl rfl rfl ?_
            exact ps_ret rfl rfl (⟨congrArg (fun x => some (Value.int (nI x))) (show 0 = mrfN f n E k from by
                unfold mrfN
                first | ((repeat first | rw [if_pos (by omega)] | rw [if_neg (by omega)]) <;> first | rfl | omega) | ((repeat' split) <;> first | rfl | (exfalso; omega) | omega)), rfl⟩)
          · have c_74 : ¬ ((nI (nresN (tX f n E (se f E (se f E k))))) = 0) := of_decide_eq_false c_74
            have n_74 : ¬ (nresN (tX f n E (se f E (se f E k))) = 0) := fun h9 => c_74 ((eq_nI (p := nresN (tX f n E (se f E (se f E k)))) (n := 0) (Nat.lt_trans (le1_nres _) (by decide)) (by decide)).mpr h9)
            refine ps_st (S' := (78, [(2, .int (nI (se f E (se f E k)))), (0, .ref o), (1, .int (nI k))], [.int 1], M)) rfl rfl rfl ?_
            refine ps_st (S' := (82, [], [.int 1], M)) rfl rfl rfl ?_
            exact ps_ret rfl rfl (⟨congrArg (fun x => some (Value.int (nI x))) (show 1 = mrfN f n E k from by
                unfold mrfN
                first | ((repeat first | rw [if_pos (by omega)] | rw [if_neg (by omega)]) <;> first | rfl | omega) | ((repeat' split) <;> first | rfl | (exfalso; omega) | omega)), rfl⟩)
    · have c_37 : ¬ (¬ (nI (angN (tX f n E (fi f E (se f E k))))) = 0) := of_decide_eq_false c_37
      have n_37 : angN (tX f n E (fi f E (se f E k))) = 0 := (eq_nI (p := angN (tX f n E (fi f E (se f E k)))) (n := 0) (Nat.lt_trans (le1_ang _) (by decide)) (by decide)).mp (Decidable.not_not.mp c_37)
      refine ps_st (S' := (41, [(2, .int (nI (se f E (se f E k)))), (0, .ref o), (1, .int (nI k))], [.int 1], M)) rfl rfl rfl ?_
      exact ps_ret rfl rfl (⟨congrArg (fun x => some (Value.int (nI x))) (show 1 = mrfN f n E k from by
          unfold mrfN
          first | ((repeat first | rw [if_pos (by omega)] | rw [if_neg (by omega)]) <;> first | rfl | omega) | ((repeat' split) <;> first | rfl | (exfalso; omega) | omega)), rfl⟩)
  · have c_17 : ¬ (¬ (nI (mthN (tX f n E (se f E (se f E k))))) = 0) := of_decide_eq_false c_17
    have n_17 : mthN (tX f n E (se f E (se f E k))) = 0 := (eq_nI (p := mthN (tX f n E (se f E (se f E k)))) (n := 0) (Nat.lt_trans (le1_mth _) (by decide)) (by decide)).mp (Decidable.not_not.mp c_17)
    refine ps_st (S' := (21, [(2, .int (nI (se f E (se f E k)))), (0, .ref o), (1, .int (nI k))], [.int 0], M)) rfl rfl rfl ?_
    exact ps_ret rfl rfl (⟨congrArg (fun x => some (Value.int (nI x))) (show 0 = mrfN f n E k from by
        unfold mrfN
        first | ((repeat first | rw [if_pos (by omega)] | rw [if_neg (by omega)]) <;> first | rfl | omega) | ((repeat' split) <;> first | rfl | (exfalso; omega) | omega)), rfl⟩)
set_option maxHeartbeats 1000000 in
theorem dk_isHandle {g : xe_G} {M : mi_H} {f : Nat → Int32} {n N q : Nat} {E : List (Nat × Nat)} {o vd mj : Nat} {d e : Nat} (h_o : M.1 o = some (ob 8 [.ref q, .int (nI mj), .ref vd])) (hV : PV g f n N E q M) (hmj : mj < 65536) (hd : d < 65536) (he : e < 65536) : pt (mT g) 147 [.ref o, .int (nI d), .int (nI e)] M (fun v M' => (v = some (.int (nI (hdlN f n E mj d e))) ∧ M = M')) := by
  refine pt_in (b := mb_147 g) rfl (fun kf => ?_)
  show pl (mT g) kf (mb_147 g).2 (0, [(0, .ref o), (1, .int (nI d)), (2, .int (nI e))], [], M) _
  refine ps_st (S' := (1, [(0, .ref o), (1, .int (nI d)), (2, .int (nI e))], [.ref o], M)) rfl rfl rfl ?_
  refine ps_get (S' := (4, [(0, .ref o), (1, .int (nI d)), (2, .int (nI e))], [.ref q], M)) rfl h_o rfl rfl ?_
  refine ps_st (S' := (5, [(0, .ref o), (1, .int (nI d)), (2, .int (nI e))], [.int (nI e), .ref q], M)) rfl rfl rfl ?_
  refine pl_call (a := [.ref q, .int (nI e)]) (rest := []) rfl rfl rfl (dy_tagOf (f := f) (n := n) (N := N) (q := q) (E := E) (j := e) (hV) (by omega)) (fun v1 M2 q3 => ?_)
  obtain ⟨rfl, rfl⟩ := q3
  show pl _ _ _ (8, [(0, .ref o), (1, .int (nI d)), (2, .int (nI e))], [.int (nI (tg f E e))], M) _
  refine ps_st (S' := (9, [(3, .int (nI (tg f E e))), (0, .ref o), (1, .int (nI d)), (2, .int (nI e))], [], M)) rfl rfl rfl ?_
  refine ps_st (S' := (10, [(3, .int (nI (tg f E e))), (0, .ref o), (1, .int (nI d)), (2, .int (nI e))], [.int (nI d)], M)) rfl rfl rfl ?_
  refine pl_sw rfl (fun t_10 et_10 => ?_)
  have ht_10 : t_10 ∈ [60, 72, 95, 133, 156, 179] := mi_sw_sub et_10 (by decide)
  simp only [List.mem_cons, List.not_mem_nil, or_false] at ht_10
  rcases ht_10 with rfl | rfl | rfl | rfl | rfl | rfl
  · show pl _ _ _ (60, [(3, .int (nI (tg f E e))), (0, .ref o), (1, .int (nI d)), (2, .int (nI e))], [], M) _
    have m_10 := sw_nat (t := d) (by omega) et_10
    simp at m_10
    refine ps_st (S' := (61, [(3, .int (nI (tg f E e))), (0, .ref o), (1, .int (nI d)), (2, .int (nI e))], [.int (nI (tg f E e))], M)) rfl rfl rfl ?_
    refine ps_st (S' := (63, [(3, .int (nI (tg f E e))), (0, .ref o), (1, .int (nI d)), (2, .int (nI e))], [.int 9, .int (nI (tg f E e))], M)) rfl rfl rfl ?_
    refine ps_if2 (S1 := (70, [(3, .int (nI (tg f E e))), (0, .ref o), (1, .int (nI d)), (2, .int (nI e))], [], M)) (S2 := (66, [(3, .int (nI (tg f E e))), (0, .ref o), (1, .int (nI d)), (2, .int (nI e))], [], M)) rfl rfl rfl (fun c_63 => ?_) (fun c_63 => ?_)
    · have c_63 : ¬ (nI (tg f E e)) = 9 := of_decide_eq_true c_63
      have n_63 : ¬ (tg f E e = 9) := fun h9 => c_63 ((eq_nI (p := tg f E e) (n := 9) (Nat.lt_trans (tg_lt _ _ _) (by decide)) (by decide)).mpr h9)
      refine ps_st (S' := (71, [], [.int 0], M)) rfl rfl rfl ?_
      exact ps_ret rfl rfl (⟨congrArg (fun x => some (Value.int (nI x))) (show 0 = hdlN f n E mj d e from by
          unfold hdlN
          first | ((repeat first | rw [if_pos (by omega)] | rw [if_neg (by omega)]) <;> first | rfl | omega) | ((repeat' split) <;> first | rfl | (exfalso; omega) | omega)), rfl⟩)
    · have c_63 : ¬ (¬ (nI (tg f E e)) = 9) := of_decide_eq_false c_63
      have n_63 : tg f E e = 9 := (eq_nI (p := tg f E e) (n := 9) (Nat.lt_trans (tg_lt _ _ _) (by decide)) (by decide)).mp (Decidable.not_not.mp c_63)
      refine ps_st (S' := (67, [(3, .int (nI (tg f E e))), (0, .ref o), (1, .int (nI d)), (2, .int (nI e))], [.int 1], M)) rfl rfl rfl ?_
      refine ps_st (S' := (71, [], [.int 1], M)) rfl rfl rfl ?_
      exact ps_ret rfl rfl (⟨congrArg (fun x => some (Value.int (nI x))) (show 1 = hdlN f n E mj d e from by
          unfold hdlN
          first | ((repeat first | rw [if_pos (by omega)] | rw [if_neg (by omega)]) <;> first | rfl | omega) | ((repeat' split) <;> first | rfl | (exfalso; omega) | omega)), rfl⟩)
  · show pl _ _ _ (72, [(3, .int (nI (tg f E e))), (0, .ref o), (1, .int (nI d)), (2, .int (nI e))], [], M) _
    have m_10 := sw_nat (t := d) (by omega) et_10
    simp at m_10
    refine ps_st (S' := (73, [(3, .int (nI (tg f E e))), (0, .ref o), (1, .int (nI d)), (2, .int (nI e))], [.int (nI (tg f E e))], M)) rfl rfl rfl ?_
    refine ps_st (S' := (75, [(3, .int (nI (tg f E e))), (0, .ref o), (1, .int (nI d)), (2, .int (nI e))], [.int 10, .int (nI (tg f E e))], M)) rfl rfl rfl ?_
    refine ps_if2 (S1 := (93, [], [], M)) (S2 := (78, [(3, .int (nI (tg f E e))), (0, .ref o), (1, .int (nI d)), (2, .int (nI e))], [], M)) rfl rfl rfl (fun c_75 => ?_) (fun c_75 => ?_)
    · have c_75 : ¬ (nI (tg f E e)) = 10 := of_decide_eq_true c_75
      have n_75 : ¬ (tg f E e = 10) := fun h9 => c_75 ((eq_nI (p := tg f E e) (n := 10) (Nat.lt_trans (tg_lt _ _ _) (by decide)) (by decide)).mpr h9)
      refine ps_st (S' := (94, [], [.int 0], M)) rfl rfl rfl ?_
      exact ps_ret rfl rfl (⟨congrArg (fun x => some (Value.int (nI x))) (show 0 = hdlN f n E mj d e from by
          unfold hdlN
          first | ((repeat first | rw [if_pos (by omega)] | rw [if_neg (by omega)]) <;> first | rfl | omega) | ((repeat' split) <;> first | rfl | (exfalso; omega) | omega)), rfl⟩)
    · have c_75 : ¬ (¬ (nI (tg f E e)) = 10) := of_decide_eq_false c_75
      have n_75 : tg f E e = 10 := (eq_nI (p := tg f E e) (n := 10) (Nat.lt_trans (tg_lt _ _ _) (by decide)) (by decide)).mp (Decidable.not_not.mp c_75)
      refine ps_st (S' := (79, [(3, .int (nI (tg f E e))), (0, .ref o), (1, .int (nI d)), (2, .int (nI e))], [.ref o], M)) rfl rfl rfl ?_
      refine ps_get (S' := (82, [(3, .int (nI (tg f E e))), (0, .ref o), (1, .int (nI d)), (2, .int (nI e))], [.ref q], M)) rfl h_o rfl rfl ?_
      refine ps_st (S' := (83, [(3, .int (nI (tg f E e))), (0, .ref o), (1, .int (nI d)), (2, .int (nI e))], [.int (nI e), .ref q], M)) rfl rfl rfl ?_
      refine pl_call (a := [.ref q, .int (nI e)]) (rest := []) rfl rfl rfl (dy_namesInit (f := f) (n := n) (N := N) (q := q) (E := E) (j := e) (hV) (by omega)) (fun v4 M5 q6 => ?_)
      obtain ⟨rfl, rfl⟩ := q6
      show pl _ _ _ (86, [(3, .int (nI (tg f E e))), (0, .ref o), (1, .int (nI d)), (2, .int (nI e))], [.int (nI (eqN (tX f n E (fi f E (se f E e))) (ltx 14)))], M) _
      refine ps_if (S1 := (93, [], [], M)) (S2 := (89, [(3, .int (nI (tg f E e))), (0, .ref o), (1, .int (nI d)), (2, .int (nI e))], [], M)) rfl rfl rfl (fun c_86 => ?_) (fun c_86 => ?_)
      · have c_86 : ¬ (nI (eqN (tX f n E (fi f E (se f E e))) (ltx 14))) = 0 := of_decide_eq_true c_86
        have n_86 : ¬ (eqN (tX f n E (fi f E (se f E e))) (ltx 14) = 0) := fun h9 => c_86 ((eq_nI (p := eqN (tX f n E (fi f E (se f E e))) (ltx 14)) (n := 0) (Nat.lt_trans (le1_eq _ _) (by decide)) (by decide)).mpr h9)
        refine ps_st (S' := (94, [], [.int 0], M)) rfl rfl rfl ?_
        exact ps_ret rfl rfl (⟨congrArg (fun x => some (Value.int (nI x))) (show 0 = hdlN f n E mj d e from by
            unfold hdlN
            first | ((repeat first | rw [if_pos (by omega)] | rw [if_neg (by omega)]) <;> first | rfl | omega) | ((repeat' split) <;> first | rfl | (exfalso; omega) | omega)), rfl⟩)
      · have c_86 : ¬ (¬ (nI (eqN (tX f n E (fi f E (se f E e))) (ltx 14))) = 0) := of_decide_eq_false c_86
        have n_86 : eqN (tX f n E (fi f E (se f E e))) (ltx 14) = 0 := (eq_nI (p := eqN (tX f n E (fi f E (se f E e))) (ltx 14)) (n := 0) (Nat.lt_trans (le1_eq _ _) (by decide)) (by decide)).mp (Decidable.not_not.mp c_86)
        refine ps_st (S' := (90, [(3, .int (nI (tg f E e))), (0, .ref o), (1, .int (nI d)), (2, .int (nI e))], [.int 1], M)) rfl rfl rfl ?_
        refine ps_st (S' := (94, [], [.int 1], M)) rfl rfl rfl ?_
        exact ps_ret rfl rfl (⟨congrArg (fun x => some (Value.int (nI x))) (show 1 = hdlN f n E mj d e from by
            unfold hdlN
            first | ((repeat first | rw [if_pos (by omega)] | rw [if_neg (by omega)]) <;> first | rfl | omega) | ((repeat' split) <;> first | rfl | (exfalso; omega) | omega)), rfl⟩)
  · show pl _ _ _ (95, [(3, .int (nI (tg f E e))), (0, .ref o), (1, .int (nI d)), (2, .int (nI e))], [], M) _
    have m_10 := sw_nat (t := d) (by omega) et_10
    simp at m_10
    refine ps_st (S' := (96, [(3, .int (nI (tg f E e))), (0, .ref o), (1, .int (nI d)), (2, .int (nI e))], [.int (nI (tg f E e))], M)) rfl rfl rfl ?_
    refine ps_st (S' := (98, [(3, .int (nI (tg f E e))), (0, .ref o), (1, .int (nI d)), (2, .int (nI e))], [.int 10, .int (nI (tg f E e))], M)) rfl rfl rfl ?_
    refine ps_if2 (S1 := (116, [(0, .ref o), (2, .int (nI e))], [], M)) (S2 := (101, [(3, .int (nI (tg f E e))), (0, .ref o), (1, .int (nI d)), (2, .int (nI e))], [], M)) rfl rfl rfl (fun c_98 => ?_) (fun c_98 => ?_)
    · have c_98 : (nI (tg f E e)) = 10 := of_decide_eq_true c_98
      have n_98 : tg f E e = 10 := (eq_nI (p := tg f E e) (n := 10) (Nat.lt_trans (tg_lt _ _ _) (by decide)) (by decide)).mp c_98
      refine ps_st (S' := (117, [(0, .ref o), (2, .int (nI e))], [.ref o], M)) rfl rfl rfl ?_
      refine ps_get (S' := (120, [(0, .ref o), (2, .int (nI e))], [.ref q], M)) rfl h_o rfl rfl ?_
      refine ps_st (S' := (121, [(0, .ref o), (2, .int (nI e))], [.int (nI e), .ref q], M)) rfl rfl rfl ?_
      refine pl_call (a := [.ref q, .int (nI e)]) (rest := []) rfl rfl rfl (dy_namesInit (f := f) (n := n) (N := N) (q := q) (E := E) (j := e) (hV) (by omega)) (fun v7 M8 q9 => ?_)
      obtain ⟨rfl, rfl⟩ := q9
      show pl _ _ _ (124, [(0, .ref o), (2, .int (nI e))], [.int (nI (eqN (tX f n E (fi f E (se f E e))) (ltx 14)))], M) _
      refine ps_if (S1 := (131, [], [], M)) (S2 := (127, [(0, .ref o), (2, .int (nI e))], [], M)) rfl rfl rfl (fun c_124 => ?_) (fun c_124 => ?_)
      · have c_124 : ¬ (nI (eqN (tX f n E (fi f E (se f E e))) (ltx 14))) = 0 := of_decide_eq_true c_124
        have n_124 : ¬ (eqN (tX f n E (fi f E (se f E e))) (ltx 14) = 0) := fun h9 => c_124 ((eq_nI (p := eqN (tX f n E (fi f E (se f E e))) (ltx 14)) (n := 0) (Nat.lt_trans (le1_eq _ _) (by decide)) (by decide)).mpr h9)
        refine ps_st (S' := (132, [], [.int 0], M)) rfl rfl rfl ?_
        exact ps_ret rfl rfl (⟨congrArg (fun x => some (Value.int (nI x))) (show 0 = hdlN f n E mj d e from by
            unfold hdlN
            first | ((repeat first | rw [if_pos (by omega)] | rw [if_neg (by omega)]) <;> first | rfl | omega) | ((repeat' split) <;> first | rfl | (exfalso; omega) | omega)), rfl⟩)
      · have c_124 : ¬ (¬ (nI (eqN (tX f n E (fi f E (se f E e))) (ltx 14))) = 0) := of_decide_eq_false c_124
        have n_124 : eqN (tX f n E (fi f E (se f E e))) (ltx 14) = 0 := (eq_nI (p := eqN (tX f n E (fi f E (se f E e))) (ltx 14)) (n := 0) (Nat.lt_trans (le1_eq _ _) (by decide)) (by decide)).mp (Decidable.not_not.mp c_124)
        refine ps_st (S' := (128, [(0, .ref o), (2, .int (nI e))], [.int 1], M)) rfl rfl rfl ?_
        refine ps_st (S' := (132, [], [.int 1], M)) rfl rfl rfl ?_
        exact ps_ret rfl rfl (⟨congrArg (fun x => some (Value.int (nI x))) (show 1 = hdlN f n E mj d e from by
            unfold hdlN
            first | ((repeat first | rw [if_pos (by omega)] | rw [if_neg (by omega)]) <;> first | rfl | omega) | ((repeat' split) <;> first | rfl | (exfalso; omega) | omega)), rfl⟩)
    · have c_98 : ¬ ((nI (tg f E e)) = 10) := of_decide_eq_false c_98
      have n_98 : ¬ (tg f E e = 10) := fun h9 => c_98 ((eq_nI (p := tg f E e) (n := 10) (Nat.lt_trans (tg_lt _ _ _) (by decide)) (by decide)).mpr h9)
      refine ps_st (S' := (102, [(3, .int (nI (tg f E e))), (0, .ref o), (1, .int (nI d)), (2, .int (nI e))], [.int (nI (tg f E e))], M)) rfl rfl rfl ?_
      refine ps_st (S' := (104, [(3, .int (nI (tg f E e))), (0, .ref o), (1, .int (nI d)), (2, .int (nI e))], [.int 11, .int (nI (tg f E e))], M)) rfl rfl rfl ?_
      refine ps_if2 (S1 := (131, [], [], M)) (S2 := (107, [(3, .int (nI (tg f E e))), (0, .ref o), (1, .int (nI d)), (2, .int (nI e))], [], M)) rfl rfl rfl (fun c_104 => ?_) (fun c_104 => ?_)
      · have c_104 : ¬ (nI (tg f E e)) = 11 := of_decide_eq_true c_104
        have n_104 : ¬ (tg f E e = 11) := fun h9 => c_104 ((eq_nI (p := tg f E e) (n := 11) (Nat.lt_trans (tg_lt _ _ _) (by decide)) (by decide)).mpr h9)
        refine ps_st (S' := (132, [], [.int 0], M)) rfl rfl rfl ?_
        exact ps_ret rfl rfl (⟨congrArg (fun x => some (Value.int (nI x))) (show 0 = hdlN f n E mj d e from by
            unfold hdlN
            first | ((repeat first | rw [if_pos (by omega)] | rw [if_neg (by omega)]) <;> first | rfl | omega) | ((repeat' split) <;> first | rfl | (exfalso; omega) | omega)), rfl⟩)
      · have c_104 : ¬ (¬ (nI (tg f E e)) = 11) := of_decide_eq_false c_104
        have n_104 : tg f E e = 11 := (eq_nI (p := tg f E e) (n := 11) (Nat.lt_trans (tg_lt _ _ _) (by decide)) (by decide)).mp (Decidable.not_not.mp c_104)
        refine ps_st (S' := (108, [(3, .int (nI (tg f E e))), (0, .ref o), (1, .int (nI d)), (2, .int (nI e))], [.ref o], M)) rfl rfl rfl ?_
        refine ps_get (S' := (111, [(3, .int (nI (tg f E e))), (0, .ref o), (1, .int (nI d)), (2, .int (nI e))], [.int (nI mj)], M)) rfl h_o rfl rfl ?_
        refine ps_st (S' := (113, [(3, .int (nI (tg f E e))), (0, .ref o), (1, .int (nI d)), (2, .int (nI e))], [.int 52, .int (nI mj)], M)) rfl rfl rfl ?_
        refine ps_if2 (S1 := (131, [], [], M)) (S2 := (116, [(0, .ref o), (2, .int (nI e))], [], M)) rfl rfl rfl (fun c_113 => ?_) (fun c_113 => ?_)
        · have c_113 : (nI mj) < 52 := of_decide_eq_true c_113
          have n_113 : mj < 52 := (lt_nI (p := mj) (n := 52) (by omega) (by decide)).mp c_113
          refine ps_st (S' := (132, [], [.int 0], M)) rfl rfl rfl ?_
          exact ps_ret rfl rfl (⟨congrArg (fun x => some (Value.int (nI x))) (show 0 = hdlN f n E mj d e from by
              unfold hdlN
              first | ((repeat first | rw [if_pos (by omega)] | rw [if_neg (by omega)]) <;> first | rfl | omega) | ((repeat' split) <;> first | rfl | (exfalso; omega) | omega)), rfl⟩)
        · have c_113 : ¬ ((nI mj) < 52) := of_decide_eq_false c_113
          have n_113 : ¬ (mj < 52) := fun h9 => c_113 ((lt_nI (p := mj) (n := 52) (by omega) (by decide)).mpr h9)
          refine ps_st (S' := (117, [(0, .ref o), (2, .int (nI e))], [.ref o], M)) rfl rfl rfl ?_
          refine ps_get (S' := (120, [(0, .ref o), (2, .int (nI e))], [.ref q], M)) rfl h_o rfl rfl ?_
          refine ps_st (S' := (121, [(0, .ref o), (2, .int (nI e))], [.int (nI e), .ref q], M)) rfl rfl rfl ?_
          refine pl_call (a := [.ref q, .int (nI e)]) (rest := []) rfl rfl rfl (dy_namesInit (f := f) (n := n) (N := N) (q := q) (E := E) (j := e) (hV) (by omega)) (fun v10 M11 q12 => ?_)
          obtain ⟨rfl, rfl⟩ := q12
          show pl _ _ _ (124, [(0, .ref o), (2, .int (nI e))], [.int (nI (eqN (tX f n E (fi f E (se f E e))) (ltx 14)))], M) _
          refine ps_if (S1 := (131, [], [], M)) (S2 := (127, [(0, .ref o), (2, .int (nI e))], [], M)) rfl rfl rfl (fun c_124 => ?_) (fun c_124 => ?_)
          · have c_124 : ¬ (nI (eqN (tX f n E (fi f E (se f E e))) (ltx 14))) = 0 := of_decide_eq_true c_124
            have n_124 : ¬ (eqN (tX f n E (fi f E (se f E e))) (ltx 14) = 0) := fun h9 => c_124 ((eq_nI (p := eqN (tX f n E (fi f E (se f E e))) (ltx 14)) (n := 0) (Nat.lt_trans (le1_eq _ _) (by decide)) (by decide)).mpr h9)
            refine ps_st (S' := (132, [], [.int 0], M)) rfl rfl rfl ?_
            exact ps_ret rfl rfl (⟨congrArg (fun x => some (Value.int (nI x))) (show 0 = hdlN f n E mj d e from by
                unfold hdlN
                first | ((repeat first | rw [if_pos (by omega)] | rw [if_neg (by omega)]) <;> first | rfl | omega) | ((repeat' split) <;> first | rfl | (exfalso; omega) | omega)), rfl⟩)
          · have c_124 : ¬ (¬ (nI (eqN (tX f n E (fi f E (se f E e))) (ltx 14))) = 0) := of_decide_eq_false c_124
            have n_124 : eqN (tX f n E (fi f E (se f E e))) (ltx 14) = 0 := (eq_nI (p := eqN (tX f n E (fi f E (se f E e))) (ltx 14)) (n := 0) (Nat.lt_trans (le1_eq _ _) (by decide)) (by decide)).mp (Decidable.not_not.mp c_124)
            refine ps_st (S' := (128, [(0, .ref o), (2, .int (nI e))], [.int 1], M)) rfl rfl rfl ?_
            refine ps_st (S' := (132, [], [.int 1], M)) rfl rfl rfl ?_
            exact ps_ret rfl rfl (⟨congrArg (fun x => some (Value.int (nI x))) (show 1 = hdlN f n E mj d e from by
                unfold hdlN
                first | ((repeat first | rw [if_pos (by omega)] | rw [if_neg (by omega)]) <;> first | rfl | omega) | ((repeat' split) <;> first | rfl | (exfalso; omega) | omega)), rfl⟩)
  · show pl _ _ _ (133, [(3, .int (nI (tg f E e))), (0, .ref o), (1, .int (nI d)), (2, .int (nI e))], [], M) _
    have m_10 := sw_nat (t := d) (by omega) et_10
    simp at m_10
    refine ps_st (S' := (134, [(3, .int (nI (tg f E e))), (0, .ref o), (1, .int (nI d)), (2, .int (nI e))], [.int (nI (tg f E e))], M)) rfl rfl rfl ?_
    refine ps_st (S' := (136, [(3, .int (nI (tg f E e))), (0, .ref o), (1, .int (nI d)), (2, .int (nI e))], [.int 10, .int (nI (tg f E e))], M)) rfl rfl rfl ?_
    refine ps_if2 (S1 := (154, [], [], M)) (S2 := (139, [(3, .int (nI (tg f E e))), (0, .ref o), (1, .int (nI d)), (2, .int (nI e))], [], M)) rfl rfl rfl (fun c_136 => ?_) (fun c_136 => ?_)
    · have c_136 : ¬ (nI (tg f E e)) = 10 := of_decide_eq_true c_136
      have n_136 : ¬ (tg f E e = 10) := fun h9 => c_136 ((eq_nI (p := tg f E e) (n := 10) (Nat.lt_trans (tg_lt _ _ _) (by decide)) (by decide)).mpr h9)
      refine ps_st (S' := (155, [], [.int 0], M)) rfl rfl rfl ?_
      exact ps_ret rfl rfl (⟨congrArg (fun x => some (Value.int (nI x))) (show 0 = hdlN f n E mj d e from by
          unfold hdlN
          first | ((repeat first | rw [if_pos (by omega)] | rw [if_neg (by omega)]) <;> first | rfl | omega) | ((repeat' split) <;> first | rfl | (exfalso; omega) | omega)), rfl⟩)
    · have c_136 : ¬ (¬ (nI (tg f E e)) = 10) := of_decide_eq_false c_136
      have n_136 : tg f E e = 10 := (eq_nI (p := tg f E e) (n := 10) (Nat.lt_trans (tg_lt _ _ _) (by decide)) (by decide)).mp (Decidable.not_not.mp c_136)
      refine ps_st (S' := (140, [(3, .int (nI (tg f E e))), (0, .ref o), (1, .int (nI d)), (2, .int (nI e))], [.ref o], M)) rfl rfl rfl ?_
      refine ps_get (S' := (143, [(3, .int (nI (tg f E e))), (0, .ref o), (1, .int (nI d)), (2, .int (nI e))], [.ref q], M)) rfl h_o rfl rfl ?_
      refine ps_st (S' := (144, [(3, .int (nI (tg f E e))), (0, .ref o), (1, .int (nI d)), (2, .int (nI e))], [.int (nI e), .ref q], M)) rfl rfl rfl ?_
      refine pl_call (a := [.ref q, .int (nI e)]) (rest := []) rfl rfl rfl (dy_namesInit (f := f) (n := n) (N := N) (q := q) (E := E) (j := e) (hV) (by omega)) (fun v13 M14 q15 => ?_)
      obtain ⟨rfl, rfl⟩ := q15
      show pl _ _ _ (147, [(3, .int (nI (tg f E e))), (0, .ref o), (1, .int (nI d)), (2, .int (nI e))], [.int (nI (eqN (tX f n E (fi f E (se f E e))) (ltx 14)))], M) _
      refine ps_if (S1 := (154, [], [], M)) (S2 := (150, [(3, .int (nI (tg f E e))), (0, .ref o), (1, .int (nI d)), (2, .int (nI e))], [], M)) rfl rfl rfl (fun c_147 => ?_) (fun c_147 => ?_)
      · have c_147 : (nI (eqN (tX f n E (fi f E (se f E e))) (ltx 14))) = 0 := of_decide_eq_true c_147
        have n_147 : eqN (tX f n E (fi f E (se f E e))) (ltx 14) = 0 := (eq_nI (p := eqN (tX f n E (fi f E (se f E e))) (ltx 14)) (n := 0) (Nat.lt_trans (le1_eq _ _) (by decide)) (by decide)).mp c_147
        refine ps_st (S' := (155, [], [.int 0], M)) rfl rfl rfl ?_
        exact ps_ret rfl rfl (⟨congrArg (fun x => some (Value.int (nI x))) (show 0 = hdlN f n E mj d e from by
            unfold hdlN
            first | ((repeat first | rw [if_pos (by omega)] | rw [if_neg (by omega)]) <;> first | rfl | omega) | ((repeat' split) <;> first | rfl | (exfalso; omega) | omega)), rfl⟩)
      · have c_147 : ¬ ((nI (eqN (tX f n E (fi f E (se f E e))) (ltx 14))) = 0) := of_decide_eq_false c_147
        have n_147 : ¬ (eqN (tX f n E (fi f E (se f E e))) (ltx 14) = 0) := fun h9 => c_147 ((eq_nI (p := eqN (tX f n E (fi f E (se f E e))) (ltx 14)) (n := 0) (Nat.lt_trans (le1_eq _ _) (by decide)) (by decide)).mpr h9)
        refine ps_st (S' := (151, [(3, .int (nI (tg f E e))), (0, .ref o), (1, .int (nI d)), (2, .int (nI e))], [.int 1], M)) rfl rfl rfl ?_
        refine ps_st (S' := (155, [], [.int 1], M)) rfl rfl rfl ?_
        exact ps_ret rfl rfl (⟨congrArg (fun x => some (Value.int (nI x))) (show 1 = hdlN f n E mj d e from by
            unfold hdlN
            first | ((repeat first | rw [if_pos (by omega)] | rw [if_neg (by omega)]) <;> first | rfl | omega) | ((repeat' split) <;> first | rfl | (exfalso; omega) | omega)), rfl⟩)
  · show pl _ _ _ (156, [(3, .int (nI (tg f E e))), (0, .ref o), (1, .int (nI d)), (2, .int (nI e))], [], M) _
    have m_10 := sw_nat (t := d) (by omega) et_10
    simp at m_10
    refine ps_st (S' := (157, [(3, .int (nI (tg f E e))), (0, .ref o), (1, .int (nI d)), (2, .int (nI e))], [.int (nI (tg f E e))], M)) rfl rfl rfl ?_
    refine ps_st (S' := (159, [(3, .int (nI (tg f E e))), (0, .ref o), (1, .int (nI d)), (2, .int (nI e))], [.int 11, .int (nI (tg f E e))], M)) rfl rfl rfl ?_
    refine ps_if2 (S1 := (177, [], [], M)) (S2 := (162, [(3, .int (nI (tg f E e))), (0, .ref o), (1, .int (nI d)), (2, .int (nI e))], [], M)) rfl rfl rfl (fun c_159 => ?_) (fun c_159 => ?_)
    · have c_159 : ¬ (nI (tg f E e)) = 11 := of_decide_eq_true c_159
      have n_159 : ¬ (tg f E e = 11) := fun h9 => c_159 ((eq_nI (p := tg f E e) (n := 11) (Nat.lt_trans (tg_lt _ _ _) (by decide)) (by decide)).mpr h9)
      refine ps_st (S' := (178, [], [.int 0], M)) rfl rfl rfl ?_
      exact ps_ret rfl rfl (⟨congrArg (fun x => some (Value.int (nI x))) (show 0 = hdlN f n E mj d e from by
          unfold hdlN
          first | ((repeat first | rw [if_pos (by omega)] | rw [if_neg (by omega)]) <;> first | rfl | omega) | ((repeat' split) <;> first | rfl | (exfalso; omega) | omega)), rfl⟩)
    · have c_159 : ¬ (¬ (nI (tg f E e)) = 11) := of_decide_eq_false c_159
      have n_159 : tg f E e = 11 := (eq_nI (p := tg f E e) (n := 11) (Nat.lt_trans (tg_lt _ _ _) (by decide)) (by decide)).mp (Decidable.not_not.mp c_159)
      refine ps_st (S' := (163, [(3, .int (nI (tg f E e))), (0, .ref o), (1, .int (nI d)), (2, .int (nI e))], [.ref o], M)) rfl rfl rfl ?_
      refine ps_get (S' := (166, [(3, .int (nI (tg f E e))), (0, .ref o), (1, .int (nI d)), (2, .int (nI e))], [.ref q], M)) rfl h_o rfl rfl ?_
      refine ps_st (S' := (167, [(3, .int (nI (tg f E e))), (0, .ref o), (1, .int (nI d)), (2, .int (nI e))], [.int (nI e), .ref q], M)) rfl rfl rfl ?_
      refine pl_call (a := [.ref q, .int (nI e)]) (rest := []) rfl rfl rfl (dy_namesInit (f := f) (n := n) (N := N) (q := q) (E := E) (j := e) (hV) (by omega)) (fun v16 M17 q18 => ?_)
      obtain ⟨rfl, rfl⟩ := q18
      show pl _ _ _ (170, [(3, .int (nI (tg f E e))), (0, .ref o), (1, .int (nI d)), (2, .int (nI e))], [.int (nI (eqN (tX f n E (fi f E (se f E e))) (ltx 14)))], M) _
      refine ps_if (S1 := (177, [], [], M)) (S2 := (173, [(3, .int (nI (tg f E e))), (0, .ref o), (1, .int (nI d)), (2, .int (nI e))], [], M)) rfl rfl rfl (fun c_170 => ?_) (fun c_170 => ?_)
      · have c_170 : ¬ (nI (eqN (tX f n E (fi f E (se f E e))) (ltx 14))) = 0 := of_decide_eq_true c_170
        have n_170 : ¬ (eqN (tX f n E (fi f E (se f E e))) (ltx 14) = 0) := fun h9 => c_170 ((eq_nI (p := eqN (tX f n E (fi f E (se f E e))) (ltx 14)) (n := 0) (Nat.lt_trans (le1_eq _ _) (by decide)) (by decide)).mpr h9)
        refine ps_st (S' := (178, [], [.int 0], M)) rfl rfl rfl ?_
        exact ps_ret rfl rfl (⟨congrArg (fun x => some (Value.int (nI x))) (show 0 = hdlN f n E mj d e from by
            unfold hdlN
            first | ((repeat first | rw [if_pos (by omega)] | rw [if_neg (by omega)]) <;> first | rfl | omega) | ((repeat' split) <;> first | rfl | (exfalso; omega) | omega)), rfl⟩)
      · have c_170 : ¬ (¬ (nI (eqN (tX f n E (fi f E (se f E e))) (ltx 14))) = 0) := of_decide_eq_false c_170
        have n_170 : eqN (tX f n E (fi f E (se f E e))) (ltx 14) = 0 := (eq_nI (p := eqN (tX f n E (fi f E (se f E e))) (ltx 14)) (n := 0) (Nat.lt_trans (le1_eq _ _) (by decide)) (by decide)).mp (Decidable.not_not.mp c_170)
        refine ps_st (S' := (174, [(3, .int (nI (tg f E e))), (0, .ref o), (1, .int (nI d)), (2, .int (nI e))], [.int 1], M)) rfl rfl rfl ?_
        refine ps_st (S' := (178, [], [.int 1], M)) rfl rfl rfl ?_
        exact ps_ret rfl rfl (⟨congrArg (fun x => some (Value.int (nI x))) (show 1 = hdlN f n E mj d e from by
            unfold hdlN
            first | ((repeat first | rw [if_pos (by omega)] | rw [if_neg (by omega)]) <;> first | rfl | omega) | ((repeat' split) <;> first | rfl | (exfalso; omega) | omega)), rfl⟩)
  · show pl _ _ _ (179, [(3, .int (nI (tg f E e))), (0, .ref o), (1, .int (nI d)), (2, .int (nI e))], [], M) _
    have m_10 := sw_nat (t := d) (by omega) et_10
    simp at m_10
    refine ps_st (S' := (180, [(3, .int (nI (tg f E e))), (0, .ref o), (1, .int (nI d)), (2, .int (nI e))], [.int 0], M)) rfl rfl rfl ?_
    exact ps_ret rfl rfl (⟨congrArg (fun x => some (Value.int (nI x))) (show 0 = hdlN f n E mj d e from by
        unfold hdlN
        first | ((repeat first | rw [if_pos (by omega)] | rw [if_neg (by omega)]) <;> first | rfl | omega) | ((repeat' split) <;> first | rfl | (exfalso; omega) | omega)), rfl⟩)
set_option maxHeartbeats 1000000 in
theorem dk_brokenRule {g : xe_G} {M : mi_H} {f : Nat → Int32} {n N q : Nat} {E : List (Nat × Nat)} {o vd mj : Nat} {k : Nat} (h_o : M.1 o = some (ob 8 [.ref q, .int (nI mj), .ref vd])) (hV : PV g f n N E q M) (hmj : mj < 65536) (hk : k < 65536) : pt (mT g) 145 [.ref o, .int (nI k)] M (fun v M' => (v = some (.int (nI (brkN f n E mj k))) ∧ M = M')) := by
  refine pt_in (b := mb_145 g) rfl (fun kf => ?_)
  show pl (mT g) kf (mb_145 g).2 (0, [(0, .ref o), (1, .int (nI k))], [], M) _
  refine ps_st (S' := (1, [(0, .ref o), (1, .int (nI k))], [.ref o], M)) rfl rfl rfl ?_
  refine ps_get (S' := (4, [(0, .ref o), (1, .int (nI k))], [.ref q], M)) rfl h_o rfl rfl ?_
  refine ps_st (S' := (5, [(0, .ref o), (1, .int (nI k))], [.int (nI k), .ref q], M)) rfl rfl rfl ?_
  refine pl_call (a := [.ref q, .int (nI k)]) (rest := []) rfl rfl rfl (dy_tagOf (f := f) (n := n) (N := N) (q := q) (E := E) (j := k) (hV) (by omega)) (fun v1 M2 q3 => ?_)
  obtain ⟨rfl, rfl⟩ := q3
  show pl _ _ _ (8, [(0, .ref o), (1, .int (nI k))], [.int (nI (tg f E k))], M) _
  refine pl_sw rfl (fun t_8 et_8 => ?_)
  have ht_8 : t_8 ∈ [72, 97, 112, 137, 152, 182, 207, 250, 293] := mi_sw_sub et_8 (by decide)
  simp only [List.mem_cons, List.not_mem_nil, or_false] at ht_8
  rcases ht_8 with rfl | rfl | rfl | rfl | rfl | rfl | rfl | rfl | rfl
  · show pl _ _ _ (72, [(0, .ref o), (1, .int (nI k))], [], M) _
    have m_8 := sw_nat (t := tg f E k) (Nat.lt_trans (tg_lt _ _ _) (by decide)) et_8
    simp at m_8
    refine ps_st (S' := (73, [(0, .ref o), (1, .int (nI k))], [.ref o], M)) rfl rfl rfl ?_
    refine ps_get (S' := (76, [(0, .ref o), (1, .int (nI k))], [.ref q], M)) rfl h_o rfl rfl ?_
    refine ps_st (S' := (77, [(0, .ref o), (1, .int (nI k))], [.ref o, .ref q], M)) rfl rfl rfl ?_
    refine ps_get (S' := (80, [(0, .ref o), (1, .int (nI k))], [.ref q, .ref q], M)) rfl h_o rfl rfl ?_
    refine ps_st (S' := (81, [(0, .ref o), (1, .int (nI k))], [.int (nI k), .ref q, .ref q], M)) rfl rfl rfl ?_
    refine pl_call (a := [.ref q, .int (nI k)]) (rest := [.ref q]) rfl rfl rfl (dy_firstIndex (f := f) (n := n) (N := N) (q := q) (E := E) (j := k) (hV) (by omega)) (fun v4 M5 q6 => ?_)
    obtain ⟨rfl, rfl⟩ := q6
    show pl _ _ _ (84, [(0, .ref o), (1, .int (nI k))], [.int (nI (fi f E k)), .ref q], M) _
    refine pl_call (a := [.ref q, .int (nI (fi f E k))]) (rest := []) rfl rfl rfl (dy_isClassText (f := f) (n := n) (N := N) (q := q) (E := E) (j := (fi f E k)) (hV) (fi_lt _ _ _)) (fun v7 M8 q9 => ?_)
    obtain ⟨rfl, rfl⟩ := q9
    show pl _ _ _ (87, [(0, .ref o), (1, .int (nI k))], [.int (nI (clsN (tX f n E (fi f E k))))], M) _
    refine ps_if (S1 := (94, [(0, .ref o), (1, .int (nI k))], [], M)) (S2 := (90, [(0, .ref o), (1, .int (nI k))], [], M)) rfl rfl rfl (fun c_87 => ?_) (fun c_87 => ?_)
    · have c_87 : (nI (clsN (tX f n E (fi f E k)))) = 0 := of_decide_eq_true c_87
      have n_87 : clsN (tX f n E (fi f E k)) = 0 := (eq_nI (p := clsN (tX f n E (fi f E k))) (n := 0) (Nat.lt_trans (le1_cls _) (by decide)) (by decide)).mp c_87
      refine ps_st (S' := (96, [], [.int 10], M)) rfl rfl rfl ?_
      exact ps_ret rfl rfl (⟨congrArg (fun x => some (Value.int (nI x))) (show 10 = brkN f n E mj k from by
          unfold brkN
          first | ((repeat first | rw [if_pos (by omega)] | rw [if_neg (by omega)]) <;> first | rfl | omega) | ((repeat' split) <;> first | rfl | (exfalso; omega) | omega)), rfl⟩)
    · have c_87 : ¬ ((nI (clsN (tX f n E (fi f E k)))) = 0) := of_decide_eq_false c_87
      have n_87 : ¬ (clsN (tX f n E (fi f E k)) = 0) := fun h9 => c_87 ((eq_nI (p := clsN (tX f n E (fi f E k))) (n := 0) (Nat.lt_trans (le1_cls _) (by decide)) (by decide)).mpr h9)
      refine ps_st (S' := (91, [(0, .ref o), (1, .int (nI k))], [.int 0], M)) rfl rfl rfl ?_
      refine ps_st (S' := (96, [], [.int 0], M)) rfl rfl rfl ?_
      exact ps_ret rfl rfl (⟨congrArg (fun x => some (Value.int (nI x))) (show 0 = brkN f n E mj k from by
          unfold brkN
          first | ((repeat first | rw [if_pos (by omega)] | rw [if_neg (by omega)]) <;> first | rfl | omega) | ((repeat' split) <;> first | rfl | (exfalso; omega) | omega)), rfl⟩)
  · show pl _ _ _ (97, [(0, .ref o), (1, .int (nI k))], [], M) _
    have m_8 := sw_nat (t := tg f E k) (Nat.lt_trans (tg_lt _ _ _) (by decide)) et_8
    simp at m_8
    refine ps_st (S' := (98, [(0, .ref o), (1, .int (nI k))], [.ref o], M)) rfl rfl rfl ?_
    refine ps_st (S' := (99, [(0, .ref o), (1, .int (nI k))], [.int (nI k), .ref o], M)) rfl rfl rfl ?_
    refine pl_call (a := [.ref o, .int (nI k)]) (rest := []) rfl rfl rfl (dk_isNameWithType (f := f) (n := n) (N := N) (q := q) (E := E) (o := o) (vd := vd) (mj := mj) (k := k) h_o (hV) (hmj) (by omega)) (fun v10 M11 q12 => ?_)
    obtain ⟨rfl, rfl⟩ := q12
    show pl _ _ _ (102, [(0, .ref o), (1, .int (nI k))], [.int (nI (nwtN f n E k))], M) _
    refine ps_if (S1 := (109, [(0, .ref o), (1, .int (nI k))], [], M)) (S2 := (105, [(0, .ref o), (1, .int (nI k))], [], M)) rfl rfl rfl (fun c_102 => ?_) (fun c_102 => ?_)
    · have c_102 : (nI (nwtN f n E k)) = 0 := of_decide_eq_true c_102
      have n_102 : nwtN f n E k = 0 := (eq_nI (p := nwtN f n E k) (n := 0) (Nat.lt_trans (le1_nwt _ _ _ _) (by decide)) (by decide)).mp c_102
      refine ps_st (S' := (111, [], [.int 11], M)) rfl rfl rfl ?_
      exact ps_ret rfl rfl (⟨congrArg (fun x => some (Value.int (nI x))) (show 11 = brkN f n E mj k from by
          unfold brkN
          first | ((repeat first | rw [if_pos (by omega)] | rw [if_neg (by omega)]) <;> first | rfl | omega) | ((repeat' split) <;> first | rfl | (exfalso; omega) | omega)), rfl⟩)
    · have c_102 : ¬ ((nI (nwtN f n E k)) = 0) := of_decide_eq_false c_102
      have n_102 : ¬ (nwtN f n E k = 0) := fun h9 => c_102 ((eq_nI (p := nwtN f n E k) (n := 0) (Nat.lt_trans (le1_nwt _ _ _ _) (by decide)) (by decide)).mpr h9)
      refine ps_st (S' := (106, [(0, .ref o), (1, .int (nI k))], [.int 0], M)) rfl rfl rfl ?_
      refine ps_st (S' := (111, [], [.int 0], M)) rfl rfl rfl ?_
      exact ps_ret rfl rfl (⟨congrArg (fun x => some (Value.int (nI x))) (show 0 = brkN f n E mj k from by
          unfold brkN
          first | ((repeat first | rw [if_pos (by omega)] | rw [if_neg (by omega)]) <;> first | rfl | omega) | ((repeat' split) <;> first | rfl | (exfalso; omega) | omega)), rfl⟩)
  · show pl _ _ _ (112, [(0, .ref o), (1, .int (nI k))], [], M) _
    have m_8 := sw_nat (t := tg f E k) (Nat.lt_trans (tg_lt _ _ _) (by decide)) et_8
    simp at m_8
    refine ps_st (S' := (113, [(0, .ref o), (1, .int (nI k))], [.ref o], M)) rfl rfl rfl ?_
    refine ps_get (S' := (116, [(0, .ref o), (1, .int (nI k))], [.ref q], M)) rfl h_o rfl rfl ?_
    refine ps_st (S' := (117, [(0, .ref o), (1, .int (nI k))], [.ref o, .ref q], M)) rfl rfl rfl ?_
    refine ps_get (S' := (120, [(0, .ref o), (1, .int (nI k))], [.ref q, .ref q], M)) rfl h_o rfl rfl ?_
    refine ps_st (S' := (121, [(0, .ref o), (1, .int (nI k))], [.int (nI k), .ref q, .ref q], M)) rfl rfl rfl ?_
    refine pl_call (a := [.ref q, .int (nI k)]) (rest := [.ref q]) rfl rfl rfl (dy_descriptorOf (f := f) (n := n) (N := N) (q := q) (E := E) (j := k) (hV) (by omega)) (fun v13 M14 q15 => ?_)
    obtain ⟨rfl, rfl⟩ := q15
    show pl _ _ _ (124, [(0, .ref o), (1, .int (nI k))], [.int (nI (se f E (se f E k))), .ref q], M) _
    refine pl_call (a := [.ref q, .int (nI (se f E (se f E k)))]) (rest := []) rfl rfl rfl (dy_isFieldDescriptor (f := f) (n := n) (N := N) (q := q) (E := E) (j := (se f E (se f E k))) (hV) (se_lt _ _ _)) (fun v16 M17 q18 => ?_)
    obtain ⟨rfl, rfl⟩ := q18
    show pl _ _ _ (127, [(0, .ref o), (1, .int (nI k))], [.int (nI (fldN (tX f n E (se f E (se f E k)))))], M) _
    refine ps_if (S1 := (134, [(0, .ref o), (1, .int (nI k))], [], M)) (S2 := (130, [(0, .ref o), (1, .int (nI k))], [], M)) rfl rfl rfl (fun c_127 => ?_) (fun c_127 => ?_)
    · have c_127 : (nI (fldN (tX f n E (se f E (se f E k))))) = 0 := of_decide_eq_true c_127
      have n_127 : fldN (tX f n E (se f E (se f E k))) = 0 := (eq_nI (p := fldN (tX f n E (se f E (se f E k)))) (n := 0) (Nat.lt_trans (le1_fld _) (by decide)) (by decide)).mp c_127
      refine ps_st (S' := (136, [], [.int 12], M)) rfl rfl rfl ?_
      exact ps_ret rfl rfl (⟨congrArg (fun x => some (Value.int (nI x))) (show 12 = brkN f n E mj k from by
          unfold brkN
          first | ((repeat first | rw [if_pos (by omega)] | rw [if_neg (by omega)]) <;> first | rfl | omega) | ((repeat' split) <;> first | rfl | (exfalso; omega) | omega)), rfl⟩)
    · have c_127 : ¬ ((nI (fldN (tX f n E (se f E (se f E k))))) = 0) := of_decide_eq_false c_127
      have n_127 : ¬ (fldN (tX f n E (se f E (se f E k))) = 0) := fun h9 => c_127 ((eq_nI (p := fldN (tX f n E (se f E (se f E k)))) (n := 0) (Nat.lt_trans (le1_fld _) (by decide)) (by decide)).mpr h9)
      refine ps_st (S' := (131, [(0, .ref o), (1, .int (nI k))], [.int 0], M)) rfl rfl rfl ?_
      refine ps_st (S' := (136, [], [.int 0], M)) rfl rfl rfl ?_
      exact ps_ret rfl rfl (⟨congrArg (fun x => some (Value.int (nI x))) (show 0 = brkN f n E mj k from by
          unfold brkN
          first | ((repeat first | rw [if_pos (by omega)] | rw [if_neg (by omega)]) <;> first | rfl | omega) | ((repeat' split) <;> first | rfl | (exfalso; omega) | omega)), rfl⟩)
  · show pl _ _ _ (137, [(0, .ref o), (1, .int (nI k))], [], M) _
    have m_8 := sw_nat (t := tg f E k) (Nat.lt_trans (tg_lt _ _ _) (by decide)) et_8
    simp at m_8
    refine ps_st (S' := (138, [(0, .ref o), (1, .int (nI k))], [.ref o], M)) rfl rfl rfl ?_
    refine ps_st (S' := (139, [(0, .ref o), (1, .int (nI k))], [.int (nI k), .ref o], M)) rfl rfl rfl ?_
    refine pl_call (a := [.ref o, .int (nI k)]) (rest := []) rfl rfl rfl (dk_isMethodRef (f := f) (n := n) (N := N) (q := q) (E := E) (o := o) (vd := vd) (mj := mj) (k := k) h_o (hV) (hmj) (by omega)) (fun v19 M20 q21 => ?_)
    obtain ⟨rfl, rfl⟩ := q21
    show pl _ _ _ (142, [(0, .ref o), (1, .int (nI k))], [.int (nI (mrfN f n E k))], M) _
    refine ps_if (S1 := (149, [(0, .ref o), (1, .int (nI k))], [], M)) (S2 := (145, [(0, .ref o), (1, .int (nI k))], [], M)) rfl rfl rfl (fun c_142 => ?_) (fun c_142 => ?_)
    · have c_142 : (nI (mrfN f n E k)) = 0 := of_decide_eq_true c_142
      have n_142 : mrfN f n E k = 0 := (eq_nI (p := mrfN f n E k) (n := 0) (Nat.lt_trans (le1_mrf _ _ _ _) (by decide)) (by decide)).mp c_142
      refine ps_st (S' := (151, [], [.int 12], M)) rfl rfl rfl ?_
      exact ps_ret rfl rfl (⟨congrArg (fun x => some (Value.int (nI x))) (show 12 = brkN f n E mj k from by
          unfold brkN
          first | ((repeat first | rw [if_pos (by omega)] | rw [if_neg (by omega)]) <;> first | rfl | omega) | ((repeat' split) <;> first | rfl | (exfalso; omega) | omega)), rfl⟩)
    · have c_142 : ¬ ((nI (mrfN f n E k)) = 0) := of_decide_eq_false c_142
      have n_142 : ¬ (mrfN f n E k = 0) := fun h9 => c_142 ((eq_nI (p := mrfN f n E k) (n := 0) (Nat.lt_trans (le1_mrf _ _ _ _) (by decide)) (by decide)).mpr h9)
      refine ps_st (S' := (146, [(0, .ref o), (1, .int (nI k))], [.int 0], M)) rfl rfl rfl ?_
      refine ps_st (S' := (151, [], [.int 0], M)) rfl rfl rfl ?_
      exact ps_ret rfl rfl (⟨congrArg (fun x => some (Value.int (nI x))) (show 0 = brkN f n E mj k from by
          unfold brkN
          first | ((repeat first | rw [if_pos (by omega)] | rw [if_neg (by omega)]) <;> first | rfl | omega) | ((repeat' split) <;> first | rfl | (exfalso; omega) | omega)), rfl⟩)
  · show pl _ _ _ (152, [(0, .ref o), (1, .int (nI k))], [], M) _
    have m_8 := sw_nat (t := tg f E k) (Nat.lt_trans (tg_lt _ _ _) (by decide)) et_8
    simp at m_8
    refine ps_st (S' := (153, [(0, .ref o), (1, .int (nI k))], [.ref o], M)) rfl rfl rfl ?_
    refine ps_st (S' := (154, [(0, .ref o), (1, .int (nI k))], [.ref o, .ref o], M)) rfl rfl rfl ?_
    refine ps_get (S' := (157, [(0, .ref o), (1, .int (nI k))], [.ref q, .ref o], M)) rfl h_o rfl rfl ?_
    refine ps_st (S' := (158, [(0, .ref o), (1, .int (nI k))], [.int (nI k), .ref q, .ref o], M)) rfl rfl rfl ?_
    refine pl_call (a := [.ref q, .int (nI k)]) (rest := [.ref o]) rfl rfl rfl (dy_firstIndex (f := f) (n := n) (N := N) (q := q) (E := E) (j := k) (hV) (by omega)) (fun v22 M23 q24 => ?_)
    obtain ⟨rfl, rfl⟩ := q24
    show pl _ _ _ (161, [(0, .ref o), (1, .int (nI k))], [.int (nI (fi f E k)), .ref o], M) _
    refine ps_st (S' := (162, [(0, .ref o), (1, .int (nI k))], [.ref o, .int (nI (fi f E k)), .ref o], M)) rfl rfl rfl ?_
    refine ps_get (S' := (165, [(0, .ref o), (1, .int (nI k))], [.ref q, .int (nI (fi f E k)), .ref o], M)) rfl h_o rfl rfl ?_
    refine ps_st (S' := (166, [(0, .ref o), (1, .int (nI k))], [.int (nI k), .ref q, .int (nI (fi f E k)), .ref o], M)) rfl rfl rfl ?_
    refine pl_call (a := [.ref q, .int (nI k)]) (rest := [.int (nI (fi f E k)), .ref o]) rfl rfl rfl (dy_secondIndex (f := f) (n := n) (N := N) (q := q) (E := E) (j := k) (hV) (by omega)) (fun v25 M26 q27 => ?_)
    obtain ⟨rfl, rfl⟩ := q27
    show pl _ _ _ (169, [(0, .ref o), (1, .int (nI k))], [.int (nI (se f E k)), .int (nI (fi f E k)), .ref o], M) _
    refine pl_call (a := [.ref o, .int (nI (fi f E k)), .int (nI (se f E k))]) (rest := []) rfl rfl rfl (dk_isHandle (f := f) (n := n) (N := N) (q := q) (E := E) (o := o) (vd := vd) (mj := mj) (d := (fi f E k)) (e := (se f E k)) h_o (hV) (hmj) (fi_lt _ _ _) (se_lt _ _ _)) (fun v28 M29 q30 => ?_)
    obtain ⟨rfl, rfl⟩ := q30
    show pl _ _ _ (172, [(0, .ref o), (1, .int (nI k))], [.int (nI (hdlN f n E mj (fi f E k) (se f E k)))], M) _
    refine ps_if (S1 := (179, [(0, .ref o), (1, .int (nI k))], [], M)) (S2 := (175, [(0, .ref o), (1, .int (nI k))], [], M)) rfl rfl rfl (fun c_172 => ?_) (fun c_172 => ?_)
    · have c_172 : (nI (hdlN f n E mj (fi f E k) (se f E k))) = 0 := of_decide_eq_true c_172
      have n_172 : hdlN f n E mj (fi f E k) (se f E k) = 0 := (eq_nI (p := hdlN f n E mj (fi f E k) (se f E k)) (n := 0) (Nat.lt_trans (le1_hdl _ _ _ _ _ _) (by decide)) (by decide)).mp c_172
      refine ps_st (S' := (181, [], [.int 13], M)) rfl rfl rfl ?_
      exact ps_ret rfl rfl (⟨congrArg (fun x => some (Value.int (nI x))) (show 13 = brkN f n E mj k from by
          unfold brkN
          first | ((repeat first | rw [if_pos (by omega)] | rw [if_neg (by omega)]) <;> first | rfl | omega) | ((repeat' split) <;> first | rfl | (exfalso; omega) | omega)), rfl⟩)
    · have c_172 : ¬ ((nI (hdlN f n E mj (fi f E k) (se f E k))) = 0) := of_decide_eq_false c_172
      have n_172 : ¬ (hdlN f n E mj (fi f E k) (se f E k) = 0) := fun h9 => c_172 ((eq_nI (p := hdlN f n E mj (fi f E k) (se f E k)) (n := 0) (Nat.lt_trans (le1_hdl _ _ _ _ _ _) (by decide)) (by decide)).mpr h9)
      refine ps_st (S' := (176, [(0, .ref o), (1, .int (nI k))], [.int 0], M)) rfl rfl rfl ?_
      refine ps_st (S' := (181, [], [.int 0], M)) rfl rfl rfl ?_
      exact ps_ret rfl rfl (⟨congrArg (fun x => some (Value.int (nI x))) (show 0 = brkN f n E mj k from by
          unfold brkN
          first | ((repeat first | rw [if_pos (by omega)] | rw [if_neg (by omega)]) <;> first | rfl | omega) | ((repeat' split) <;> first | rfl | (exfalso; omega) | omega)), rfl⟩)
  · show pl _ _ _ (182, [(0, .ref o), (1, .int (nI k))], [], M) _
    have m_8 := sw_nat (t := tg f E k) (Nat.lt_trans (tg_lt _ _ _) (by decide)) et_8
    simp at m_8
    refine ps_st (S' := (183, [(0, .ref o), (1, .int (nI k))], [.ref o], M)) rfl rfl rfl ?_
    refine ps_get (S' := (186, [(0, .ref o), (1, .int (nI k))], [.ref q], M)) rfl h_o rfl rfl ?_
    refine ps_st (S' := (187, [(0, .ref o), (1, .int (nI k))], [.ref o, .ref q], M)) rfl rfl rfl ?_
    refine ps_get (S' := (190, [(0, .ref o), (1, .int (nI k))], [.ref q, .ref q], M)) rfl h_o rfl rfl ?_
    refine ps_st (S' := (191, [(0, .ref o), (1, .int (nI k))], [.int (nI k), .ref q, .ref q], M)) rfl rfl rfl ?_
    refine pl_call (a := [.ref q, .int (nI k)]) (rest := [.ref q]) rfl rfl rfl (dy_firstIndex (f := f) (n := n) (N := N) (q := q) (E := E) (j := k) (hV) (by omega)) (fun v31 M32 q33 => ?_)
    obtain ⟨rfl, rfl⟩ := q33
    show pl _ _ _ (194, [(0, .ref o), (1, .int (nI k))], [.int (nI (fi f E k)), .ref q], M) _
    refine pl_call (a := [.ref q, .int (nI (fi f E k))]) (rest := []) rfl rfl rfl (dy_isMethodDescriptor (f := f) (n := n) (N := N) (q := q) (E := E) (j := (fi f E k)) (hV) (fi_lt _ _ _)) (fun v34 M35 q36 => ?_)
    obtain ⟨rfl, rfl⟩ := q36
    show pl _ _ _ (197, [(0, .ref o), (1, .int (nI k))], [.int (nI (mthN (tX f n E (fi f E k))))], M) _
    refine ps_if (S1 := (204, [(0, .ref o), (1, .int (nI k))], [], M)) (S2 := (200, [(0, .ref o), (1, .int (nI k))], [], M)) rfl rfl rfl (fun c_197 => ?_) (fun c_197 => ?_)
    · have c_197 : (nI (mthN (tX f n E (fi f E k)))) = 0 := of_decide_eq_true c_197
      have n_197 : mthN (tX f n E (fi f E k)) = 0 := (eq_nI (p := mthN (tX f n E (fi f E k))) (n := 0) (Nat.lt_trans (le1_mth _) (by decide)) (by decide)).mp c_197
      refine ps_st (S' := (206, [], [.int 14], M)) rfl rfl rfl ?_
      exact ps_ret rfl rfl (⟨congrArg (fun x => some (Value.int (nI x))) (show 14 = brkN f n E mj k from by
          unfold brkN
          first | ((repeat first | rw [if_pos (by omega)] | rw [if_neg (by omega)]) <;> first | rfl | omega) | ((repeat' split) <;> first | rfl | (exfalso; omega) | omega)), rfl⟩)
    · have c_197 : ¬ ((nI (mthN (tX f n E (fi f E k)))) = 0) := of_decide_eq_false c_197
      have n_197 : ¬ (mthN (tX f n E (fi f E k)) = 0) := fun h9 => c_197 ((eq_nI (p := mthN (tX f n E (fi f E k))) (n := 0) (Nat.lt_trans (le1_mth _) (by decide)) (by decide)).mpr h9)
      refine ps_st (S' := (201, [(0, .ref o), (1, .int (nI k))], [.int 0], M)) rfl rfl rfl ?_
      refine ps_st (S' := (206, [], [.int 0], M)) rfl rfl rfl ?_
      exact ps_ret rfl rfl (⟨congrArg (fun x => some (Value.int (nI x))) (show 0 = brkN f n E mj k from by
          unfold brkN
          first | ((repeat first | rw [if_pos (by omega)] | rw [if_neg (by omega)]) <;> first | rfl | omega) | ((repeat' split) <;> first | rfl | (exfalso; omega) | omega)), rfl⟩)
  · show pl _ _ _ (207, [(0, .ref o), (1, .int (nI k))], [], M) _
    have m_8 := sw_nat (t := tg f E k) (Nat.lt_trans (tg_lt _ _ _) (by decide)) et_8
    simp at m_8
    refine ps_st (S' := (208, [(0, .ref o), (1, .int (nI k))], [.ref o], M)) rfl rfl rfl ?_
    refine ps_get (S' := (211, [(0, .ref o), (1, .int (nI k))], [.ref q], M)) rfl h_o rfl rfl ?_
    refine ps_st (S' := (212, [(0, .ref o), (1, .int (nI k))], [.ref o, .ref q], M)) rfl rfl rfl ?_
    refine ps_get (S' := (215, [(0, .ref o), (1, .int (nI k))], [.ref q, .ref q], M)) rfl h_o rfl rfl ?_
    refine ps_st (S' := (216, [(0, .ref o), (1, .int (nI k))], [.int (nI k), .ref q, .ref q], M)) rfl rfl rfl ?_
    refine pl_call (a := [.ref q, .int (nI k)]) (rest := [.ref q]) rfl rfl rfl (dy_descriptorOf (f := f) (n := n) (N := N) (q := q) (E := E) (j := k) (hV) (by omega)) (fun v37 M38 q39 => ?_)
    obtain ⟨rfl, rfl⟩ := q39
    show pl _ _ _ (219, [(0, .ref o), (1, .int (nI k))], [.int (nI (se f E (se f E k))), .ref q], M) _
    refine pl_call (a := [.ref q, .int (nI (se f E (se f E k)))]) (rest := []) rfl rfl rfl (dy_isFieldDescriptor (f := f) (n := n) (N := N) (q := q) (E := E) (j := (se f E (se f E k))) (hV) (se_lt _ _ _)) (fun v40 M41 q42 => ?_)
    obtain ⟨rfl, rfl⟩ := q42
    show pl _ _ _ (222, [(0, .ref o), (1, .int (nI k))], [.int (nI (fldN (tX f n E (se f E (se f E k)))))], M) _
    refine ps_if (S1 := (247, [], [], M)) (S2 := (225, [(0, .ref o), (1, .int (nI k))], [], M)) rfl rfl rfl (fun c_222 => ?_) (fun c_222 => ?_)
    · have c_222 : (nI (fldN (tX f n E (se f E (se f E k))))) = 0 := of_decide_eq_true c_222
      have n_222 : fldN (tX f n E (se f E (se f E k))) = 0 := (eq_nI (p := fldN (tX f n E (se f E (se f E k)))) (n := 0) (Nat.lt_trans (le1_fld _) (by decide)) (by decide)).mp c_222
      refine ps_st (S' := (249, [], [.int 14], M)) rfl rfl rfl ?_
      exact ps_ret rfl rfl (⟨congrArg (fun x => some (Value.int (nI x))) (show 14 = brkN f n E mj k from by
          unfold brkN
          first | ((repeat first | rw [if_pos (by omega)] | rw [if_neg (by omega)]) <;> first | rfl | omega) | ((repeat' split) <;> first | rfl | (exfalso; omega) | omega)), rfl⟩)
    · have c_222 : ¬ ((nI (fldN (tX f n E (se f E (se f E k))))) = 0) := of_decide_eq_false c_222
      have n_222 : ¬ (fldN (tX f n E (se f E (se f E k))) = 0) := fun h9 => c_222 ((eq_nI (p := fldN (tX f n E (se f E (se f E k)))) (n := 0) (Nat.lt_trans (le1_fld _) (by decide)) (by decide)).mpr h9)
      refine ps_st (S' := (226, [(0, .ref o), (1, .int (nI k))], [.ref o], M)) rfl rfl rfl ?_
      refine ps_get (S' := (229, [(0, .ref o), (1, .int (nI k))], [.ref q], M)) rfl h_o rfl rfl ?_
      refine ps_st (S' := (230, [(0, .ref o), (1, .int (nI k))], [.ref o, .ref q], M)) rfl rfl rfl ?_
      refine ps_get (S' := (233, [(0, .ref o), (1, .int (nI k))], [.ref q, .ref q], M)) rfl h_o rfl rfl ?_
      refine ps_st (S' := (234, [(0, .ref o), (1, .int (nI k))], [.int (nI k), .ref q, .ref q], M)) rfl rfl rfl ?_
      refine pl_call (a := [.ref q, .int (nI k)]) (rest := [.ref q]) rfl rfl rfl (dy_nameOf (f := f) (n := n) (N := N) (q := q) (E := E) (j := k) (hV) (by omega)) (fun v43 M44 q45 => ?_)
      obtain ⟨rfl, rfl⟩ := q45
      show pl _ _ _ (237, [(0, .ref o), (1, .int (nI k))], [.int (nI (fi f E (se f E k))), .ref q], M) _
      refine pl_call (a := [.ref q, .int (nI (fi f E (se f E k)))]) (rest := []) rfl rfl rfl (dy_hasAngle (f := f) (n := n) (N := N) (q := q) (E := E) (j := (fi f E (se f E k))) (hV) (fi_lt _ _ _)) (fun v46 M47 q48 => ?_)
      obtain ⟨rfl, rfl⟩ := q48
      show pl _ _ _ (240, [(0, .ref o), (1, .int (nI k))], [.int (nI (angN (tX f n E (fi f E (se f E k)))))], M) _
      refine ps_if (S1 := (247, [], [], M)) (S2 := (243, [(0, .ref o), (1, .int (nI k))], [], M)) rfl rfl rfl (fun c_240 => ?_) (fun c_240 => ?_)
      · have c_240 : ¬ (nI (angN (tX f n E (fi f E (se f E k))))) = 0 := of_decide_eq_true c_240
        have n_240 : ¬ (angN (tX f n E (fi f E (se f E k))) = 0) := fun h9 => c_240 ((eq_nI (p := angN (tX f n E (fi f E (se f E k)))) (n := 0) (Nat.lt_trans (le1_ang _) (by decide)) (by decide)).mpr h9)
        refine ps_st (S' := (249, [], [.int 14], M)) rfl rfl rfl ?_
        exact ps_ret rfl rfl (⟨congrArg (fun x => some (Value.int (nI x))) (show 14 = brkN f n E mj k from by
            unfold brkN
            first | ((repeat first | rw [if_pos (by omega)] | rw [if_neg (by omega)]) <;> first | rfl | omega) | ((repeat' split) <;> first | rfl | (exfalso; omega) | omega)), rfl⟩)
      · have c_240 : ¬ (¬ (nI (angN (tX f n E (fi f E (se f E k))))) = 0) := of_decide_eq_false c_240
        have n_240 : angN (tX f n E (fi f E (se f E k))) = 0 := (eq_nI (p := angN (tX f n E (fi f E (se f E k)))) (n := 0) (Nat.lt_trans (le1_ang _) (by decide)) (by decide)).mp (Decidable.not_not.mp c_240)
        refine ps_st (S' := (244, [(0, .ref o), (1, .int (nI k))], [.int 0], M)) rfl rfl rfl ?_
        refine ps_st (S' := (249, [], [.int 0], M)) rfl rfl rfl ?_
        exact ps_ret rfl rfl (⟨congrArg (fun x => some (Value.int (nI x))) (show 0 = brkN f n E mj k from by
            unfold brkN
            first | ((repeat first | rw [if_pos (by omega)] | rw [if_neg (by omega)]) <;> first | rfl | omega) | ((repeat' split) <;> first | rfl | (exfalso; omega) | omega)), rfl⟩)
  · show pl _ _ _ (250, [(0, .ref o), (1, .int (nI k))], [], M) _
    have m_8 := sw_nat (t := tg f E k) (Nat.lt_trans (tg_lt _ _ _) (by decide)) et_8
    simp at m_8
    refine ps_st (S' := (251, [(0, .ref o), (1, .int (nI k))], [.ref o], M)) rfl rfl rfl ?_
    refine ps_get (S' := (254, [(0, .ref o), (1, .int (nI k))], [.ref q], M)) rfl h_o rfl rfl ?_
    refine ps_st (S' := (255, [(0, .ref o), (1, .int (nI k))], [.ref o, .ref q], M)) rfl rfl rfl ?_
    refine ps_get (S' := (258, [(0, .ref o), (1, .int (nI k))], [.ref q, .ref q], M)) rfl h_o rfl rfl ?_
    refine ps_st (S' := (259, [(0, .ref o), (1, .int (nI k))], [.int (nI k), .ref q, .ref q], M)) rfl rfl rfl ?_
    refine pl_call (a := [.ref q, .int (nI k)]) (rest := [.ref q]) rfl rfl rfl (dy_descriptorOf (f := f) (n := n) (N := N) (q := q) (E := E) (j := k) (hV) (by omega)) (fun v49 M50 q51 => ?_)
    obtain ⟨rfl, rfl⟩ := q51
    show pl _ _ _ (262, [(0, .ref o), (1, .int (nI k))], [.int (nI (se f E (se f E k))), .ref q], M) _
    refine pl_call (a := [.ref q, .int (nI (se f E (se f E k)))]) (rest := []) rfl rfl rfl (dy_isMethodDescriptor (f := f) (n := n) (N := N) (q := q) (E := E) (j := (se f E (se f E k))) (hV) (se_lt _ _ _)) (fun v52 M53 q54 => ?_)
    obtain ⟨rfl, rfl⟩ := q54
    show pl _ _ _ (265, [(0, .ref o), (1, .int (nI k))], [.int (nI (mthN (tX f n E (se f E (se f E k)))))], M) _
    refine ps_if (S1 := (290, [], [], M)) (S2 := (268, [(0, .ref o), (1, .int (nI k))], [], M)) rfl rfl rfl (fun c_265 => ?_) (fun c_265 => ?_)
    · have c_265 : (nI (mthN (tX f n E (se f E (se f E k))))) = 0 := of_decide_eq_true c_265
      have n_265 : mthN (tX f n E (se f E (se f E k))) = 0 := (eq_nI (p := mthN (tX f n E (se f E (se f E k)))) (n := 0) (Nat.lt_trans (le1_mth _) (by decide)) (by decide)).mp c_265
      refine ps_st (S' := (292, [], [.int 14], M)) rfl rfl rfl ?_
      exact ps_ret rfl rfl (⟨congrArg (fun x => some (Value.int (nI x))) (show 14 = brkN f n E mj k from by
          unfold brkN
          first | ((repeat first | rw [if_pos (by omega)] | rw [if_neg (by omega)]) <;> first | rfl | omega) | ((repeat' split) <;> first | rfl | (exfalso; omega) | omega)), rfl⟩)
    · have c_265 : ¬ ((nI (mthN (tX f n E (se f E (se f E k))))) = 0) := of_decide_eq_false c_265
      have n_265 : ¬ (mthN (tX f n E (se f E (se f E k))) = 0) := fun h9 => c_265 ((eq_nI (p := mthN (tX f n E (se f E (se f E k)))) (n := 0) (Nat.lt_trans (le1_mth _) (by decide)) (by decide)).mpr h9)
      refine ps_st (S' := (269, [(0, .ref o), (1, .int (nI k))], [.ref o], M)) rfl rfl rfl ?_
      refine ps_get (S' := (272, [(0, .ref o), (1, .int (nI k))], [.ref q], M)) rfl h_o rfl rfl ?_
      refine ps_st (S' := (273, [(0, .ref o), (1, .int (nI k))], [.ref o, .ref q], M)) rfl rfl rfl ?_
      refine ps_get (S' := (276, [(0, .ref o), (1, .int (nI k))], [.ref q, .ref q], M)) rfl h_o rfl rfl ?_
      refine ps_st (S' := (277, [(0, .ref o), (1, .int (nI k))], [.int (nI k), .ref q, .ref q], M)) rfl rfl rfl ?_
      refine pl_call (a := [.ref q, .int (nI k)]) (rest := [.ref q]) rfl rfl rfl (dy_nameOf (f := f) (n := n) (N := N) (q := q) (E := E) (j := k) (hV) (by omega)) (fun v55 M56 q57 => ?_)
      obtain ⟨rfl, rfl⟩ := q57
      show pl _ _ _ (280, [(0, .ref o), (1, .int (nI k))], [.int (nI (fi f E (se f E k))), .ref q], M) _
      refine pl_call (a := [.ref q, .int (nI (fi f E (se f E k)))]) (rest := []) rfl rfl rfl (dy_hasAngle (f := f) (n := n) (N := N) (q := q) (E := E) (j := (fi f E (se f E k))) (hV) (fi_lt _ _ _)) (fun v58 M59 q60 => ?_)
      obtain ⟨rfl, rfl⟩ := q60
      show pl _ _ _ (283, [(0, .ref o), (1, .int (nI k))], [.int (nI (angN (tX f n E (fi f E (se f E k)))))], M) _
      refine ps_if (S1 := (290, [], [], M)) (S2 := (286, [(0, .ref o), (1, .int (nI k))], [], M)) rfl rfl rfl (fun c_283 => ?_) (fun c_283 => ?_)
      · have c_283 : ¬ (nI (angN (tX f n E (fi f E (se f E k))))) = 0 := of_decide_eq_true c_283
        have n_283 : ¬ (angN (tX f n E (fi f E (se f E k))) = 0) := fun h9 => c_283 ((eq_nI (p := angN (tX f n E (fi f E (se f E k)))) (n := 0) (Nat.lt_trans (le1_ang _) (by decide)) (by decide)).mpr h9)
        refine ps_st (S' := (292, [], [.int 14], M)) rfl rfl rfl ?_
        exact ps_ret rfl rfl (⟨congrArg (fun x => some (Value.int (nI x))) (show 14 = brkN f n E mj k from by
            unfold brkN
            first | ((repeat first | rw [if_pos (by omega)] | rw [if_neg (by omega)]) <;> first | rfl | omega) | ((repeat' split) <;> first | rfl | (exfalso; omega) | omega)), rfl⟩)
      · have c_283 : ¬ (¬ (nI (angN (tX f n E (fi f E (se f E k))))) = 0) := of_decide_eq_false c_283
        have n_283 : angN (tX f n E (fi f E (se f E k))) = 0 := (eq_nI (p := angN (tX f n E (fi f E (se f E k)))) (n := 0) (Nat.lt_trans (le1_ang _) (by decide)) (by decide)).mp (Decidable.not_not.mp c_283)
        refine ps_st (S' := (287, [(0, .ref o), (1, .int (nI k))], [.int 0], M)) rfl rfl rfl ?_
        refine ps_st (S' := (292, [], [.int 0], M)) rfl rfl rfl ?_
        exact ps_ret rfl rfl (⟨congrArg (fun x => some (Value.int (nI x))) (show 0 = brkN f n E mj k from by
            unfold brkN
            first | ((repeat first | rw [if_pos (by omega)] | rw [if_neg (by omega)]) <;> first | rfl | omega) | ((repeat' split) <;> first | rfl | (exfalso; omega) | omega)), rfl⟩)
  · show pl _ _ _ (293, [(0, .ref o), (1, .int (nI k))], [], M) _
    have m_8 := sw_nat (t := tg f E k) (Nat.lt_trans (tg_lt _ _ _) (by decide)) et_8
    simp at m_8
    refine ps_st (S' := (294, [(0, .ref o), (1, .int (nI k))], [.int 0], M)) rfl rfl rfl ?_
    exact ps_ret rfl rfl (⟨congrArg (fun x => some (Value.int (nI x))) (show 0 = brkN f n E mj k from by
        unfold brkN
        first | ((repeat first | rw [if_pos (by omega)] | rw [if_neg (by omega)]) <;> first | rfl | omega) | ((repeat' split) <;> first | rfl | (exfalso; omega) | omega)), rfl⟩)
theorem dk_wrong {g : xe_G} {M : mi_H} {vd : Nat} {ru wa x1 x2 : Int32} (h_vd : M.1 vd = some (ob 10 [.int ru, .int wa]))  : pt (mT g) 172 [.ref vd, .int x1, .int x2] M (fun v M' => (v = some (.int 0) ∧ M'.1 vd = some (ob 10 [.int x1, .int x2]) ∧ fm [vd] M M')) := dx_wrong h_vd
set_option maxHeartbeats 1000000 in
theorem dk_entriesHold {g : xe_G} {M : mi_H} {f : Nat → Int32} {n N q : Nat} {E : List (Nat × Nat)} {o vd mj : Nat} {ru wa : Int32} (h_o : M.1 o = some (ob 8 [.ref q, .int (nI mj), .ref vd])) (h_vd : M.1 vd = some (ob 10 [.int ru, .int wa])) (hmj : mj < 65536) (hV : PV g f n N E q M) : pt (mT g) 146 [.ref o] M (fun v M' => ((chkP f n E mj (N - 1) 1 = none) ∧ v = some (.int 1) ∧ M'.1 vd = some (ob 10 [.int ru, .int wa]) ∧ fm [vd] M M') ∨ (∃ (e : Nat × Nat), (chkP f n E mj (N - 1) 1 = some e) ∧ v = some (.int 0) ∧ M'.1 vd = some (ob 10 [.int (nI e.1), .int (nI e.2)]) ∧ fm [vd] M M')) := by
  refine pt_in (b := mb_146 g) rfl (fun kf => ?_)
  show pl (mT g) kf (mb_146 g).2 (0, [(0, .ref o)], [], M) _
  have hF : fm [vd] M M := fm.rf
  have hV0 := hV
  obtain ⟨hL, H, m, qq, F, cc, hP, hT, hB, hb, hVF, hS⟩ := hV0
  have h_q := hP.1
  have LL : ∀ (kf : Nat), (∀ (k : Nat) (M1 : mi_H), (M1.1 o = some (ob 8 [.ref q, .int (nI mj), .ref vd])) → (M1.1 vd = some (ob 10 [.int ru, .int wa])) → (M1.1 q = some (ob 7 [.int (nI N), .ref (qq 1), .ref (qq 2), .ref (qq 3), .ref (qq 4), .ref (qq 5), .ref (qq 6), .int cc])) → (PV g f n N E q M1) → (fm [vd] M M1) → (1 ≤ k ∧ (k ≤ N ∨ k = 1)) → (chkP f n E mj (N - k) k = chkP f n E mj (N - 1) 1) →  pl (mT g) kf (mb_146 g).2 (2, [(0, .ref o), (1, .int (nI k))], [], M1) (fun v M' => ((chkP f n E mj (N - 1) 1 = none) ∧ v = some (.int 1) ∧ M'.1 vd = some (ob 10 [.int ru, .int wa]) ∧ fm [vd] M M') ∨ (∃ (e : Nat × Nat), (chkP f n E mj (N - 1) 1 = some e) ∧ v = some (.int 0) ∧ M'.1 vd = some (ob 10 [.int (nI e.1), .int (nI e.2)]) ∧ fm [vd] M M'))) := by
    intro kf
    induction kf with
    | zero => exact (by intros; exact pl_0)
    | succ kf ih =>
      intro k M1 hl_o hl_vd hl_q hV1 hF1 hk hs
      refine ps_st1 (S' := (3, [(0, .ref o), (1, .int (nI k))], [.int (nI k)], M1)) rfl rfl rfl ?_
      refine ps_st (S' := (4, [(0, .ref o), (1, .int (nI k))], [.ref o, .int (nI k)], M1)) rfl rfl rfl ?_
      refine ps_get (S' := (7, [(0, .ref o), (1, .int (nI k))], [.ref q, .int (nI k)], M1)) rfl hl_o rfl rfl ?_
      refine ps_get (S' := (10, [(0, .ref o), (1, .int (nI k))], [.int (nI N), .int (nI k)], M1)) rfl hl_q rfl rfl ?_
      refine ps_if2 (S1 := (59, [(0, .ref o), (1, .int (nI k))], [], M1)) (S2 := (13, [(0, .ref o), (1, .int (nI k))], [], M1)) rfl rfl rfl (fun c_10 => ?_) (fun c_10 => ?_)
      · have c_10 : (nI N) ≤ (nI k) := of_decide_eq_true c_10
        have n_10 : N ≤ k := (le_nI (p := N) (n := k) (by omega) (by omega)).mp c_10
        refine ps_st (S' := (60, [(0, .ref o), (1, .int (nI k))], [.int 1], M1)) rfl rfl rfl ?_
        exact ps_ret rfl rfl (Or.inl ⟨by rw [← hs, show N - k = 0 by omega]; rfl, rfl, hl_vd, hF1⟩)
      · have c_10 : ¬ ((nI N) ≤ (nI k)) := of_decide_eq_false c_10
        have n_10 : ¬ (N ≤ k) := fun h9 => c_10 ((le_nI (p := N) (n := k) (by omega) (by omega)).mpr h9)
        refine ps_st (S' := (14, [(0, .ref o), (1, .int (nI k))], [.ref o], M1)) rfl rfl rfl ?_
        refine ps_st (S' := (15, [(0, .ref o), (1, .int (nI k))], [.int (nI k), .ref o], M1)) rfl rfl rfl ?_
        refine pl_call (a := [.ref o, .int (nI k)]) (rest := []) rfl rfl rfl (dk_linksHold (f := f) (n := n) (N := N) (q := q) (E := E) (o := o) (vd := vd) (mj := mj) (k := k) hl_o (hV1) (hmj) (by omega)) (fun v1 M2 q3 => ?_)
        obtain ⟨rfl, rfl⟩ := q3
        show pl _ _ _ (18, [(0, .ref o), (1, .int (nI k))], [.int (nI (lnkN f E k))], M1) _
        refine ps_if (S1 := (29, [(0, .ref o), (1, .int (nI k))], [], M1)) (S2 := (21, [(0, .ref o), (1, .int (nI k))], [], M1)) rfl rfl rfl (fun c_18 => ?_) (fun c_18 => ?_)
        · have c_18 : (nI (lnkN f E k)) = 0 := of_decide_eq_true c_18
          have n_18 : lnkN f E k = 0 := (eq_nI (p := lnkN f E k) (n := 0) (Nat.lt_trans (le1_lnk _ _ _) (by decide)) (by decide)).mp c_18
          refine ps_st (S' := (31, [(0, .ref o), (1, .int (nI k))], [.int 9], M1)) rfl rfl rfl ?_
          refine ps_st (S' := (32, [(2, .int 9), (0, .ref o), (1, .int (nI k))], [], M1)) rfl rfl rfl ?_
          refine ps_st (S' := (33, [(2, .int 9), (0, .ref o), (1, .int (nI k))], [.int 9], M1)) rfl rfl rfl ?_
          refine ps_if (S1 := (53, [(2, .int 9), (0, .ref o), (1, .int (nI k))], [], M1)) (S2 := (36, [(2, .int 9), (0, .ref o), (1, .int (nI k))], [], M1)) rfl rfl rfl (fun c_33 => ?_) (fun c_33 => ?_)
          · exact absurd (of_decide_eq_true c_33) (by decide)
          refine ps_st (S' := (37, [(2, .int 9), (0, .ref o), (1, .int (nI k))], [.ref o], M1)) rfl rfl rfl ?_
          refine ps_get (S' := (40, [(2, .int 9), (0, .ref o), (1, .int (nI k))], [.ref vd], M1)) rfl hl_o rfl rfl ?_
          refine ps_st (S' := (41, [(2, .int 9), (0, .ref o), (1, .int (nI k))], [.int 9, .ref vd], M1)) rfl rfl rfl ?_
          refine ps_st (S' := (42, [(2, .int 9), (0, .ref o), (1, .int (nI k))], [.ref o, .int 9, .ref vd], M1)) rfl rfl rfl ?_
          refine ps_get (S' := (45, [(2, .int 9), (0, .ref o), (1, .int (nI k))], [.ref q, .int 9, .ref vd], M1)) rfl hl_o rfl rfl ?_
          refine ps_st (S' := (46, [(2, .int 9), (0, .ref o), (1, .int (nI k))], [.int (nI k), .ref q, .int 9, .ref vd], M1)) rfl rfl rfl ?_
          have ht9 := lnk_t (f := f) (E := E) (k := k) (by omega)
          refine pl_call (a := [.ref q, .int (nI k)]) (rest := [.int 9, .ref vd]) rfl rfl rfl (dy_tagPlace (f := f) (n := n) (N := N) (q := q) (E := E) (j := k) (p := (tp E k)) (hV1) (by omega) (tp_of ht9) (ht9)) (fun v4 M5 q6 => ?_)
          obtain ⟨rfl, rfl⟩ := q6
          show pl _ _ _ (49, [(2, .int 9), (0, .ref o), (1, .int (nI k))], [.int (nI ((tp E k))), .int 9, .ref vd], M1) _
          refine pl_call (a := [.ref vd, .int 9, .int (nI ((tp E k)))]) (rest := []) rfl rfl rfl (dk_wrong (vd := vd) (ru := ru) (wa := wa) (x1 := 9) (x2 := (nI ((tp E k)))) hl_vd) (fun v7 M8 q9 => ?_)
          obtain ⟨rfl, h10, f11⟩ := q9
          have h13 := (f11.1 o (nin1 (ob_ne hl_o hl_vd (by decide)))).trans hl_o
          have h14 := (f11.1 q (nin1 (ob_ne hl_q hl_vd (by decide)))).trans hl_q
          have hF15 := hF1.tr f11 (by simp)
          have hV16 := hV1.keep f11.gm (n7c hl_vd (by decide) (n7nil))
          show pl _ _ _ (52, [(2, .int 9), (0, .ref o), (1, .int (nI k))], [.int 0], M8) _
          exact ps_ret rfl rfl (Or.inr ⟨(9, tp E k), by
              rw [← hs, chkP_st (k := k) (by omega)]
              repeat' split
              all_goals first | rfl | (exfalso; omega), rfl, h10, hF15⟩)
        · have c_18 : ¬ ((nI (lnkN f E k)) = 0) := of_decide_eq_false c_18
          have n_18 : ¬ (lnkN f E k = 0) := fun h9 => c_18 ((eq_nI (p := lnkN f E k) (n := 0) (Nat.lt_trans (le1_lnk _ _ _) (by decide)) (by decide)).mpr h9)
          refine ps_st (S' := (22, [(0, .ref o), (1, .int (nI k))], [.ref o], M1)) rfl rfl rfl ?_
          refine ps_st (S' := (23, [(0, .ref o), (1, .int (nI k))], [.int (nI k), .ref o], M1)) rfl rfl rfl ?_
          refine pl_call (a := [.ref o, .int (nI k)]) (rest := []) rfl rfl rfl (dk_brokenRule (f := f) (n := n) (N := N) (q := q) (E := E) (o := o) (vd := vd) (mj := mj) (k := k) hl_o (hV1) (hmj) (by omega)) (fun v17 M18 q19 => ?_)
          obtain ⟨rfl, rfl⟩ := q19
          show pl _ _ _ (26, [(0, .ref o), (1, .int (nI k))], [.int (nI (brkN f n E mj k))], M1) _
          refine ps_st (S' := (31, [(0, .ref o), (1, .int (nI k))], [.int (nI (brkN f n E mj k))], M1)) rfl rfl rfl ?_
          refine ps_st (S' := (32, [(2, .int (nI (brkN f n E mj k))), (0, .ref o), (1, .int (nI k))], [], M1)) rfl rfl rfl ?_
          refine ps_st (S' := (33, [(2, .int (nI (brkN f n E mj k))), (0, .ref o), (1, .int (nI k))], [.int (nI (brkN f n E mj k))], M1)) rfl rfl rfl ?_
          refine ps_if (S1 := (53, [(2, .int (nI (brkN f n E mj k))), (0, .ref o), (1, .int (nI k))], [], M1)) (S2 := (36, [(2, .int (nI (brkN f n E mj k))), (0, .ref o), (1, .int (nI k))], [], M1)) rfl rfl rfl (fun c_33 => ?_) (fun c_33 => ?_)
          · have c_33 : (nI (brkN f n E mj k)) = 0 := of_decide_eq_true c_33
            have n_33 : brkN f n E mj k = 0 := (eq_nI (p := brkN f n E mj k) (n := 0) (Nat.lt_trans (le_brk _ _ _ _ _) (by decide)) (by decide)).mp c_33
            refine ps_st (S' := (56, [(1, .int ((nI k) + 1)), (2, .int (nI (brkN f n E mj k))), (0, .ref o)], [], M1)) rfl rfl rfl ?_
            rw [nI_add1 (p := k) (k := 1) (x := 1) rfl (by omega)]
            show pl _ _ _ (_, [(1, .int (nI (k + 1))), (2, .int (nI (brkN f n E mj k))), (0, .ref o)], [], M1) _
            refine ps_st (S' := (2, [(0, .ref o), (1, .int (nI (k + 1)))], [], M1)) rfl rfl rfl ?_
            exact ih (k + 1) M1 hl_o hl_vd hl_q hV1 hF1 (by omega) (by
                rw [← hs, chkP_st (k := k) (by omega), if_neg (by omega), if_pos (by omega)])
          · have c_33 : ¬ ((nI (brkN f n E mj k)) = 0) := of_decide_eq_false c_33
            have n_33 : ¬ (brkN f n E mj k = 0) := fun h9 => c_33 ((eq_nI (p := brkN f n E mj k) (n := 0) (Nat.lt_trans (le_brk _ _ _ _ _) (by decide)) (by decide)).mpr h9)
            refine ps_st (S' := (37, [(2, .int (nI (brkN f n E mj k))), (0, .ref o), (1, .int (nI k))], [.ref o], M1)) rfl rfl rfl ?_
            refine ps_get (S' := (40, [(2, .int (nI (brkN f n E mj k))), (0, .ref o), (1, .int (nI k))], [.ref vd], M1)) rfl hl_o rfl rfl ?_
            refine ps_st (S' := (41, [(2, .int (nI (brkN f n E mj k))), (0, .ref o), (1, .int (nI k))], [.int (nI (brkN f n E mj k)), .ref vd], M1)) rfl rfl rfl ?_
            refine ps_st (S' := (42, [(2, .int (nI (brkN f n E mj k))), (0, .ref o), (1, .int (nI k))], [.ref o, .int (nI (brkN f n E mj k)), .ref vd], M1)) rfl rfl rfl ?_
            refine ps_get (S' := (45, [(2, .int (nI (brkN f n E mj k))), (0, .ref o), (1, .int (nI k))], [.ref q, .int (nI (brkN f n E mj k)), .ref vd], M1)) rfl hl_o rfl rfl ?_
            refine ps_st (S' := (46, [(2, .int (nI (brkN f n E mj k))), (0, .ref o), (1, .int (nI k))], [.int (nI k), .ref q, .int (nI (brkN f n E mj k)), .ref vd], M1)) rfl rfl rfl ?_
            have ht9 := brk_t (f := f) (n := n) (E := E) (mj := mj) (k := k) (by omega)
            refine pl_call (a := [.ref q, .int (nI k)]) (rest := [.int (nI (brkN f n E mj k)), .ref vd]) rfl rfl rfl (dy_tagPlace (f := f) (n := n) (N := N) (q := q) (E := E) (j := k) (p := (tp E k)) (hV1) (by omega) (tp_of ht9) (ht9)) (fun v20 M21 q22 => ?_)
            obtain ⟨rfl, rfl⟩ := q22
            show pl _ _ _ (49, [(2, .int (nI (brkN f n E mj k))), (0, .ref o), (1, .int (nI k))], [.int (nI ((tp E k))), .int (nI (brkN f n E mj k)), .ref vd], M1) _
            refine pl_call (a := [.ref vd, .int (nI (brkN f n E mj k)), .int (nI ((tp E k)))]) (rest := []) rfl rfl rfl (dk_wrong (vd := vd) (ru := ru) (wa := wa) (x1 := (nI (brkN f n E mj k))) (x2 := (nI ((tp E k)))) hl_vd) (fun v23 M24 q25 => ?_)
            obtain ⟨rfl, h26, f27⟩ := q25
            have h29 := (f27.1 o (nin1 (ob_ne hl_o hl_vd (by decide)))).trans hl_o
            have h30 := (f27.1 q (nin1 (ob_ne hl_q hl_vd (by decide)))).trans hl_q
            have hF31 := hF1.tr f27 (by simp)
            have hV32 := hV1.keep f27.gm (n7c hl_vd (by decide) (n7nil))
            show pl _ _ _ (52, [(2, .int (nI (brkN f n E mj k))), (0, .ref o), (1, .int (nI k))], [.int 0], M24) _
            exact ps_ret rfl rfl (Or.inr ⟨(brkN f n E mj k, tp E k), by
                rw [← hs, chkP_st (k := k) (by omega)]
                repeat' split
                all_goals first | rfl | (exfalso; omega), rfl, h26, hF31⟩)
  refine ps_st (S' := (1, [(0, .ref o)], [.int 1], M)) rfl rfl rfl ?_
  refine ps_st (S' := (2, [(0, .ref o), (1, .int 1)], [], M)) rfl rfl rfl ?_
  exact (LL kf) (1) M h_o h_vd h_q hV hF (by omega) (rfl)
set_option maxHeartbeats 1000000 in
theorem dk_bootstrapsHold {g : xe_G} {M : mi_H} {f : Nat → Int32} {n N q : Nat} {E : List (Nat × Nat)} {o vd mj : Nat} {bc : Nat} {ru wa : Int32} (h_o : M.1 o = some (ob 8 [.ref q, .int (nI mj), .ref vd])) (h_vd : M.1 vd = some (ob 10 [.int ru, .int wa])) (hmj : mj < 65536) (hbc : bc < 65536) (hV : PV g f n N E q M) : pt (mT g) 144 [.ref o, .int (nI bc)] M (fun v M' => ((chkB f E bc (N - 1) 1 = none) ∧ v = some (.int 1) ∧ M'.1 vd = some (ob 10 [.int ru, .int wa]) ∧ fm [vd] M M') ∨ (∃ (e : Nat × Nat), (chkB f E bc (N - 1) 1 = some e) ∧ v = some (.int 0) ∧ M'.1 vd = some (ob 10 [.int (nI e.1), .int (nI e.2)]) ∧ fm [vd] M M')) := by
  refine pt_in (b := mb_144 g) rfl (fun kf => ?_)
  show pl (mT g) kf (mb_144 g).2 (0, [(0, .ref o), (1, .int (nI bc))], [], M) _
  have hF : fm [vd] M M := fm.rf
  have hV0 := hV
  obtain ⟨hL, H, m, qq, F, cc, hP, hT, hB, hb, hVF, hS⟩ := hV0
  have h_q := hP.1
  have LL : ∀ (kf : Nat), (∀ (k : Nat) (M1 : mi_H), (M1.1 o = some (ob 8 [.ref q, .int (nI mj), .ref vd])) → (M1.1 vd = some (ob 10 [.int ru, .int wa])) → (M1.1 q = some (ob 7 [.int (nI N), .ref (qq 1), .ref (qq 2), .ref (qq 3), .ref (qq 4), .ref (qq 5), .ref (qq 6), .int cc])) → (PV g f n N E q M1) → (fm [vd] M M1) → (1 ≤ k ∧ (k ≤ N ∨ k = 1)) → (chkB f E bc (N - k) k = chkB f E bc (N - 1) 1) →  pl (mT g) kf (mb_144 g).2 (2, [(0, .ref o), (1, .int (nI bc)), (2, .int (nI k))], [], M1) (fun v M' => ((chkB f E bc (N - 1) 1 = none) ∧ v = some (.int 1) ∧ M'.1 vd = some (ob 10 [.int ru, .int wa]) ∧ fm [vd] M M') ∨ (∃ (e : Nat × Nat), (chkB f E bc (N - 1) 1 = some e) ∧ v = some (.int 0) ∧ M'.1 vd = some (ob 10 [.int (nI e.1), .int (nI e.2)]) ∧ fm [vd] M M'))) := by
    intro kf
    induction kf with
    | zero => exact (by intros; exact pl_0)
    | succ kf ih =>
      intro k M1 hl_o hl_vd hl_q hV1 hF1 hk hs
      refine ps_st1 (S' := (3, [(0, .ref o), (1, .int (nI bc)), (2, .int (nI k))], [.int (nI k)], M1)) rfl rfl rfl ?_
      refine ps_st (S' := (4, [(0, .ref o), (1, .int (nI bc)), (2, .int (nI k))], [.ref o, .int (nI k)], M1)) rfl rfl rfl ?_
      refine ps_get (S' := (7, [(0, .ref o), (1, .int (nI bc)), (2, .int (nI k))], [.ref q, .int (nI k)], M1)) rfl hl_o rfl rfl ?_
      refine ps_get (S' := (10, [(0, .ref o), (1, .int (nI bc)), (2, .int (nI k))], [.int (nI N), .int (nI k)], M1)) rfl hl_q rfl rfl ?_
      refine ps_if2 (S1 := (70, [(0, .ref o), (1, .int (nI bc)), (2, .int (nI k))], [], M1)) (S2 := (13, [(0, .ref o), (1, .int (nI bc)), (2, .int (nI k))], [], M1)) rfl rfl rfl (fun c_10 => ?_) (fun c_10 => ?_)
      · have c_10 : (nI N) ≤ (nI k) := of_decide_eq_true c_10
        have n_10 : N ≤ k := (le_nI (p := N) (n := k) (by omega) (by omega)).mp c_10
        refine ps_st (S' := (71, [(0, .ref o), (1, .int (nI bc)), (2, .int (nI k))], [.int 1], M1)) rfl rfl rfl ?_
        exact ps_ret rfl rfl (Or.inl ⟨by rw [← hs, show N - k = 0 by omega]; rfl, rfl, hl_vd, hF1⟩)
      · have c_10 : ¬ ((nI N) ≤ (nI k)) := of_decide_eq_false c_10
        have n_10 : ¬ (N ≤ k) := fun h9 => c_10 ((le_nI (p := N) (n := k) (by omega) (by omega)).mpr h9)
        refine ps_st (S' := (14, [(0, .ref o), (1, .int (nI bc)), (2, .int (nI k))], [.ref o], M1)) rfl rfl rfl ?_
        refine ps_get (S' := (17, [(0, .ref o), (1, .int (nI bc)), (2, .int (nI k))], [.ref q], M1)) rfl hl_o rfl rfl ?_
        refine ps_st (S' := (18, [(0, .ref o), (1, .int (nI bc)), (2, .int (nI k))], [.int (nI k), .ref q], M1)) rfl rfl rfl ?_
        refine pl_call (a := [.ref q, .int (nI k)]) (rest := []) rfl rfl rfl (dy_tagOf (f := f) (n := n) (N := N) (q := q) (E := E) (j := k) (hV1) (by omega)) (fun v1 M2 q3 => ?_)
        obtain ⟨rfl, rfl⟩ := q3
        show pl _ _ _ (21, [(0, .ref o), (1, .int (nI bc)), (2, .int (nI k))], [.int (nI (tg f E k))], M1) _
        refine ps_st (S' := (22, [(3, .int (nI (tg f E k))), (0, .ref o), (1, .int (nI bc)), (2, .int (nI k))], [], M1)) rfl rfl rfl ?_
        refine ps_st (S' := (23, [(3, .int (nI (tg f E k))), (0, .ref o), (1, .int (nI bc)), (2, .int (nI k))], [.int (nI (tg f E k))], M1)) rfl rfl rfl ?_
        refine ps_st (S' := (25, [(3, .int (nI (tg f E k))), (0, .ref o), (1, .int (nI bc)), (2, .int (nI k))], [.int 17, .int (nI (tg f E k))], M1)) rfl rfl rfl ?_
        refine ps_if2 (S1 := (34, [(0, .ref o), (1, .int (nI bc)), (2, .int (nI k))], [], M1)) (S2 := (28, [(3, .int (nI (tg f E k))), (0, .ref o), (1, .int (nI bc)), (2, .int (nI k))], [], M1)) rfl rfl rfl (fun c_25 => ?_) (fun c_25 => ?_)
        · have c_25 : (nI (tg f E k)) = 17 := of_decide_eq_true c_25
          have n_25 : tg f E k = 17 := (eq_nI (p := tg f E k) (n := 17) (Nat.lt_trans (tg_lt _ _ _) (by decide)) (by decide)).mp c_25
          refine ps_st (S' := (35, [(0, .ref o), (1, .int (nI bc)), (2, .int (nI k))], [.ref o], M1)) rfl rfl rfl ?_
          refine ps_get (S' := (38, [(0, .ref o), (1, .int (nI bc)), (2, .int (nI k))], [.ref q], M1)) rfl hl_o rfl rfl ?_
          refine ps_st (S' := (39, [(0, .ref o), (1, .int (nI bc)), (2, .int (nI k))], [.int (nI k), .ref q], M1)) rfl rfl rfl ?_
          refine pl_call (a := [.ref q, .int (nI k)]) (rest := []) rfl rfl rfl (dy_firstIndex (f := f) (n := n) (N := N) (q := q) (E := E) (j := k) (hV1) (by omega)) (fun v4 M5 q6 => ?_)
          obtain ⟨rfl, rfl⟩ := q6
          show pl _ _ _ (42, [(0, .ref o), (1, .int (nI bc)), (2, .int (nI k))], [.int (nI (fi f E k))], M1) _
          refine ps_st (S' := (43, [(0, .ref o), (1, .int (nI bc)), (2, .int (nI k))], [.int (nI bc), .int (nI (fi f E k))], M1)) rfl rfl rfl ?_
          refine ps_if2 (S1 := (64, [(0, .ref o), (1, .int (nI bc)), (2, .int (nI k))], [], M1)) (S2 := (46, [(0, .ref o), (1, .int (nI bc)), (2, .int (nI k))], [], M1)) rfl rfl rfl (fun c_43 => ?_) (fun c_43 => ?_)
          · have c_43 : (nI (fi f E k)) < (nI bc) := of_decide_eq_true c_43
            have n_43 : fi f E k < bc := (lt_nI (p := fi f E k) (n := bc) (Nat.lt_trans (fi_lt _ _ _) (by decide)) (by omega)).mp c_43
            refine ps_st (S' := (67, [(2, .int ((nI k) + 1)), (0, .ref o), (1, .int (nI bc))], [], M1)) rfl rfl rfl ?_
            rw [nI_add1 (p := k) (k := 1) (x := 1) rfl (by omega)]
            show pl _ _ _ (_, [(2, .int (nI (k + 1))), (0, .ref o), (1, .int (nI bc))], [], M1) _
            refine ps_st (S' := (2, [(0, .ref o), (1, .int (nI bc)), (2, .int (nI (k + 1)))], [], M1)) rfl rfl rfl ?_
            exact ih (k + 1) M1 hl_o hl_vd hl_q hV1 hF1 (by omega) (by
                rw [← hs, chkB_st (k := k) (by omega), if_neg (by omega)])
          · have c_43 : ¬ ((nI (fi f E k)) < (nI bc)) := of_decide_eq_false c_43
            have n_43 : ¬ (fi f E k < bc) := fun h9 => c_43 ((lt_nI (p := fi f E k) (n := bc) (Nat.lt_trans (fi_lt _ _ _) (by decide)) (by omega)).mpr h9)
            refine ps_st (S' := (47, [(0, .ref o), (1, .int (nI bc)), (2, .int (nI k))], [.ref o], M1)) rfl rfl rfl ?_
            refine ps_get (S' := (50, [(0, .ref o), (1, .int (nI bc)), (2, .int (nI k))], [.ref vd], M1)) rfl hl_o rfl rfl ?_
            refine ps_st (S' := (52, [(0, .ref o), (1, .int (nI bc)), (2, .int (nI k))], [.int 40, .ref vd], M1)) rfl rfl rfl ?_
            refine ps_st (S' := (53, [(0, .ref o), (1, .int (nI bc)), (2, .int (nI k))], [.ref o, .int 40, .ref vd], M1)) rfl rfl rfl ?_
            refine ps_get (S' := (56, [(0, .ref o), (1, .int (nI bc)), (2, .int (nI k))], [.ref q, .int 40, .ref vd], M1)) rfl hl_o rfl rfl ?_
            refine ps_st (S' := (57, [(0, .ref o), (1, .int (nI bc)), (2, .int (nI k))], [.int (nI k), .ref q, .int 40, .ref vd], M1)) rfl rfl rfl ?_
            have ht9 : ¬ tg f E k = 0 := by omega
            refine pl_call (a := [.ref q, .int (nI k)]) (rest := [.int 40, .ref vd]) rfl rfl rfl (dy_tagPlace (f := f) (n := n) (N := N) (q := q) (E := E) (j := k) (p := (tp E k)) (hV1) (by omega) (tp_of ht9) (ht9)) (fun v7 M8 q9 => ?_)
            obtain ⟨rfl, rfl⟩ := q9
            show pl _ _ _ (60, [(0, .ref o), (1, .int (nI bc)), (2, .int (nI k))], [.int (nI ((tp E k))), .int 40, .ref vd], M1) _
            refine pl_call (a := [.ref vd, .int 40, .int (nI ((tp E k)))]) (rest := []) rfl rfl rfl (dk_wrong (vd := vd) (ru := ru) (wa := wa) (x1 := 40) (x2 := (nI ((tp E k)))) hl_vd) (fun v10 M11 q12 => ?_)
            obtain ⟨rfl, h13, f14⟩ := q12
            have h16 := (f14.1 o (nin1 (ob_ne hl_o hl_vd (by decide)))).trans hl_o
            have h17 := (f14.1 q (nin1 (ob_ne hl_q hl_vd (by decide)))).trans hl_q
            have hF18 := hF1.tr f14 (by simp)
            have hV19 := hV1.keep f14.gm (n7c hl_vd (by decide) (n7nil))
            show pl _ _ _ (63, [(0, .ref o), (1, .int (nI bc)), (2, .int (nI k))], [.int 0], M11) _
            exact ps_ret rfl rfl (Or.inr ⟨(40, tp E k), by
                rw [← hs, chkB_st (k := k) (by omega), if_pos (by omega)], rfl, h13, hF18⟩)
        · have c_25 : ¬ ((nI (tg f E k)) = 17) := of_decide_eq_false c_25
          have n_25 : ¬ (tg f E k = 17) := fun h9 => c_25 ((eq_nI (p := tg f E k) (n := 17) (Nat.lt_trans (tg_lt _ _ _) (by decide)) (by decide)).mpr h9)
          refine ps_st (S' := (29, [(3, .int (nI (tg f E k))), (0, .ref o), (1, .int (nI bc)), (2, .int (nI k))], [.int (nI (tg f E k))], M1)) rfl rfl rfl ?_
          refine ps_st (S' := (31, [(3, .int (nI (tg f E k))), (0, .ref o), (1, .int (nI bc)), (2, .int (nI k))], [.int 18, .int (nI (tg f E k))], M1)) rfl rfl rfl ?_
          refine ps_if2 (S1 := (64, [(0, .ref o), (1, .int (nI bc)), (2, .int (nI k))], [], M1)) (S2 := (34, [(0, .ref o), (1, .int (nI bc)), (2, .int (nI k))], [], M1)) rfl rfl rfl (fun c_31 => ?_) (fun c_31 => ?_)
          · have c_31 : ¬ (nI (tg f E k)) = 18 := of_decide_eq_true c_31
            have n_31 : ¬ (tg f E k = 18) := fun h9 => c_31 ((eq_nI (p := tg f E k) (n := 18) (Nat.lt_trans (tg_lt _ _ _) (by decide)) (by decide)).mpr h9)
            refine ps_st (S' := (67, [(2, .int ((nI k) + 1)), (0, .ref o), (1, .int (nI bc))], [], M1)) rfl rfl rfl ?_
            rw [nI_add1 (p := k) (k := 1) (x := 1) rfl (by omega)]
            show pl _ _ _ (_, [(2, .int (nI (k + 1))), (0, .ref o), (1, .int (nI bc))], [], M1) _
            refine ps_st (S' := (2, [(0, .ref o), (1, .int (nI bc)), (2, .int (nI (k + 1)))], [], M1)) rfl rfl rfl ?_
            exact ih (k + 1) M1 hl_o hl_vd hl_q hV1 hF1 (by omega) (by
                rw [← hs, chkB_st (k := k) (by omega), if_neg (by omega)])
          · have c_31 : ¬ (¬ (nI (tg f E k)) = 18) := of_decide_eq_false c_31
            have n_31 : tg f E k = 18 := (eq_nI (p := tg f E k) (n := 18) (Nat.lt_trans (tg_lt _ _ _) (by decide)) (by decide)).mp (Decidable.not_not.mp c_31)
            refine ps_st (S' := (35, [(0, .ref o), (1, .int (nI bc)), (2, .int (nI k))], [.ref o], M1)) rfl rfl rfl ?_
            refine ps_get (S' := (38, [(0, .ref o), (1, .int (nI bc)), (2, .int (nI k))], [.ref q], M1)) rfl hl_o rfl rfl ?_
            refine ps_st (S' := (39, [(0, .ref o), (1, .int (nI bc)), (2, .int (nI k))], [.int (nI k), .ref q], M1)) rfl rfl rfl ?_
            refine pl_call (a := [.ref q, .int (nI k)]) (rest := []) rfl rfl rfl (dy_firstIndex (f := f) (n := n) (N := N) (q := q) (E := E) (j := k) (hV1) (by omega)) (fun v20 M21 q22 => ?_)
            obtain ⟨rfl, rfl⟩ := q22
            show pl _ _ _ (42, [(0, .ref o), (1, .int (nI bc)), (2, .int (nI k))], [.int (nI (fi f E k))], M1) _
            refine ps_st (S' := (43, [(0, .ref o), (1, .int (nI bc)), (2, .int (nI k))], [.int (nI bc), .int (nI (fi f E k))], M1)) rfl rfl rfl ?_
            refine ps_if2 (S1 := (64, [(0, .ref o), (1, .int (nI bc)), (2, .int (nI k))], [], M1)) (S2 := (46, [(0, .ref o), (1, .int (nI bc)), (2, .int (nI k))], [], M1)) rfl rfl rfl (fun c_43 => ?_) (fun c_43 => ?_)
            · have c_43 : (nI (fi f E k)) < (nI bc) := of_decide_eq_true c_43
              have n_43 : fi f E k < bc := (lt_nI (p := fi f E k) (n := bc) (Nat.lt_trans (fi_lt _ _ _) (by decide)) (by omega)).mp c_43
              refine ps_st (S' := (67, [(2, .int ((nI k) + 1)), (0, .ref o), (1, .int (nI bc))], [], M1)) rfl rfl rfl ?_
              rw [nI_add1 (p := k) (k := 1) (x := 1) rfl (by omega)]
              show pl _ _ _ (_, [(2, .int (nI (k + 1))), (0, .ref o), (1, .int (nI bc))], [], M1) _
              refine ps_st (S' := (2, [(0, .ref o), (1, .int (nI bc)), (2, .int (nI (k + 1)))], [], M1)) rfl rfl rfl ?_
              exact ih (k + 1) M1 hl_o hl_vd hl_q hV1 hF1 (by omega) (by
                  rw [← hs, chkB_st (k := k) (by omega), if_neg (by omega)])
            · have c_43 : ¬ ((nI (fi f E k)) < (nI bc)) := of_decide_eq_false c_43
              have n_43 : ¬ (fi f E k < bc) := fun h9 => c_43 ((lt_nI (p := fi f E k) (n := bc) (Nat.lt_trans (fi_lt _ _ _) (by decide)) (by omega)).mpr h9)
              refine ps_st (S' := (47, [(0, .ref o), (1, .int (nI bc)), (2, .int (nI k))], [.ref o], M1)) rfl rfl rfl ?_
              refine ps_get (S' := (50, [(0, .ref o), (1, .int (nI bc)), (2, .int (nI k))], [.ref vd], M1)) rfl hl_o rfl rfl ?_
              refine ps_st (S' := (52, [(0, .ref o), (1, .int (nI bc)), (2, .int (nI k))], [.int 40, .ref vd], M1)) rfl rfl rfl ?_
              refine ps_st (S' := (53, [(0, .ref o), (1, .int (nI bc)), (2, .int (nI k))], [.ref o, .int 40, .ref vd], M1)) rfl rfl rfl ?_
              refine ps_get (S' := (56, [(0, .ref o), (1, .int (nI bc)), (2, .int (nI k))], [.ref q, .int 40, .ref vd], M1)) rfl hl_o rfl rfl ?_
              refine ps_st (S' := (57, [(0, .ref o), (1, .int (nI bc)), (2, .int (nI k))], [.int (nI k), .ref q, .int 40, .ref vd], M1)) rfl rfl rfl ?_
              have ht9 : ¬ tg f E k = 0 := by omega
              refine pl_call (a := [.ref q, .int (nI k)]) (rest := [.int 40, .ref vd]) rfl rfl rfl (dy_tagPlace (f := f) (n := n) (N := N) (q := q) (E := E) (j := k) (p := (tp E k)) (hV1) (by omega) (tp_of ht9) (ht9)) (fun v23 M24 q25 => ?_)
              obtain ⟨rfl, rfl⟩ := q25
              show pl _ _ _ (60, [(0, .ref o), (1, .int (nI bc)), (2, .int (nI k))], [.int (nI ((tp E k))), .int 40, .ref vd], M1) _
              refine pl_call (a := [.ref vd, .int 40, .int (nI ((tp E k)))]) (rest := []) rfl rfl rfl (dk_wrong (vd := vd) (ru := ru) (wa := wa) (x1 := 40) (x2 := (nI ((tp E k)))) hl_vd) (fun v26 M27 q28 => ?_)
              obtain ⟨rfl, h29, f30⟩ := q28
              have h32 := (f30.1 o (nin1 (ob_ne hl_o hl_vd (by decide)))).trans hl_o
              have h33 := (f30.1 q (nin1 (ob_ne hl_q hl_vd (by decide)))).trans hl_q
              have hF34 := hF1.tr f30 (by simp)
              have hV35 := hV1.keep f30.gm (n7c hl_vd (by decide) (n7nil))
              show pl _ _ _ (63, [(0, .ref o), (1, .int (nI bc)), (2, .int (nI k))], [.int 0], M27) _
              exact ps_ret rfl rfl (Or.inr ⟨(40, tp E k), by
                  rw [← hs, chkB_st (k := k) (by omega), if_pos (by omega)], rfl, h29, hF34⟩)
  refine ps_st (S' := (1, [(0, .ref o), (1, .int (nI bc))], [.int 1], M)) rfl rfl rfl ?_
  refine ps_st (S' := (2, [(0, .ref o), (1, .int (nI bc)), (2, .int 1)], [], M)) rfl rfl rfl ?_
  exact (LL kf) (1) M h_o h_vd h_q hV hF (by omega) (rfl)
end
section
/-! checks of the class, of fields and methods (laid by wip/p4/d9.py) -/
section CKB
def hasN (x w : Nat) : Nat := if aN x w = 0 then 0 else 1
def hallN (x w : Nat) : Nat := if aN x w = w then 1 else 0
def bc3 (y : Nat) : Nat := if y = 0 then 0 else if y = 1 ∨ y = 2 ∨ y = 4 then 1 else if y = 7 then 3 else 2
def oneN (x : Nat) : Nat := if bc3 (aN x 7) ≤ 1 then 1 else 0
def cflN (x : Nat) : Nat := if ¬ aN x 32768 = 0 then 0 else if ¬ aN x 512 = 0 then (if ¬ aN x 1024 = 0 ∧ aN x 16432 = 0 then 1 else 0) else if aN x 8192 = 0 ∧ hallN x 1040 = 0 then 1 else 0
def fflN (c x : Nat) : Nat := if ¬ hasN c 512 = 0 then (if aN x 16607 = 25 then 1 else 0) else if ¬ oneN x = 0 ∧ hallN x 80 = 0 then 1 else 0
theorem le1_has (x w : Nat) : hasN x w < 2 := by unfold hasN; split <;> decide
theorem le1_hall (x w : Nat) : hallN x w < 2 := by unfold hallN; split <;> decide
theorem le1_one (x : Nat) : oneN x < 2 := by unfold oneN; split <;> decide
theorem le1_cfl (x : Nat) : cflN x < 2 := by
  unfold cflN
  repeat' split
  all_goals decide
theorem le1_ffl (c x : Nat) : fflN c x < 2 := by
  unfold fflN
  repeat' split
  all_goals decide
theorem bc3_lt (y : Nat) : bc3 y < 4 := by
  unfold bc3
  repeat' split
  all_goals decide
/-- the class's head -/
def hdS (f : Nat → Int32) (n : Nat) (E : List (Nat × Nat)) (fa : Nat) : Option (Nat × Nat) :=
  if cflN (by2 f fa) = 0 then some (15, fa) else if plnN f n E (by2 f (fa + 2)) = 0 then some (16, fa + 2) else
  if plnN f n E (by2 f (fa + 4)) = 0 ∨ (¬ hasN (by2 f fa) 512 = 0 ∧ eqN (tX f n E (fi f E (by2 f (fa + 4)))) (ltx 11) = 0) then some (17, fa + 4) else none
/-- whether the interface x is among those from number j on (r of them) -/
def dupN (f : Nat → Int32) (n : Nat) (E : List (Nat × Nat)) (s x : Nat) : Nat → Nat → Nat
  | 0, _ => 0
  | r + 1, j => if smN f n E (fi f E (by2 f (s + 2 * j))) (fi f E x) = 0 then dupN f n E s x r (j + 1) else 1
def ifS (f : Nat → Int32) (n : Nat) (E : List (Nat × Nat)) (s : Nat) : Nat → Nat → Option (Nat × Nat)
  | 0, _ => none
  | r + 1, i => if plnN f n E (by2 f (s + 2 * i)) = 0 then some (18, s + 2 * i) else if ¬ dupN f n E s (by2 f (s + 2 * i)) i 0 = 0 then some (18, s + 2 * i) else ifS f n E s r (i + 1)
theorem ifS_st {f : Nat → Int32} {n : Nat} {E : List (Nat × Nat)} {s c i : Nat} (h : i < c) : ifS f n E s (c - i) i = if plnN f n E (by2 f (s + 2 * i)) = 0 then some (18, s + 2 * i) else if ¬ dupN f n E s (by2 f (s + 2 * i)) i 0 = 0 then some (18, s + 2 * i) else ifS f n E s (c - (i + 1)) (i + 1) := by
  rw [show c - i = (c - (i + 1)) + 1 by omega]
  rfl
theorem dupN_st {f : Nat → Int32} {n : Nat} {E : List (Nat × Nat)} {s x i j : Nat} (h : j < i) : dupN f n E s x (i - j) j = if smN f n E (fi f E (by2 f (s + 2 * j))) (fi f E x) = 0 then dupN f n E s x (i - (j + 1)) (j + 1) else 1 := by
  rw [show i - j = (i - (j + 1)) + 1 by omega]
  rfl
end CKB
theorem dk_u2 {g : xe_G} {M : mi_H} {f : Nat → Int32} {n b da p : Nat} (h_b : M.1 b = some (ob 1 [.ref da])) (h_da : M.1 da = some (ar .byte n f)) (hn : n ≤ 65540) (hin : p + 2 ≤ n) : pt (mT g) 49 [.ref b, .int (nI p)] M (fun v M' => (v = some (.int (nI (by2 f p))) ∧ M = M')) := (ct_u2 ⟨h_b, h_da, by omega⟩ (d := 3) (by decide)).pt.mono (fun v M' h => ⟨by rw [h.1, u2_nI hn hin], h.2.symm⟩)
theorem dk_u4 {g : xe_G} {M : mi_H} {f : Nat → Int32} {n b da p : Nat} (h_b : M.1 b = some (ob 1 [.ref da])) (h_da : M.1 da = some (ar .byte n f)) (hn : n ≤ 65540) (hin : p + 4 ≤ n) : pt (mT g) 50 [.ref b, .int (nI p)] M (fun v M' => (v = some (.int (nI (by4 f p))) ∧ M = M')) := (ct_u4 ⟨h_b, h_da, by omega⟩ (d := 3) (by decide)).pt.mono (fun v M' h => ⟨by rw [h.1, u4_nI hn hin], h.2.symm⟩)
set_option maxHeartbeats 1000000 in
theorem dk_fhas {g : xe_G} {M : mi_H} {f : Nat → Int32} {n q : Nat} {c b da fr mr fa ic mj na pa : Nat} {mi k1 k2 k3 k4 k5 k6 k7 : Int32} {x : Nat} (h_c : M.1 c = some (ob 3 [.ref b, .ref q, .int mi, .int (nI mj), .int (nI fa), .int (nI ic), .ref fr, .ref mr, .int (nI na), .int (nI pa), .int k1, .int k2, .int k3, .int k4, .int k5, .int k6, .int k7])) (h_b : M.1 b = some (ob 1 [.ref da])) (h_da : M.1 da = some (ar .byte n f)) (hn : n ≤ 65540) (hfa : fa + 8 ≤ n) : pt (mT g) 71 [.ref c, .int (nI x)] M (fun v M' => (v = some (.int (nI (hasN (by2 f fa) x))) ∧ M = M')) := by
  refine pt_in (b := mb_71 g) rfl (fun kf => ?_)
  show pl (mT g) kf (mb_71 g).2 (0, [(0, .ref c), (1, .int (nI x))], [], M) _
  have hu9 := by2_lt f fa
  have han9 : aN (by2 f fa) x < 65536 := Nat.lt_of_le_of_lt Nat.and_le_left hu9
  refine ps_st (S' := (1, [(0, .ref c), (1, .int (nI x))], [.ref c], M)) rfl rfl rfl ?_
  refine ps_get (S' := (4, [(0, .ref c), (1, .int (nI x))], [.ref b], M)) rfl h_c rfl rfl ?_
  refine ps_st (S' := (5, [(0, .ref c), (1, .int (nI x))], [.ref c, .ref b], M)) rfl rfl rfl ?_
  refine ps_get (S' := (8, [(0, .ref c), (1, .int (nI x))], [.int (nI fa), .ref b], M)) rfl h_c rfl rfl ?_
  refine pl_call (a := [.ref b, .int (nI fa)]) (rest := []) rfl rfl rfl (dk_u2 (f := f) (n := n) (b := b) (da := da) (p := fa) h_b h_da (hn) (by omega)) (fun v1 M2 q3 => ?_)
  obtain ⟨rfl, rfl⟩ := q3
  show pl _ _ _ (11, [(0, .ref c), (1, .int (nI x))], [.int (nI (by2 f fa))], M) _
  have hu_8 := by2_lt f fa
  refine ps_st (S' := (12, [(0, .ref c), (1, .int (nI x))], [.int (nI x), .int (nI (by2 f fa))], M)) rfl rfl rfl ?_
  refine ps_st (S' := (13, [(0, .ref c), (1, .int (nI x))], [.int ((nI (by2 f fa)) &&& (nI x))], M)) rfl rfl rfl ?_
  rw [nI_an (p := by2 f fa) (k := x) (x := (nI x)) rfl]
  show pl _ _ _ (_, [(0, .ref c), (1, .int (nI x))], [.int (nI (aN (by2 f fa) x))], M) _
  refine ps_if (S1 := (20, [(0, .ref c), (1, .int (nI x))], [], M)) (S2 := (16, [(0, .ref c), (1, .int (nI x))], [], M)) rfl rfl rfl (fun c_13 => ?_) (fun c_13 => ?_)
  · have c_13 : (nI (aN (by2 f fa) x)) = 0 := of_decide_eq_true c_13
    have n_13 : aN (by2 f fa) x = 0 := (eq_nI (p := aN (by2 f fa) x) (n := 0) (by omega) (by decide)).mp c_13
    refine ps_st (S' := (21, [], [.int 0], M)) rfl rfl rfl ?_
    exact ps_ret rfl rfl (⟨congrArg (fun x => some (Value.int (nI x))) (show 0 = hasN (by2 f fa) x from by
        have hx9 := an_le (by2 f fa) x
        unfold hasN
        first | ((repeat first | rw [if_pos (by omega)] | rw [if_neg (by omega)]) <;> first | rfl | omega) | ((repeat' split) <;> first | rfl | (exfalso; omega) | omega)), rfl⟩)
  · have c_13 : ¬ ((nI (aN (by2 f fa) x)) = 0) := of_decide_eq_false c_13
    have n_13 : ¬ (aN (by2 f fa) x = 0) := fun h9 => c_13 ((eq_nI (p := aN (by2 f fa) x) (n := 0) (by omega) (by decide)).mpr h9)
    refine ps_st (S' := (17, [(0, .ref c), (1, .int (nI x))], [.int 1], M)) rfl rfl rfl ?_
    refine ps_st (S' := (21, [], [.int 1], M)) rfl rfl rfl ?_
    exact ps_ret rfl rfl (⟨congrArg (fun x => some (Value.int (nI x))) (show 1 = hasN (by2 f fa) x from by
        have hx9 := an_le (by2 f fa) x
        unfold hasN
        first | ((repeat first | rw [if_pos (by omega)] | rw [if_neg (by omega)]) <;> first | rfl | omega) | ((repeat' split) <;> first | rfl | (exfalso; omega) | omega)), rfl⟩)
set_option maxHeartbeats 1000000 in
theorem dk_mhas {g : xe_G} {M : mi_H} {f : Nat → Int32} {a b0 : Nat} {kn co ap ex : Int32} {cd : Value} {x : Nat} (h_a : M.1 a = some (ob 6 [.int (nI b0), .int (nI (by2 f b0)), .int (nI (by2 f (b0 + 2))), .int (nI (by2 f (b0 + 4))), .int (nI (by2 f (b0 + 6))), .int (nI (b0 + 8)), .int kn, .int co, .int ap, .int ex, cd]))  : pt (mT g) 108 [.ref a, .int (nI x)] M (fun v M' => (v = some (.int (nI (hasN (by2 f b0) x))) ∧ M = M')) := by
  refine pt_in (b := mb_108 g) rfl (fun kf => ?_)
  show pl (mT g) kf (mb_108 g).2 (0, [(0, .ref a), (1, .int (nI x))], [], M) _
  have hu9 := by2_lt f b0
  have han9 : aN (by2 f b0) x < 65536 := Nat.lt_of_le_of_lt Nat.and_le_left hu9
  refine ps_st (S' := (1, [(0, .ref a), (1, .int (nI x))], [.ref a], M)) rfl rfl rfl ?_
  refine ps_get (S' := (4, [(0, .ref a), (1, .int (nI x))], [.int (nI (by2 f b0))], M)) rfl h_a rfl rfl ?_
  refine ps_st (S' := (5, [(0, .ref a), (1, .int (nI x))], [.int (nI x), .int (nI (by2 f b0))], M)) rfl rfl rfl ?_
  refine ps_st (S' := (6, [(0, .ref a), (1, .int (nI x))], [.int ((nI (by2 f b0)) &&& (nI x))], M)) rfl rfl rfl ?_
  rw [nI_an (p := by2 f b0) (k := x) (x := (nI x)) rfl]
  show pl _ _ _ (_, [(0, .ref a), (1, .int (nI x))], [.int (nI (aN (by2 f b0) x))], M) _
  refine ps_if (S1 := (13, [(0, .ref a), (1, .int (nI x))], [], M)) (S2 := (9, [(0, .ref a), (1, .int (nI x))], [], M)) rfl rfl rfl (fun c_6 => ?_) (fun c_6 => ?_)
  · have c_6 : (nI (aN (by2 f b0) x)) = 0 := of_decide_eq_true c_6
    have n_6 : aN (by2 f b0) x = 0 := (eq_nI (p := aN (by2 f b0) x) (n := 0) (by omega) (by decide)).mp c_6
    refine ps_st (S' := (14, [], [.int 0], M)) rfl rfl rfl ?_
    exact ps_ret rfl rfl (⟨congrArg (fun x => some (Value.int (nI x))) (show 0 = hasN (by2 f b0) x from by
        unfold hasN
        first | ((repeat first | rw [if_pos (by omega)] | rw [if_neg (by omega)]) <;> first | rfl | omega) | ((repeat' split) <;> first | rfl | (exfalso; omega) | omega)), rfl⟩)
  · have c_6 : ¬ ((nI (aN (by2 f b0) x)) = 0) := of_decide_eq_false c_6
    have n_6 : ¬ (aN (by2 f b0) x = 0) := fun h9 => c_6 ((eq_nI (p := aN (by2 f b0) x) (n := 0) (by omega) (by decide)).mpr h9)
    refine ps_st (S' := (10, [(0, .ref a), (1, .int (nI x))], [.int 1], M)) rfl rfl rfl ?_
    refine ps_st (S' := (14, [], [.int 1], M)) rfl rfl rfl ?_
    exact ps_ret rfl rfl (⟨congrArg (fun x => some (Value.int (nI x))) (show 1 = hasN (by2 f b0) x from by
        unfold hasN
        first | ((repeat first | rw [if_pos (by omega)] | rw [if_neg (by omega)]) <;> first | rfl | omega) | ((repeat' split) <;> first | rfl | (exfalso; omega) | omega)), rfl⟩)
set_option maxHeartbeats 1000000 in
theorem dk_hasAll {g : xe_G} {M : mi_H} {x w : Nat}  (hx : x < 65536) (hw : w < 65536) : pt (mT g) 58 [.int (nI x), .int (nI w)] M (fun v M' => (v = some (.int (nI (hallN x w))) ∧ M = M')) := by
  refine pt_in (b := mb_58 g) rfl (fun kf => ?_)
  show pl (mT g) kf (mb_58 g).2 (0, [(0, .int (nI x)), (1, .int (nI w))], [], M) _
  have ha_x : ∀ m, aN x m < 65536 := fun m => Nat.lt_of_le_of_lt Nat.and_le_left hx
  refine ps_st (S' := (1, [(0, .int (nI x)), (1, .int (nI w))], [.int (nI x)], M)) rfl rfl rfl ?_
  refine ps_st (S' := (2, [(0, .int (nI x)), (1, .int (nI w))], [.int (nI w), .int (nI x)], M)) rfl rfl rfl ?_
  refine ps_st (S' := (3, [(0, .int (nI x)), (1, .int (nI w))], [.int ((nI x) &&& (nI w))], M)) rfl rfl rfl ?_
  rw [nI_an (p := x) (k := w) (x := (nI w)) rfl]
  show pl _ _ _ (_, [(0, .int (nI x)), (1, .int (nI w))], [.int (nI (aN x w))], M) _
  refine ps_st (S' := (4, [(0, .int (nI x)), (1, .int (nI w))], [.int (nI w), .int (nI (aN x w))], M)) rfl rfl rfl ?_
  refine ps_if2 (S1 := (11, [(0, .int (nI x)), (1, .int (nI w))], [], M)) (S2 := (7, [(0, .int (nI x)), (1, .int (nI w))], [], M)) rfl rfl rfl (fun c_4 => ?_) (fun c_4 => ?_)
  · have c_4 : ¬ (nI (aN x w)) = (nI w) := of_decide_eq_true c_4
    have n_4 : ¬ (aN x w = w) := fun h9 => c_4 ((eq_nI (p := aN x w) (n := w) (Nat.lt_trans (ha_x _) (by decide)) (by omega)).mpr h9)
    refine ps_st (S' := (12, [], [.int 0], M)) rfl rfl rfl ?_
    exact ps_ret rfl rfl (⟨congrArg (fun x => some (Value.int (nI x))) (show 0 = hallN x w from by
        unfold hallN
        first | ((repeat first | rw [if_pos (by omega)] | rw [if_neg (by omega)]) <;> first | rfl | omega) | ((repeat' split) <;> first | rfl | (exfalso; omega) | omega)), rfl⟩)
  · have c_4 : ¬ (¬ (nI (aN x w)) = (nI w)) := of_decide_eq_false c_4
    have n_4 : aN x w = w := (eq_nI (p := aN x w) (n := w) (Nat.lt_trans (ha_x _) (by decide)) (by omega)).mp (Decidable.not_not.mp c_4)
    refine ps_st (S' := (8, [(0, .int (nI x)), (1, .int (nI w))], [.int 1], M)) rfl rfl rfl ?_
    refine ps_st (S' := (12, [], [.int 1], M)) rfl rfl rfl ?_
    exact ps_ret rfl rfl (⟨congrArg (fun x => some (Value.int (nI x))) (show 1 = hallN x w from by
        unfold hallN
        first | ((repeat first | rw [if_pos (by omega)] | rw [if_neg (by omega)]) <;> first | rfl | omega) | ((repeat' split) <;> first | rfl | (exfalso; omega) | omega)), rfl⟩)
set_option maxHeartbeats 1000000 in
theorem dk_bitCount {g : xe_G} {M : mi_H} {y : Nat}  (hy : y < 8) : pt (mT g) 258 [.int (nI y)] M (fun v M' => (v = some (.int (nI (bc3 y))) ∧ M = M')) := by
  refine pt_in (b := mb_258 g) rfl (fun kf => ?_)
  show pl (mT g) kf (mb_258 g).2 (0, [(0, .int (nI y))], [], M) _
  refine ps_st (S' := (1, [(0, .int (nI y))], [.int (nI y)], M)) rfl rfl rfl ?_
  refine ps_st (S' := (2, [(0, .int (nI y))], [.int (nI y), .int (nI y)], M)) rfl rfl rfl ?_
  refine ps_st (S' := (3, [(0, .int (nI y))], [.int 1, .int (nI y), .int (nI y)], M)) rfl rfl rfl ?_
  refine ps_st (S' := (4, [(0, .int (nI y))], [.int (((nI y).toUInt32 >>> ((1 : Int32).toUInt32 &&& Int32.toUInt32 31)).toInt32), .int (nI y)], M)) rfl rfl rfl ?_
  refine ps_st (S' := (7, [(0, .int (nI y))], [.int 1431655765, .int (((nI y).toUInt32 >>> ((1 : Int32).toUInt32 &&& Int32.toUInt32 31)).toInt32), .int (nI y)], M)) rfl rfl rfl ?_
  refine ps_st (S' := (8, [(0, .int (nI y))], [.int ((((nI y).toUInt32 >>> ((1 : Int32).toUInt32 &&& Int32.toUInt32 31)).toInt32) &&& 1431655765), .int (nI y)], M)) rfl rfl rfl ?_
  refine ps_st (S' := (9, [(0, .int (nI y))], [.int ((nI y) - ((((nI y).toUInt32 >>> ((1 : Int32).toUInt32 &&& Int32.toUInt32 31)).toInt32) &&& 1431655765))], M)) rfl rfl rfl ?_
  refine ps_st (S' := (10, [(0, .int ((nI y) - ((((nI y).toUInt32 >>> ((1 : Int32).toUInt32 &&& Int32.toUInt32 31)).toInt32) &&& 1431655765)))], [], M)) rfl rfl rfl ?_
  refine ps_st (S' := (11, [(0, .int ((nI y) - ((((nI y).toUInt32 >>> ((1 : Int32).toUInt32 &&& Int32.toUInt32 31)).toInt32) &&& 1431655765)))], [.int ((nI y) - ((((nI y).toUInt32 >>> ((1 : Int32).toUInt32 &&& Int32.toUInt32 31)).toInt32) &&& 1431655765))], M)) rfl rfl rfl ?_
  refine ps_st (S' := (14, [(0, .int ((nI y) - ((((nI y).toUInt32 >>> ((1 : Int32).toUInt32 &&& Int32.toUInt32 31)).toInt32) &&& 1431655765)))], [.int 858993459, .int ((nI y) - ((((nI y).toUInt32 >>> ((1 : Int32).toUInt32 &&& Int32.toUInt32 31)).toInt32) &&& 1431655765))], M)) rfl rfl rfl ?_
  refine ps_st (S' := (15, [(0, .int ((nI y) - ((((nI y).toUInt32 >>> ((1 : Int32).toUInt32 &&& Int32.toUInt32 31)).toInt32) &&& 1431655765)))], [.int (((nI y) - ((((nI y).toUInt32 >>> ((1 : Int32).toUInt32 &&& Int32.toUInt32 31)).toInt32) &&& 1431655765)) &&& 858993459)], M)) rfl rfl rfl ?_
  refine ps_st (S' := (16, [(0, .int ((nI y) - ((((nI y).toUInt32 >>> ((1 : Int32).toUInt32 &&& Int32.toUInt32 31)).toInt32) &&& 1431655765)))], [.int ((nI y) - ((((nI y).toUInt32 >>> ((1 : Int32).toUInt32 &&& Int32.toUInt32 31)).toInt32) &&& 1431655765)), .int (((nI y) - ((((nI y).toUInt32 >>> ((1 : Int32).toUInt32 &&& Int32.toUInt32 31)).toInt32) &&& 1431655765)) &&& 858993459)], M)) rfl rfl rfl ?_
  refine ps_st (S' := (17, [(0, .int ((nI y) - ((((nI y).toUInt32 >>> ((1 : Int32).toUInt32 &&& Int32.toUInt32 31)).toInt32) &&& 1431655765)))], [.int 2, .int ((nI y) - ((((nI y).toUInt32 >>> ((1 : Int32).toUInt32 &&& Int32.toUInt32 31)).toInt32) &&& 1431655765)), .int (((nI y) - ((((nI y).toUInt32 >>> ((1 : Int32).toUInt32 &&& Int32.toUInt32 31)).toInt32) &&& 1431655765)) &&& 858993459)], M)) rfl rfl rfl ?_
  refine ps_st (S' := (18, [(0, .int ((nI y) - ((((nI y).toUInt32 >>> ((1 : Int32).toUInt32 &&& Int32.toUInt32 31)).toInt32) &&& 1431655765)))], [.int ((((nI y) - ((((nI y).toUInt32 >>> ((1 : Int32).toUInt32 &&& Int32.toUInt32 31)).toInt32) &&& 1431655765)).toUInt32 >>> ((2 : Int32).toUInt32 &&& Int32.toUInt32 31)).toInt32), .int (((nI y) - ((((nI y).toUInt32 >>> ((1 : Int32).toUInt32 &&& Int32.toUInt32 31)).toInt32) &&& 1431655765)) &&& 858993459)], M)) rfl rfl rfl ?_
  refine ps_st (S' := (21, [(0, .int ((nI y) - ((((nI y).toUInt32 >>> ((1 : Int32).toUInt32 &&& Int32.toUInt32 31)).toInt32) &&& 1431655765)))], [.int 858993459, .int ((((nI y) - ((((nI y).toUInt32 >>> ((1 : Int32).toUInt32 &&& Int32.toUInt32 31)).toInt32) &&& 1431655765)).toUInt32 >>> ((2 : Int32).toUInt32 &&& Int32.toUInt32 31)).toInt32), .int (((nI y) - ((((nI y).toUInt32 >>> ((1 : Int32).toUInt32 &&& Int32.toUInt32 31)).toInt32) &&& 1431655765)) &&& 858993459)], M)) rfl rfl rfl ?_
  refine ps_st (S' := (22, [(0, .int ((nI y) - ((((nI y).toUInt32 >>> ((1 : Int32).toUInt32 &&& Int32.toUInt32 31)).toInt32) &&& 1431655765)))], [.int (((((nI y) - ((((nI y).toUInt32 >>> ((1 : Int32).toUInt32 &&& Int32.toUInt32 31)).toInt32) &&& 1431655765)).toUInt32 >>> ((2 : Int32).toUInt32 &&& Int32.toUInt32 31)).toInt32) &&& 858993459), .int (((nI y) - ((((nI y).toUInt32 >>> ((1 : Int32).toUInt32 &&& Int32.toUInt32 31)).toInt32) &&& 1431655765)) &&& 858993459)], M)) rfl rfl rfl ?_
  refine ps_st (S' := (23, [(0, .int ((nI y) - ((((nI y).toUInt32 >>> ((1 : Int32).toUInt32 &&& Int32.toUInt32 31)).toInt32) &&& 1431655765)))], [.int ((((nI y) - ((((nI y).toUInt32 >>> ((1 : Int32).toUInt32 &&& Int32.toUInt32 31)).toInt32) &&& 1431655765)) &&& 858993459) + (((((nI y) - ((((nI y).toUInt32 >>> ((1 : Int32).toUInt32 &&& Int32.toUInt32 31)).toInt32) &&& 1431655765)).toUInt32 >>> ((2 : Int32).toUInt32 &&& Int32.toUInt32 31)).toInt32) &&& 858993459))], M)) rfl rfl rfl ?_
  refine ps_st (S' := (24, [(0, .int ((((nI y) - ((((nI y).toUInt32 >>> ((1 : Int32).toUInt32 &&& Int32.toUInt32 31)).toInt32) &&& 1431655765)) &&& 858993459) + (((((nI y) - ((((nI y).toUInt32 >>> ((1 : Int32).toUInt32 &&& Int32.toUInt32 31)).toInt32) &&& 1431655765)).toUInt32 >>> ((2 : Int32).toUInt32 &&& Int32.toUInt32 31)).toInt32) &&& 858993459)))], [], M)) rfl rfl rfl ?_
  refine ps_st (S' := (25, [(0, .int ((((nI y) - ((((nI y).toUInt32 >>> ((1 : Int32).toUInt32 &&& Int32.toUInt32 31)).toInt32) &&& 1431655765)) &&& 858993459) + (((((nI y) - ((((nI y).toUInt32 >>> ((1 : Int32).toUInt32 &&& Int32.toUInt32 31)).toInt32) &&& 1431655765)).toUInt32 >>> ((2 : Int32).toUInt32 &&& Int32.toUInt32 31)).toInt32) &&& 858993459)))], [.int ((((nI y) - ((((nI y).toUInt32 >>> ((1 : Int32).toUInt32 &&& Int32.toUInt32 31)).toInt32) &&& 1431655765)) &&& 858993459) + (((((nI y) - ((((nI y).toUInt32 >>> ((1 : Int32).toUInt32 &&& Int32.toUInt32 31)).toInt32) &&& 1431655765)).toUInt32 >>> ((2 : Int32).toUInt32 &&& Int32.toUInt32 31)).toInt32) &&& 858993459))], M)) rfl rfl rfl ?_
  refine ps_st (S' := (26, [(0, .int ((((nI y) - ((((nI y).toUInt32 >>> ((1 : Int32).toUInt32 &&& Int32.toUInt32 31)).toInt32) &&& 1431655765)) &&& 858993459) + (((((nI y) - ((((nI y).toUInt32 >>> ((1 : Int32).toUInt32 &&& Int32.toUInt32 31)).toInt32) &&& 1431655765)).toUInt32 >>> ((2 : Int32).toUInt32 &&& Int32.toUInt32 31)).toInt32) &&& 858993459)))], [.int ((((nI y) - ((((nI y).toUInt32 >>> ((1 : Int32).toUInt32 &&& Int32.toUInt32 31)).toInt32) &&& 1431655765)) &&& 858993459) + (((((nI y) - ((((nI y).toUInt32 >>> ((1 : Int32).toUInt32 &&& Int32.toUInt32 31)).toInt32) &&& 1431655765)).toUInt32 >>> ((2 : Int32).toUInt32 &&& Int32.toUInt32 31)).toInt32) &&& 858993459)), .int ((((nI y) - ((((nI y).toUInt32 >>> ((1 : Int32).toUInt32 &&& Int32.toUInt32 31)).toInt32) &&& 1431655765)) &&& 858993459) + (((((nI y) - ((((nI y).toUInt32 >>> ((1 : Int32).toUInt32 &&& Int32.toUInt32 31)).toInt32) &&& 1431655765)).toUInt32 >>> ((2 : Int32).toUInt32 &&& Int32.toUInt32 31)).toInt32) &&& 858993459))], M)) rfl rfl rfl ?_
  refine ps_st (S' := (27, [(0, .int ((((nI y) - ((((nI y).toUInt32 >>> ((1 : Int32).toUInt32 &&& Int32.toUInt32 31)).toInt32) &&& 1431655765)) &&& 858993459) + (((((nI y) - ((((nI y).toUInt32 >>> ((1 : Int32).toUInt32 &&& Int32.toUInt32 31)).toInt32) &&& 1431655765)).toUInt32 >>> ((2 : Int32).toUInt32 &&& Int32.toUInt32 31)).toInt32) &&& 858993459)))], [.int 4, .int ((((nI y) - ((((nI y).toUInt32 >>> ((1 : Int32).toUInt32 &&& Int32.toUInt32 31)).toInt32) &&& 1431655765)) &&& 858993459) + (((((nI y) - ((((nI y).toUInt32 >>> ((1 : Int32).toUInt32 &&& Int32.toUInt32 31)).toInt32) &&& 1431655765)).toUInt32 >>> ((2 : Int32).toUInt32 &&& Int32.toUInt32 31)).toInt32) &&& 858993459)), .int ((((nI y) - ((((nI y).toUInt32 >>> ((1 : Int32).toUInt32 &&& Int32.toUInt32 31)).toInt32) &&& 1431655765)) &&& 858993459) + (((((nI y) - ((((nI y).toUInt32 >>> ((1 : Int32).toUInt32 &&& Int32.toUInt32 31)).toInt32) &&& 1431655765)).toUInt32 >>> ((2 : Int32).toUInt32 &&& Int32.toUInt32 31)).toInt32) &&& 858993459))], M)) rfl rfl rfl ?_
  refine ps_st (S' := (28, [(0, .int ((((nI y) - ((((nI y).toUInt32 >>> ((1 : Int32).toUInt32 &&& Int32.toUInt32 31)).toInt32) &&& 1431655765)) &&& 858993459) + (((((nI y) - ((((nI y).toUInt32 >>> ((1 : Int32).toUInt32 &&& Int32.toUInt32 31)).toInt32) &&& 1431655765)).toUInt32 >>> ((2 : Int32).toUInt32 &&& Int32.toUInt32 31)).toInt32) &&& 858993459)))], [.int ((((((nI y) - ((((nI y).toUInt32 >>> ((1 : Int32).toUInt32 &&& Int32.toUInt32 31)).toInt32) &&& 1431655765)) &&& 858993459) + (((((nI y) - ((((nI y).toUInt32 >>> ((1 : Int32).toUInt32 &&& Int32.toUInt32 31)).toInt32) &&& 1431655765)).toUInt32 >>> ((2 : Int32).toUInt32 &&& Int32.toUInt32 31)).toInt32) &&& 858993459)).toUInt32 >>> ((4 : Int32).toUInt32 &&& Int32.toUInt32 31)).toInt32), .int ((((nI y) - ((((nI y).toUInt32 >>> ((1 : Int32).toUInt32 &&& Int32.toUInt32 31)).toInt32) &&& 1431655765)) &&& 858993459) + (((((nI y) - ((((nI y).toUInt32 >>> ((1 : Int32).toUInt32 &&& Int32.toUInt32 31)).toInt32) &&& 1431655765)).toUInt32 >>> ((2 : Int32).toUInt32 &&& Int32.toUInt32 31)).toInt32) &&& 858993459))], M)) rfl rfl rfl ?_
  refine ps_st (S' := (29, [(0, .int ((((nI y) - ((((nI y).toUInt32 >>> ((1 : Int32).toUInt32 &&& Int32.toUInt32 31)).toInt32) &&& 1431655765)) &&& 858993459) + (((((nI y) - ((((nI y).toUInt32 >>> ((1 : Int32).toUInt32 &&& Int32.toUInt32 31)).toInt32) &&& 1431655765)).toUInt32 >>> ((2 : Int32).toUInt32 &&& Int32.toUInt32 31)).toInt32) &&& 858993459)))], [.int (((((nI y) - ((((nI y).toUInt32 >>> ((1 : Int32).toUInt32 &&& Int32.toUInt32 31)).toInt32) &&& 1431655765)) &&& 858993459) + (((((nI y) - ((((nI y).toUInt32 >>> ((1 : Int32).toUInt32 &&& Int32.toUInt32 31)).toInt32) &&& 1431655765)).toUInt32 >>> ((2 : Int32).toUInt32 &&& Int32.toUInt32 31)).toInt32) &&& 858993459)) + ((((((nI y) - ((((nI y).toUInt32 >>> ((1 : Int32).toUInt32 &&& Int32.toUInt32 31)).toInt32) &&& 1431655765)) &&& 858993459) + (((((nI y) - ((((nI y).toUInt32 >>> ((1 : Int32).toUInt32 &&& Int32.toUInt32 31)).toInt32) &&& 1431655765)).toUInt32 >>> ((2 : Int32).toUInt32 &&& Int32.toUInt32 31)).toInt32) &&& 858993459)).toUInt32 >>> ((4 : Int32).toUInt32 &&& Int32.toUInt32 31)).toInt32))], M)) rfl rfl rfl ?_
  refine ps_st (S' := (32, [(0, .int ((((nI y) - ((((nI y).toUInt32 >>> ((1 : Int32).toUInt32 &&& Int32.toUInt32 31)).toInt32) &&& 1431655765)) &&& 858993459) + (((((nI y) - ((((nI y).toUInt32 >>> ((1 : Int32).toUInt32 &&& Int32.toUInt32 31)).toInt32) &&& 1431655765)).toUInt32 >>> ((2 : Int32).toUInt32 &&& Int32.toUInt32 31)).toInt32) &&& 858993459)))], [.int 252645135, .int (((((nI y) - ((((nI y).toUInt32 >>> ((1 : Int32).toUInt32 &&& Int32.toUInt32 31)).toInt32) &&& 1431655765)) &&& 858993459) + (((((nI y) - ((((nI y).toUInt32 >>> ((1 : Int32).toUInt32 &&& Int32.toUInt32 31)).toInt32) &&& 1431655765)).toUInt32 >>> ((2 : Int32).toUInt32 &&& Int32.toUInt32 31)).toInt32) &&& 858993459)) + ((((((nI y) - ((((nI y).toUInt32 >>> ((1 : Int32).toUInt32 &&& Int32.toUInt32 31)).toInt32) &&& 1431655765)) &&& 858993459) + (((((nI y) - ((((nI y).toUInt32 >>> ((1 : Int32).toUInt32 &&& Int32.toUInt32 31)).toInt32) &&& 1431655765)).toUInt32 >>> ((2 : Int32).toUInt32 &&& Int32.toUInt32 31)).toInt32) &&& 858993459)).toUInt32 >>> ((4 : Int32).toUInt32 &&& Int32.toUInt32 31)).toInt32))], M)) rfl rfl rfl ?_
  refine ps_st (S' := (33, [(0, .int ((((nI y) - ((((nI y).toUInt32 >>> ((1 : Int32).toUInt32 &&& Int32.toUInt32 31)).toInt32) &&& 1431655765)) &&& 858993459) + (((((nI y) - ((((nI y).toUInt32 >>> ((1 : Int32).toUInt32 &&& Int32.toUInt32 31)).toInt32) &&& 1431655765)).toUInt32 >>> ((2 : Int32).toUInt32 &&& Int32.toUInt32 31)).toInt32) &&& 858993459)))], [.int ((((((nI y) - ((((nI y).toUInt32 >>> ((1 : Int32).toUInt32 &&& Int32.toUInt32 31)).toInt32) &&& 1431655765)) &&& 858993459) + (((((nI y) - ((((nI y).toUInt32 >>> ((1 : Int32).toUInt32 &&& Int32.toUInt32 31)).toInt32) &&& 1431655765)).toUInt32 >>> ((2 : Int32).toUInt32 &&& Int32.toUInt32 31)).toInt32) &&& 858993459)) + ((((((nI y) - ((((nI y).toUInt32 >>> ((1 : Int32).toUInt32 &&& Int32.toUInt32 31)).toInt32) &&& 1431655765)) &&& 858993459) + (((((nI y) - ((((nI y).toUInt32 >>> ((1 : Int32).toUInt32 &&& Int32.toUInt32 31)).toInt32) &&& 1431655765)).toUInt32 >>> ((2 : Int32).toUInt32 &&& Int32.toUInt32 31)).toInt32) &&& 858993459)).toUInt32 >>> ((4 : Int32).toUInt32 &&& Int32.toUInt32 31)).toInt32)) &&& 252645135)], M)) rfl rfl rfl ?_
  refine ps_st (S' := (34, [(0, .int ((((((nI y) - ((((nI y).toUInt32 >>> ((1 : Int32).toUInt32 &&& Int32.toUInt32 31)).toInt32) &&& 1431655765)) &&& 858993459) + (((((nI y) - ((((nI y).toUInt32 >>> ((1 : Int32).toUInt32 &&& Int32.toUInt32 31)).toInt32) &&& 1431655765)).toUInt32 >>> ((2 : Int32).toUInt32 &&& Int32.toUInt32 31)).toInt32) &&& 858993459)) + ((((((nI y) - ((((nI y).toUInt32 >>> ((1 : Int32).toUInt32 &&& Int32.toUInt32 31)).toInt32) &&& 1431655765)) &&& 858993459) + (((((nI y) - ((((nI y).toUInt32 >>> ((1 : Int32).toUInt32 &&& Int32.toUInt32 31)).toInt32) &&& 1431655765)).toUInt32 >>> ((2 : Int32).toUInt32 &&& Int32.toUInt32 31)).toInt32) &&& 858993459)).toUInt32 >>> ((4 : Int32).toUInt32 &&& Int32.toUInt32 31)).toInt32)) &&& 252645135))], [], M)) rfl rfl rfl ?_
  refine ps_st (S' := (35, [(0, .int ((((((nI y) - ((((nI y).toUInt32 >>> ((1 : Int32).toUInt32 &&& Int32.toUInt32 31)).toInt32) &&& 1431655765)) &&& 858993459) + (((((nI y) - ((((nI y).toUInt32 >>> ((1 : Int32).toUInt32 &&& Int32.toUInt32 31)).toInt32) &&& 1431655765)).toUInt32 >>> ((2 : Int32).toUInt32 &&& Int32.toUInt32 31)).toInt32) &&& 858993459)) + ((((((nI y) - ((((nI y).toUInt32 >>> ((1 : Int32).toUInt32 &&& Int32.toUInt32 31)).toInt32) &&& 1431655765)) &&& 858993459) + (((((nI y) - ((((nI y).toUInt32 >>> ((1 : Int32).toUInt32 &&& Int32.toUInt32 31)).toInt32) &&& 1431655765)).toUInt32 >>> ((2 : Int32).toUInt32 &&& Int32.toUInt32 31)).toInt32) &&& 858993459)).toUInt32 >>> ((4 : Int32).toUInt32 &&& Int32.toUInt32 31)).toInt32)) &&& 252645135))], [.int ((((((nI y) - ((((nI y).toUInt32 >>> ((1 : Int32).toUInt32 &&& Int32.toUInt32 31)).toInt32) &&& 1431655765)) &&& 858993459) + (((((nI y) - ((((nI y).toUInt32 >>> ((1 : Int32).toUInt32 &&& Int32.toUInt32 31)).toInt32) &&& 1431655765)).toUInt32 >>> ((2 : Int32).toUInt32 &&& Int32.toUInt32 31)).toInt32) &&& 858993459)) + ((((((nI y) - ((((nI y).toUInt32 >>> ((1 : Int32).toUInt32 &&& Int32.toUInt32 31)).toInt32) &&& 1431655765)) &&& 858993459) + (((((nI y) - ((((nI y).toUInt32 >>> ((1 : Int32).toUInt32 &&& Int32.toUInt32 31)).toInt32) &&& 1431655765)).toUInt32 >>> ((2 : Int32).toUInt32 &&& Int32.toUInt32 31)).toInt32) &&& 858993459)).toUInt32 >>> ((4 : Int32).toUInt32 &&& Int32.toUInt32 31)).toInt32)) &&& 252645135)], M)) rfl rfl rfl ?_
  refine ps_st (S' := (36, [(0, .int ((((((nI y) - ((((nI y).toUInt32 >>> ((1 : Int32).toUInt32 &&& Int32.toUInt32 31)).toInt32) &&& 1431655765)) &&& 858993459) + (((((nI y) - ((((nI y).toUInt32 >>> ((1 : Int32).toUInt32 &&& Int32.toUInt32 31)).toInt32) &&& 1431655765)).toUInt32 >>> ((2 : Int32).toUInt32 &&& Int32.toUInt32 31)).toInt32) &&& 858993459)) + ((((((nI y) - ((((nI y).toUInt32 >>> ((1 : Int32).toUInt32 &&& Int32.toUInt32 31)).toInt32) &&& 1431655765)) &&& 858993459) + (((((nI y) - ((((nI y).toUInt32 >>> ((1 : Int32).toUInt32 &&& Int32.toUInt32 31)).toInt32) &&& 1431655765)).toUInt32 >>> ((2 : Int32).toUInt32 &&& Int32.toUInt32 31)).toInt32) &&& 858993459)).toUInt32 >>> ((4 : Int32).toUInt32 &&& Int32.toUInt32 31)).toInt32)) &&& 252645135))], [.int ((((((nI y) - ((((nI y).toUInt32 >>> ((1 : Int32).toUInt32 &&& Int32.toUInt32 31)).toInt32) &&& 1431655765)) &&& 858993459) + (((((nI y) - ((((nI y).toUInt32 >>> ((1 : Int32).toUInt32 &&& Int32.toUInt32 31)).toInt32) &&& 1431655765)).toUInt32 >>> ((2 : Int32).toUInt32 &&& Int32.toUInt32 31)).toInt32) &&& 858993459)) + ((((((nI y) - ((((nI y).toUInt32 >>> ((1 : Int32).toUInt32 &&& Int32.toUInt32 31)).toInt32) &&& 1431655765)) &&& 858993459) + (((((nI y) - ((((nI y).toUInt32 >>> ((1 : Int32).toUInt32 &&& Int32.toUInt32 31)).toInt32) &&& 1431655765)).toUInt32 >>> ((2 : Int32).toUInt32 &&& Int32.toUInt32 31)).toInt32) &&& 858993459)).toUInt32 >>> ((4 : Int32).toUInt32 &&& Int32.toUInt32 31)).toInt32)) &&& 252645135), .int ((((((nI y) - ((((nI y).toUInt32 >>> ((1 : Int32).toUInt32 &&& Int32.toUInt32 31)).toInt32) &&& 1431655765)) &&& 858993459) + (((((nI y) - ((((nI y).toUInt32 >>> ((1 : Int32).toUInt32 &&& Int32.toUInt32 31)).toInt32) &&& 1431655765)).toUInt32 >>> ((2 : Int32).toUInt32 &&& Int32.toUInt32 31)).toInt32) &&& 858993459)) + ((((((nI y) - ((((nI y).toUInt32 >>> ((1 : Int32).toUInt32 &&& Int32.toUInt32 31)).toInt32) &&& 1431655765)) &&& 858993459) + (((((nI y) - ((((nI y).toUInt32 >>> ((1 : Int32).toUInt32 &&& Int32.toUInt32 31)).toInt32) &&& 1431655765)).toUInt32 >>> ((2 : Int32).toUInt32 &&& Int32.toUInt32 31)).toInt32) &&& 858993459)).toUInt32 >>> ((4 : Int32).toUInt32 &&& Int32.toUInt32 31)).toInt32)) &&& 252645135)], M)) rfl rfl rfl ?_
  refine ps_st (S' := (38, [(0, .int ((((((nI y) - ((((nI y).toUInt32 >>> ((1 : Int32).toUInt32 &&& Int32.toUInt32 31)).toInt32) &&& 1431655765)) &&& 858993459) + (((((nI y) - ((((nI y).toUInt32 >>> ((1 : Int32).toUInt32 &&& Int32.toUInt32 31)).toInt32) &&& 1431655765)).toUInt32 >>> ((2 : Int32).toUInt32 &&& Int32.toUInt32 31)).toInt32) &&& 858993459)) + ((((((nI y) - ((((nI y).toUInt32 >>> ((1 : Int32).toUInt32 &&& Int32.toUInt32 31)).toInt32) &&& 1431655765)) &&& 858993459) + (((((nI y) - ((((nI y).toUInt32 >>> ((1 : Int32).toUInt32 &&& Int32.toUInt32 31)).toInt32) &&& 1431655765)).toUInt32 >>> ((2 : Int32).toUInt32 &&& Int32.toUInt32 31)).toInt32) &&& 858993459)).toUInt32 >>> ((4 : Int32).toUInt32 &&& Int32.toUInt32 31)).toInt32)) &&& 252645135))], [.int 8, .int ((((((nI y) - ((((nI y).toUInt32 >>> ((1 : Int32).toUInt32 &&& Int32.toUInt32 31)).toInt32) &&& 1431655765)) &&& 858993459) + (((((nI y) - ((((nI y).toUInt32 >>> ((1 : Int32).toUInt32 &&& Int32.toUInt32 31)).toInt32) &&& 1431655765)).toUInt32 >>> ((2 : Int32).toUInt32 &&& Int32.toUInt32 31)).toInt32) &&& 858993459)) + ((((((nI y) - ((((nI y).toUInt32 >>> ((1 : Int32).toUInt32 &&& Int32.toUInt32 31)).toInt32) &&& 1431655765)) &&& 858993459) + (((((nI y) - ((((nI y).toUInt32 >>> ((1 : Int32).toUInt32 &&& Int32.toUInt32 31)).toInt32) &&& 1431655765)).toUInt32 >>> ((2 : Int32).toUInt32 &&& Int32.toUInt32 31)).toInt32) &&& 858993459)).toUInt32 >>> ((4 : Int32).toUInt32 &&& Int32.toUInt32 31)).toInt32)) &&& 252645135), .int ((((((nI y) - ((((nI y).toUInt32 >>> ((1 : Int32).toUInt32 &&& Int32.toUInt32 31)).toInt32) &&& 1431655765)) &&& 858993459) + (((((nI y) - ((((nI y).toUInt32 >>> ((1 : Int32).toUInt32 &&& Int32.toUInt32 31)).toInt32) &&& 1431655765)).toUInt32 >>> ((2 : Int32).toUInt32 &&& Int32.toUInt32 31)).toInt32) &&& 858993459)) + ((((((nI y) - ((((nI y).toUInt32 >>> ((1 : Int32).toUInt32 &&& Int32.toUInt32 31)).toInt32) &&& 1431655765)) &&& 858993459) + (((((nI y) - ((((nI y).toUInt32 >>> ((1 : Int32).toUInt32 &&& Int32.toUInt32 31)).toInt32) &&& 1431655765)).toUInt32 >>> ((2 : Int32).toUInt32 &&& Int32.toUInt32 31)).toInt32) &&& 858993459)).toUInt32 >>> ((4 : Int32).toUInt32 &&& Int32.toUInt32 31)).toInt32)) &&& 252645135)], M)) rfl rfl rfl ?_
  refine ps_st (S' := (39, [(0, .int ((((((nI y) - ((((nI y).toUInt32 >>> ((1 : Int32).toUInt32 &&& Int32.toUInt32 31)).toInt32) &&& 1431655765)) &&& 858993459) + (((((nI y) - ((((nI y).toUInt32 >>> ((1 : Int32).toUInt32 &&& Int32.toUInt32 31)).toInt32) &&& 1431655765)).toUInt32 >>> ((2 : Int32).toUInt32 &&& Int32.toUInt32 31)).toInt32) &&& 858993459)) + ((((((nI y) - ((((nI y).toUInt32 >>> ((1 : Int32).toUInt32 &&& Int32.toUInt32 31)).toInt32) &&& 1431655765)) &&& 858993459) + (((((nI y) - ((((nI y).toUInt32 >>> ((1 : Int32).toUInt32 &&& Int32.toUInt32 31)).toInt32) &&& 1431655765)).toUInt32 >>> ((2 : Int32).toUInt32 &&& Int32.toUInt32 31)).toInt32) &&& 858993459)).toUInt32 >>> ((4 : Int32).toUInt32 &&& Int32.toUInt32 31)).toInt32)) &&& 252645135))], [.int ((((((((nI y) - ((((nI y).toUInt32 >>> ((1 : Int32).toUInt32 &&& Int32.toUInt32 31)).toInt32) &&& 1431655765)) &&& 858993459) + (((((nI y) - ((((nI y).toUInt32 >>> ((1 : Int32).toUInt32 &&& Int32.toUInt32 31)).toInt32) &&& 1431655765)).toUInt32 >>> ((2 : Int32).toUInt32 &&& Int32.toUInt32 31)).toInt32) &&& 858993459)) + ((((((nI y) - ((((nI y).toUInt32 >>> ((1 : Int32).toUInt32 &&& Int32.toUInt32 31)).toInt32) &&& 1431655765)) &&& 858993459) + (((((nI y) - ((((nI y).toUInt32 >>> ((1 : Int32).toUInt32 &&& Int32.toUInt32 31)).toInt32) &&& 1431655765)).toUInt32 >>> ((2 : Int32).toUInt32 &&& Int32.toUInt32 31)).toInt32) &&& 858993459)).toUInt32 >>> ((4 : Int32).toUInt32 &&& Int32.toUInt32 31)).toInt32)) &&& 252645135).toUInt32 >>> ((8 : Int32).toUInt32 &&& Int32.toUInt32 31)).toInt32), .int ((((((nI y) - ((((nI y).toUInt32 >>> ((1 : Int32).toUInt32 &&& Int32.toUInt32 31)).toInt32) &&& 1431655765)) &&& 858993459) + (((((nI y) - ((((nI y).toUInt32 >>> ((1 : Int32).toUInt32 &&& Int32.toUInt32 31)).toInt32) &&& 1431655765)).toUInt32 >>> ((2 : Int32).toUInt32 &&& Int32.toUInt32 31)).toInt32) &&& 858993459)) + ((((((nI y) - ((((nI y).toUInt32 >>> ((1 : Int32).toUInt32 &&& Int32.toUInt32 31)).toInt32) &&& 1431655765)) &&& 858993459) + (((((nI y) - ((((nI y).toUInt32 >>> ((1 : Int32).toUInt32 &&& Int32.toUInt32 31)).toInt32) &&& 1431655765)).toUInt32 >>> ((2 : Int32).toUInt32 &&& Int32.toUInt32 31)).toInt32) &&& 858993459)).toUInt32 >>> ((4 : Int32).toUInt32 &&& Int32.toUInt32 31)).toInt32)) &&& 252645135)], M)) rfl rfl rfl ?_
  refine ps_st (S' := (40, [(0, .int ((((((nI y) - ((((nI y).toUInt32 >>> ((1 : Int32).toUInt32 &&& Int32.toUInt32 31)).toInt32) &&& 1431655765)) &&& 858993459) + (((((nI y) - ((((nI y).toUInt32 >>> ((1 : Int32).toUInt32 &&& Int32.toUInt32 31)).toInt32) &&& 1431655765)).toUInt32 >>> ((2 : Int32).toUInt32 &&& Int32.toUInt32 31)).toInt32) &&& 858993459)) + ((((((nI y) - ((((nI y).toUInt32 >>> ((1 : Int32).toUInt32 &&& Int32.toUInt32 31)).toInt32) &&& 1431655765)) &&& 858993459) + (((((nI y) - ((((nI y).toUInt32 >>> ((1 : Int32).toUInt32 &&& Int32.toUInt32 31)).toInt32) &&& 1431655765)).toUInt32 >>> ((2 : Int32).toUInt32 &&& Int32.toUInt32 31)).toInt32) &&& 858993459)).toUInt32 >>> ((4 : Int32).toUInt32 &&& Int32.toUInt32 31)).toInt32)) &&& 252645135))], [.int (((((((nI y) - ((((nI y).toUInt32 >>> ((1 : Int32).toUInt32 &&& Int32.toUInt32 31)).toInt32) &&& 1431655765)) &&& 858993459) + (((((nI y) - ((((nI y).toUInt32 >>> ((1 : Int32).toUInt32 &&& Int32.toUInt32 31)).toInt32) &&& 1431655765)).toUInt32 >>> ((2 : Int32).toUInt32 &&& Int32.toUInt32 31)).toInt32) &&& 858993459)) + ((((((nI y) - ((((nI y).toUInt32 >>> ((1 : Int32).toUInt32 &&& Int32.toUInt32 31)).toInt32) &&& 1431655765)) &&& 858993459) + (((((nI y) - ((((nI y).toUInt32 >>> ((1 : Int32).toUInt32 &&& Int32.toUInt32 31)).toInt32) &&& 1431655765)).toUInt32 >>> ((2 : Int32).toUInt32 &&& Int32.toUInt32 31)).toInt32) &&& 858993459)).toUInt32 >>> ((4 : Int32).toUInt32 &&& Int32.toUInt32 31)).toInt32)) &&& 252645135) + ((((((((nI y) - ((((nI y).toUInt32 >>> ((1 : Int32).toUInt32 &&& Int32.toUInt32 31)).toInt32) &&& 1431655765)) &&& 858993459) + (((((nI y) - ((((nI y).toUInt32 >>> ((1 : Int32).toUInt32 &&& Int32.toUInt32 31)).toInt32) &&& 1431655765)).toUInt32 >>> ((2 : Int32).toUInt32 &&& Int32.toUInt32 31)).toInt32) &&& 858993459)) + ((((((nI y) - ((((nI y).toUInt32 >>> ((1 : Int32).toUInt32 &&& Int32.toUInt32 31)).toInt32) &&& 1431655765)) &&& 858993459) + (((((nI y) - ((((nI y).toUInt32 >>> ((1 : Int32).toUInt32 &&& Int32.toUInt32 31)).toInt32) &&& 1431655765)).toUInt32 >>> ((2 : Int32).toUInt32 &&& Int32.toUInt32 31)).toInt32) &&& 858993459)).toUInt32 >>> ((4 : Int32).toUInt32 &&& Int32.toUInt32 31)).toInt32)) &&& 252645135).toUInt32 >>> ((8 : Int32).toUInt32 &&& Int32.toUInt32 31)).toInt32))], M)) rfl rfl rfl ?_
  refine ps_st (S' := (41, [(0, .int (((((((nI y) - ((((nI y).toUInt32 >>> ((1 : Int32).toUInt32 &&& Int32.toUInt32 31)).toInt32) &&& 1431655765)) &&& 858993459) + (((((nI y) - ((((nI y).toUInt32 >>> ((1 : Int32).toUInt32 &&& Int32.toUInt32 31)).toInt32) &&& 1431655765)).toUInt32 >>> ((2 : Int32).toUInt32 &&& Int32.toUInt32 31)).toInt32) &&& 858993459)) + ((((((nI y) - ((((nI y).toUInt32 >>> ((1 : Int32).toUInt32 &&& Int32.toUInt32 31)).toInt32) &&& 1431655765)) &&& 858993459) + (((((nI y) - ((((nI y).toUInt32 >>> ((1 : Int32).toUInt32 &&& Int32.toUInt32 31)).toInt32) &&& 1431655765)).toUInt32 >>> ((2 : Int32).toUInt32 &&& Int32.toUInt32 31)).toInt32) &&& 858993459)).toUInt32 >>> ((4 : Int32).toUInt32 &&& Int32.toUInt32 31)).toInt32)) &&& 252645135) + ((((((((nI y) - ((((nI y).toUInt32 >>> ((1 : Int32).toUInt32 &&& Int32.toUInt32 31)).toInt32) &&& 1431655765)) &&& 858993459) + (((((nI y) - ((((nI y).toUInt32 >>> ((1 : Int32).toUInt32 &&& Int32.toUInt32 31)).toInt32) &&& 1431655765)).toUInt32 >>> ((2 : Int32).toUInt32 &&& Int32.toUInt32 31)).toInt32) &&& 858993459)) + ((((((nI y) - ((((nI y).toUInt32 >>> ((1 : Int32).toUInt32 &&& Int32.toUInt32 31)).toInt32) &&& 1431655765)) &&& 858993459) + (((((nI y) - ((((nI y).toUInt32 >>> ((1 : Int32).toUInt32 &&& Int32.toUInt32 31)).toInt32) &&& 1431655765)).toUInt32 >>> ((2 : Int32).toUInt32 &&& Int32.toUInt32 31)).toInt32) &&& 858993459)).toUInt32 >>> ((4 : Int32).toUInt32 &&& Int32.toUInt32 31)).toInt32)) &&& 252645135).toUInt32 >>> ((8 : Int32).toUInt32 &&& Int32.toUInt32 31)).toInt32)))], [], M)) rfl rfl rfl ?_
  refine ps_st (S' := (42, [(0, .int (((((((nI y) - ((((nI y).toUInt32 >>> ((1 : Int32).toUInt32 &&& Int32.toUInt32 31)).toInt32) &&& 1431655765)) &&& 858993459) + (((((nI y) - ((((nI y).toUInt32 >>> ((1 : Int32).toUInt32 &&& Int32.toUInt32 31)).toInt32) &&& 1431655765)).toUInt32 >>> ((2 : Int32).toUInt32 &&& Int32.toUInt32 31)).toInt32) &&& 858993459)) + ((((((nI y) - ((((nI y).toUInt32 >>> ((1 : Int32).toUInt32 &&& Int32.toUInt32 31)).toInt32) &&& 1431655765)) &&& 858993459) + (((((nI y) - ((((nI y).toUInt32 >>> ((1 : Int32).toUInt32 &&& Int32.toUInt32 31)).toInt32) &&& 1431655765)).toUInt32 >>> ((2 : Int32).toUInt32 &&& Int32.toUInt32 31)).toInt32) &&& 858993459)).toUInt32 >>> ((4 : Int32).toUInt32 &&& Int32.toUInt32 31)).toInt32)) &&& 252645135) + ((((((((nI y) - ((((nI y).toUInt32 >>> ((1 : Int32).toUInt32 &&& Int32.toUInt32 31)).toInt32) &&& 1431655765)) &&& 858993459) + (((((nI y) - ((((nI y).toUInt32 >>> ((1 : Int32).toUInt32 &&& Int32.toUInt32 31)).toInt32) &&& 1431655765)).toUInt32 >>> ((2 : Int32).toUInt32 &&& Int32.toUInt32 31)).toInt32) &&& 858993459)) + ((((((nI y) - ((((nI y).toUInt32 >>> ((1 : Int32).toUInt32 &&& Int32.toUInt32 31)).toInt32) &&& 1431655765)) &&& 858993459) + (((((nI y) - ((((nI y).toUInt32 >>> ((1 : Int32).toUInt32 &&& Int32.toUInt32 31)).toInt32) &&& 1431655765)).toUInt32 >>> ((2 : Int32).toUInt32 &&& Int32.toUInt32 31)).toInt32) &&& 858993459)).toUInt32 >>> ((4 : Int32).toUInt32 &&& Int32.toUInt32 31)).toInt32)) &&& 252645135).toUInt32 >>> ((8 : Int32).toUInt32 &&& Int32.toUInt32 31)).toInt32)))], [.int (((((((nI y) - ((((nI y).toUInt32 >>> ((1 : Int32).toUInt32 &&& Int32.toUInt32 31)).toInt32) &&& 1431655765)) &&& 858993459) + (((((nI y) - ((((nI y).toUInt32 >>> ((1 : Int32).toUInt32 &&& Int32.toUInt32 31)).toInt32) &&& 1431655765)).toUInt32 >>> ((2 : Int32).toUInt32 &&& Int32.toUInt32 31)).toInt32) &&& 858993459)) + ((((((nI y) - ((((nI y).toUInt32 >>> ((1 : Int32).toUInt32 &&& Int32.toUInt32 31)).toInt32) &&& 1431655765)) &&& 858993459) + (((((nI y) - ((((nI y).toUInt32 >>> ((1 : Int32).toUInt32 &&& Int32.toUInt32 31)).toInt32) &&& 1431655765)).toUInt32 >>> ((2 : Int32).toUInt32 &&& Int32.toUInt32 31)).toInt32) &&& 858993459)).toUInt32 >>> ((4 : Int32).toUInt32 &&& Int32.toUInt32 31)).toInt32)) &&& 252645135) + ((((((((nI y) - ((((nI y).toUInt32 >>> ((1 : Int32).toUInt32 &&& Int32.toUInt32 31)).toInt32) &&& 1431655765)) &&& 858993459) + (((((nI y) - ((((nI y).toUInt32 >>> ((1 : Int32).toUInt32 &&& Int32.toUInt32 31)).toInt32) &&& 1431655765)).toUInt32 >>> ((2 : Int32).toUInt32 &&& Int32.toUInt32 31)).toInt32) &&& 858993459)) + ((((((nI y) - ((((nI y).toUInt32 >>> ((1 : Int32).toUInt32 &&& Int32.toUInt32 31)).toInt32) &&& 1431655765)) &&& 858993459) + (((((nI y) - ((((nI y).toUInt32 >>> ((1 : Int32).toUInt32 &&& Int32.toUInt32 31)).toInt32) &&& 1431655765)).toUInt32 >>> ((2 : Int32).toUInt32 &&& Int32.toUInt32 31)).toInt32) &&& 858993459)).toUInt32 >>> ((4 : Int32).toUInt32 &&& Int32.toUInt32 31)).toInt32)) &&& 252645135).toUInt32 >>> ((8 : Int32).toUInt32 &&& Int32.toUInt32 31)).toInt32))], M)) rfl rfl rfl ?_
  refine ps_st (S' := (43, [(0, .int (((((((nI y) - ((((nI y).toUInt32 >>> ((1 : Int32).toUInt32 &&& Int32.toUInt32 31)).toInt32) &&& 1431655765)) &&& 858993459) + (((((nI y) - ((((nI y).toUInt32 >>> ((1 : Int32).toUInt32 &&& Int32.toUInt32 31)).toInt32) &&& 1431655765)).toUInt32 >>> ((2 : Int32).toUInt32 &&& Int32.toUInt32 31)).toInt32) &&& 858993459)) + ((((((nI y) - ((((nI y).toUInt32 >>> ((1 : Int32).toUInt32 &&& Int32.toUInt32 31)).toInt32) &&& 1431655765)) &&& 858993459) + (((((nI y) - ((((nI y).toUInt32 >>> ((1 : Int32).toUInt32 &&& Int32.toUInt32 31)).toInt32) &&& 1431655765)).toUInt32 >>> ((2 : Int32).toUInt32 &&& Int32.toUInt32 31)).toInt32) &&& 858993459)).toUInt32 >>> ((4 : Int32).toUInt32 &&& Int32.toUInt32 31)).toInt32)) &&& 252645135) + ((((((((nI y) - ((((nI y).toUInt32 >>> ((1 : Int32).toUInt32 &&& Int32.toUInt32 31)).toInt32) &&& 1431655765)) &&& 858993459) + (((((nI y) - ((((nI y).toUInt32 >>> ((1 : Int32).toUInt32 &&& Int32.toUInt32 31)).toInt32) &&& 1431655765)).toUInt32 >>> ((2 : Int32).toUInt32 &&& Int32.toUInt32 31)).toInt32) &&& 858993459)) + ((((((nI y) - ((((nI y).toUInt32 >>> ((1 : Int32).toUInt32 &&& Int32.toUInt32 31)).toInt32) &&& 1431655765)) &&& 858993459) + (((((nI y) - ((((nI y).toUInt32 >>> ((1 : Int32).toUInt32 &&& Int32.toUInt32 31)).toInt32) &&& 1431655765)).toUInt32 >>> ((2 : Int32).toUInt32 &&& Int32.toUInt32 31)).toInt32) &&& 858993459)).toUInt32 >>> ((4 : Int32).toUInt32 &&& Int32.toUInt32 31)).toInt32)) &&& 252645135).toUInt32 >>> ((8 : Int32).toUInt32 &&& Int32.toUInt32 31)).toInt32)))], [.int (((((((nI y) - ((((nI y).toUInt32 >>> ((1 : Int32).toUInt32 &&& Int32.toUInt32 31)).toInt32) &&& 1431655765)) &&& 858993459) + (((((nI y) - ((((nI y).toUInt32 >>> ((1 : Int32).toUInt32 &&& Int32.toUInt32 31)).toInt32) &&& 1431655765)).toUInt32 >>> ((2 : Int32).toUInt32 &&& Int32.toUInt32 31)).toInt32) &&& 858993459)) + ((((((nI y) - ((((nI y).toUInt32 >>> ((1 : Int32).toUInt32 &&& Int32.toUInt32 31)).toInt32) &&& 1431655765)) &&& 858993459) + (((((nI y) - ((((nI y).toUInt32 >>> ((1 : Int32).toUInt32 &&& Int32.toUInt32 31)).toInt32) &&& 1431655765)).toUInt32 >>> ((2 : Int32).toUInt32 &&& Int32.toUInt32 31)).toInt32) &&& 858993459)).toUInt32 >>> ((4 : Int32).toUInt32 &&& Int32.toUInt32 31)).toInt32)) &&& 252645135) + ((((((((nI y) - ((((nI y).toUInt32 >>> ((1 : Int32).toUInt32 &&& Int32.toUInt32 31)).toInt32) &&& 1431655765)) &&& 858993459) + (((((nI y) - ((((nI y).toUInt32 >>> ((1 : Int32).toUInt32 &&& Int32.toUInt32 31)).toInt32) &&& 1431655765)).toUInt32 >>> ((2 : Int32).toUInt32 &&& Int32.toUInt32 31)).toInt32) &&& 858993459)) + ((((((nI y) - ((((nI y).toUInt32 >>> ((1 : Int32).toUInt32 &&& Int32.toUInt32 31)).toInt32) &&& 1431655765)) &&& 858993459) + (((((nI y) - ((((nI y).toUInt32 >>> ((1 : Int32).toUInt32 &&& Int32.toUInt32 31)).toInt32) &&& 1431655765)).toUInt32 >>> ((2 : Int32).toUInt32 &&& Int32.toUInt32 31)).toInt32) &&& 858993459)).toUInt32 >>> ((4 : Int32).toUInt32 &&& Int32.toUInt32 31)).toInt32)) &&& 252645135).toUInt32 >>> ((8 : Int32).toUInt32 &&& Int32.toUInt32 31)).toInt32)), .int (((((((nI y) - ((((nI y).toUInt32 >>> ((1 : Int32).toUInt32 &&& Int32.toUInt32 31)).toInt32) &&& 1431655765)) &&& 858993459) + (((((nI y) - ((((nI y).toUInt32 >>> ((1 : Int32).toUInt32 &&& Int32.toUInt32 31)).toInt32) &&& 1431655765)).toUInt32 >>> ((2 : Int32).toUInt32 &&& Int32.toUInt32 31)).toInt32) &&& 858993459)) + ((((((nI y) - ((((nI y).toUInt32 >>> ((1 : Int32).toUInt32 &&& Int32.toUInt32 31)).toInt32) &&& 1431655765)) &&& 858993459) + (((((nI y) - ((((nI y).toUInt32 >>> ((1 : Int32).toUInt32 &&& Int32.toUInt32 31)).toInt32) &&& 1431655765)).toUInt32 >>> ((2 : Int32).toUInt32 &&& Int32.toUInt32 31)).toInt32) &&& 858993459)).toUInt32 >>> ((4 : Int32).toUInt32 &&& Int32.toUInt32 31)).toInt32)) &&& 252645135) + ((((((((nI y) - ((((nI y).toUInt32 >>> ((1 : Int32).toUInt32 &&& Int32.toUInt32 31)).toInt32) &&& 1431655765)) &&& 858993459) + (((((nI y) - ((((nI y).toUInt32 >>> ((1 : Int32).toUInt32 &&& Int32.toUInt32 31)).toInt32) &&& 1431655765)).toUInt32 >>> ((2 : Int32).toUInt32 &&& Int32.toUInt32 31)).toInt32) &&& 858993459)) + ((((((nI y) - ((((nI y).toUInt32 >>> ((1 : Int32).toUInt32 &&& Int32.toUInt32 31)).toInt32) &&& 1431655765)) &&& 858993459) + (((((nI y) - ((((nI y).toUInt32 >>> ((1 : Int32).toUInt32 &&& Int32.toUInt32 31)).toInt32) &&& 1431655765)).toUInt32 >>> ((2 : Int32).toUInt32 &&& Int32.toUInt32 31)).toInt32) &&& 858993459)).toUInt32 >>> ((4 : Int32).toUInt32 &&& Int32.toUInt32 31)).toInt32)) &&& 252645135).toUInt32 >>> ((8 : Int32).toUInt32 &&& Int32.toUInt32 31)).toInt32))], M)) rfl rfl rfl ?_
  refine ps_st (S' := (45, [(0, .int (((((((nI y) - ((((nI y).toUInt32 >>> ((1 : Int32).toUInt32 &&& Int32.toUInt32 31)).toInt32) &&& 1431655765)) &&& 858993459) + (((((nI y) - ((((nI y).toUInt32 >>> ((1 : Int32).toUInt32 &&& Int32.toUInt32 31)).toInt32) &&& 1431655765)).toUInt32 >>> ((2 : Int32).toUInt32 &&& Int32.toUInt32 31)).toInt32) &&& 858993459)) + ((((((nI y) - ((((nI y).toUInt32 >>> ((1 : Int32).toUInt32 &&& Int32.toUInt32 31)).toInt32) &&& 1431655765)) &&& 858993459) + (((((nI y) - ((((nI y).toUInt32 >>> ((1 : Int32).toUInt32 &&& Int32.toUInt32 31)).toInt32) &&& 1431655765)).toUInt32 >>> ((2 : Int32).toUInt32 &&& Int32.toUInt32 31)).toInt32) &&& 858993459)).toUInt32 >>> ((4 : Int32).toUInt32 &&& Int32.toUInt32 31)).toInt32)) &&& 252645135) + ((((((((nI y) - ((((nI y).toUInt32 >>> ((1 : Int32).toUInt32 &&& Int32.toUInt32 31)).toInt32) &&& 1431655765)) &&& 858993459) + (((((nI y) - ((((nI y).toUInt32 >>> ((1 : Int32).toUInt32 &&& Int32.toUInt32 31)).toInt32) &&& 1431655765)).toUInt32 >>> ((2 : Int32).toUInt32 &&& Int32.toUInt32 31)).toInt32) &&& 858993459)) + ((((((nI y) - ((((nI y).toUInt32 >>> ((1 : Int32).toUInt32 &&& Int32.toUInt32 31)).toInt32) &&& 1431655765)) &&& 858993459) + (((((nI y) - ((((nI y).toUInt32 >>> ((1 : Int32).toUInt32 &&& Int32.toUInt32 31)).toInt32) &&& 1431655765)).toUInt32 >>> ((2 : Int32).toUInt32 &&& Int32.toUInt32 31)).toInt32) &&& 858993459)).toUInt32 >>> ((4 : Int32).toUInt32 &&& Int32.toUInt32 31)).toInt32)) &&& 252645135).toUInt32 >>> ((8 : Int32).toUInt32 &&& Int32.toUInt32 31)).toInt32)))], [.int 16, .int (((((((nI y) - ((((nI y).toUInt32 >>> ((1 : Int32).toUInt32 &&& Int32.toUInt32 31)).toInt32) &&& 1431655765)) &&& 858993459) + (((((nI y) - ((((nI y).toUInt32 >>> ((1 : Int32).toUInt32 &&& Int32.toUInt32 31)).toInt32) &&& 1431655765)).toUInt32 >>> ((2 : Int32).toUInt32 &&& Int32.toUInt32 31)).toInt32) &&& 858993459)) + ((((((nI y) - ((((nI y).toUInt32 >>> ((1 : Int32).toUInt32 &&& Int32.toUInt32 31)).toInt32) &&& 1431655765)) &&& 858993459) + (((((nI y) - ((((nI y).toUInt32 >>> ((1 : Int32).toUInt32 &&& Int32.toUInt32 31)).toInt32) &&& 1431655765)).toUInt32 >>> ((2 : Int32).toUInt32 &&& Int32.toUInt32 31)).toInt32) &&& 858993459)).toUInt32 >>> ((4 : Int32).toUInt32 &&& Int32.toUInt32 31)).toInt32)) &&& 252645135) + ((((((((nI y) - ((((nI y).toUInt32 >>> ((1 : Int32).toUInt32 &&& Int32.toUInt32 31)).toInt32) &&& 1431655765)) &&& 858993459) + (((((nI y) - ((((nI y).toUInt32 >>> ((1 : Int32).toUInt32 &&& Int32.toUInt32 31)).toInt32) &&& 1431655765)).toUInt32 >>> ((2 : Int32).toUInt32 &&& Int32.toUInt32 31)).toInt32) &&& 858993459)) + ((((((nI y) - ((((nI y).toUInt32 >>> ((1 : Int32).toUInt32 &&& Int32.toUInt32 31)).toInt32) &&& 1431655765)) &&& 858993459) + (((((nI y) - ((((nI y).toUInt32 >>> ((1 : Int32).toUInt32 &&& Int32.toUInt32 31)).toInt32) &&& 1431655765)).toUInt32 >>> ((2 : Int32).toUInt32 &&& Int32.toUInt32 31)).toInt32) &&& 858993459)).toUInt32 >>> ((4 : Int32).toUInt32 &&& Int32.toUInt32 31)).toInt32)) &&& 252645135).toUInt32 >>> ((8 : Int32).toUInt32 &&& Int32.toUInt32 31)).toInt32)), .int (((((((nI y) - ((((nI y).toUInt32 >>> ((1 : Int32).toUInt32 &&& Int32.toUInt32 31)).toInt32) &&& 1431655765)) &&& 858993459) + (((((nI y) - ((((nI y).toUInt32 >>> ((1 : Int32).toUInt32 &&& Int32.toUInt32 31)).toInt32) &&& 1431655765)).toUInt32 >>> ((2 : Int32).toUInt32 &&& Int32.toUInt32 31)).toInt32) &&& 858993459)) + ((((((nI y) - ((((nI y).toUInt32 >>> ((1 : Int32).toUInt32 &&& Int32.toUInt32 31)).toInt32) &&& 1431655765)) &&& 858993459) + (((((nI y) - ((((nI y).toUInt32 >>> ((1 : Int32).toUInt32 &&& Int32.toUInt32 31)).toInt32) &&& 1431655765)).toUInt32 >>> ((2 : Int32).toUInt32 &&& Int32.toUInt32 31)).toInt32) &&& 858993459)).toUInt32 >>> ((4 : Int32).toUInt32 &&& Int32.toUInt32 31)).toInt32)) &&& 252645135) + ((((((((nI y) - ((((nI y).toUInt32 >>> ((1 : Int32).toUInt32 &&& Int32.toUInt32 31)).toInt32) &&& 1431655765)) &&& 858993459) + (((((nI y) - ((((nI y).toUInt32 >>> ((1 : Int32).toUInt32 &&& Int32.toUInt32 31)).toInt32) &&& 1431655765)).toUInt32 >>> ((2 : Int32).toUInt32 &&& Int32.toUInt32 31)).toInt32) &&& 858993459)) + ((((((nI y) - ((((nI y).toUInt32 >>> ((1 : Int32).toUInt32 &&& Int32.toUInt32 31)).toInt32) &&& 1431655765)) &&& 858993459) + (((((nI y) - ((((nI y).toUInt32 >>> ((1 : Int32).toUInt32 &&& Int32.toUInt32 31)).toInt32) &&& 1431655765)).toUInt32 >>> ((2 : Int32).toUInt32 &&& Int32.toUInt32 31)).toInt32) &&& 858993459)).toUInt32 >>> ((4 : Int32).toUInt32 &&& Int32.toUInt32 31)).toInt32)) &&& 252645135).toUInt32 >>> ((8 : Int32).toUInt32 &&& Int32.toUInt32 31)).toInt32))], M)) rfl rfl rfl ?_
  refine ps_st (S' := (46, [(0, .int (((((((nI y) - ((((nI y).toUInt32 >>> ((1 : Int32).toUInt32 &&& Int32.toUInt32 31)).toInt32) &&& 1431655765)) &&& 858993459) + (((((nI y) - ((((nI y).toUInt32 >>> ((1 : Int32).toUInt32 &&& Int32.toUInt32 31)).toInt32) &&& 1431655765)).toUInt32 >>> ((2 : Int32).toUInt32 &&& Int32.toUInt32 31)).toInt32) &&& 858993459)) + ((((((nI y) - ((((nI y).toUInt32 >>> ((1 : Int32).toUInt32 &&& Int32.toUInt32 31)).toInt32) &&& 1431655765)) &&& 858993459) + (((((nI y) - ((((nI y).toUInt32 >>> ((1 : Int32).toUInt32 &&& Int32.toUInt32 31)).toInt32) &&& 1431655765)).toUInt32 >>> ((2 : Int32).toUInt32 &&& Int32.toUInt32 31)).toInt32) &&& 858993459)).toUInt32 >>> ((4 : Int32).toUInt32 &&& Int32.toUInt32 31)).toInt32)) &&& 252645135) + ((((((((nI y) - ((((nI y).toUInt32 >>> ((1 : Int32).toUInt32 &&& Int32.toUInt32 31)).toInt32) &&& 1431655765)) &&& 858993459) + (((((nI y) - ((((nI y).toUInt32 >>> ((1 : Int32).toUInt32 &&& Int32.toUInt32 31)).toInt32) &&& 1431655765)).toUInt32 >>> ((2 : Int32).toUInt32 &&& Int32.toUInt32 31)).toInt32) &&& 858993459)) + ((((((nI y) - ((((nI y).toUInt32 >>> ((1 : Int32).toUInt32 &&& Int32.toUInt32 31)).toInt32) &&& 1431655765)) &&& 858993459) + (((((nI y) - ((((nI y).toUInt32 >>> ((1 : Int32).toUInt32 &&& Int32.toUInt32 31)).toInt32) &&& 1431655765)).toUInt32 >>> ((2 : Int32).toUInt32 &&& Int32.toUInt32 31)).toInt32) &&& 858993459)).toUInt32 >>> ((4 : Int32).toUInt32 &&& Int32.toUInt32 31)).toInt32)) &&& 252645135).toUInt32 >>> ((8 : Int32).toUInt32 &&& Int32.toUInt32 31)).toInt32)))], [.int (((((((((nI y) - ((((nI y).toUInt32 >>> ((1 : Int32).toUInt32 &&& Int32.toUInt32 31)).toInt32) &&& 1431655765)) &&& 858993459) + (((((nI y) - ((((nI y).toUInt32 >>> ((1 : Int32).toUInt32 &&& Int32.toUInt32 31)).toInt32) &&& 1431655765)).toUInt32 >>> ((2 : Int32).toUInt32 &&& Int32.toUInt32 31)).toInt32) &&& 858993459)) + ((((((nI y) - ((((nI y).toUInt32 >>> ((1 : Int32).toUInt32 &&& Int32.toUInt32 31)).toInt32) &&& 1431655765)) &&& 858993459) + (((((nI y) - ((((nI y).toUInt32 >>> ((1 : Int32).toUInt32 &&& Int32.toUInt32 31)).toInt32) &&& 1431655765)).toUInt32 >>> ((2 : Int32).toUInt32 &&& Int32.toUInt32 31)).toInt32) &&& 858993459)).toUInt32 >>> ((4 : Int32).toUInt32 &&& Int32.toUInt32 31)).toInt32)) &&& 252645135) + ((((((((nI y) - ((((nI y).toUInt32 >>> ((1 : Int32).toUInt32 &&& Int32.toUInt32 31)).toInt32) &&& 1431655765)) &&& 858993459) + (((((nI y) - ((((nI y).toUInt32 >>> ((1 : Int32).toUInt32 &&& Int32.toUInt32 31)).toInt32) &&& 1431655765)).toUInt32 >>> ((2 : Int32).toUInt32 &&& Int32.toUInt32 31)).toInt32) &&& 858993459)) + ((((((nI y) - ((((nI y).toUInt32 >>> ((1 : Int32).toUInt32 &&& Int32.toUInt32 31)).toInt32) &&& 1431655765)) &&& 858993459) + (((((nI y) - ((((nI y).toUInt32 >>> ((1 : Int32).toUInt32 &&& Int32.toUInt32 31)).toInt32) &&& 1431655765)).toUInt32 >>> ((2 : Int32).toUInt32 &&& Int32.toUInt32 31)).toInt32) &&& 858993459)).toUInt32 >>> ((4 : Int32).toUInt32 &&& Int32.toUInt32 31)).toInt32)) &&& 252645135).toUInt32 >>> ((8 : Int32).toUInt32 &&& Int32.toUInt32 31)).toInt32)).toUInt32 >>> ((16 : Int32).toUInt32 &&& Int32.toUInt32 31)).toInt32), .int (((((((nI y) - ((((nI y).toUInt32 >>> ((1 : Int32).toUInt32 &&& Int32.toUInt32 31)).toInt32) &&& 1431655765)) &&& 858993459) + (((((nI y) - ((((nI y).toUInt32 >>> ((1 : Int32).toUInt32 &&& Int32.toUInt32 31)).toInt32) &&& 1431655765)).toUInt32 >>> ((2 : Int32).toUInt32 &&& Int32.toUInt32 31)).toInt32) &&& 858993459)) + ((((((nI y) - ((((nI y).toUInt32 >>> ((1 : Int32).toUInt32 &&& Int32.toUInt32 31)).toInt32) &&& 1431655765)) &&& 858993459) + (((((nI y) - ((((nI y).toUInt32 >>> ((1 : Int32).toUInt32 &&& Int32.toUInt32 31)).toInt32) &&& 1431655765)).toUInt32 >>> ((2 : Int32).toUInt32 &&& Int32.toUInt32 31)).toInt32) &&& 858993459)).toUInt32 >>> ((4 : Int32).toUInt32 &&& Int32.toUInt32 31)).toInt32)) &&& 252645135) + ((((((((nI y) - ((((nI y).toUInt32 >>> ((1 : Int32).toUInt32 &&& Int32.toUInt32 31)).toInt32) &&& 1431655765)) &&& 858993459) + (((((nI y) - ((((nI y).toUInt32 >>> ((1 : Int32).toUInt32 &&& Int32.toUInt32 31)).toInt32) &&& 1431655765)).toUInt32 >>> ((2 : Int32).toUInt32 &&& Int32.toUInt32 31)).toInt32) &&& 858993459)) + ((((((nI y) - ((((nI y).toUInt32 >>> ((1 : Int32).toUInt32 &&& Int32.toUInt32 31)).toInt32) &&& 1431655765)) &&& 858993459) + (((((nI y) - ((((nI y).toUInt32 >>> ((1 : Int32).toUInt32 &&& Int32.toUInt32 31)).toInt32) &&& 1431655765)).toUInt32 >>> ((2 : Int32).toUInt32 &&& Int32.toUInt32 31)).toInt32) &&& 858993459)).toUInt32 >>> ((4 : Int32).toUInt32 &&& Int32.toUInt32 31)).toInt32)) &&& 252645135).toUInt32 >>> ((8 : Int32).toUInt32 &&& Int32.toUInt32 31)).toInt32))], M)) rfl rfl rfl ?_
  refine ps_st (S' := (47, [(0, .int (((((((nI y) - ((((nI y).toUInt32 >>> ((1 : Int32).toUInt32 &&& Int32.toUInt32 31)).toInt32) &&& 1431655765)) &&& 858993459) + (((((nI y) - ((((nI y).toUInt32 >>> ((1 : Int32).toUInt32 &&& Int32.toUInt32 31)).toInt32) &&& 1431655765)).toUInt32 >>> ((2 : Int32).toUInt32 &&& Int32.toUInt32 31)).toInt32) &&& 858993459)) + ((((((nI y) - ((((nI y).toUInt32 >>> ((1 : Int32).toUInt32 &&& Int32.toUInt32 31)).toInt32) &&& 1431655765)) &&& 858993459) + (((((nI y) - ((((nI y).toUInt32 >>> ((1 : Int32).toUInt32 &&& Int32.toUInt32 31)).toInt32) &&& 1431655765)).toUInt32 >>> ((2 : Int32).toUInt32 &&& Int32.toUInt32 31)).toInt32) &&& 858993459)).toUInt32 >>> ((4 : Int32).toUInt32 &&& Int32.toUInt32 31)).toInt32)) &&& 252645135) + ((((((((nI y) - ((((nI y).toUInt32 >>> ((1 : Int32).toUInt32 &&& Int32.toUInt32 31)).toInt32) &&& 1431655765)) &&& 858993459) + (((((nI y) - ((((nI y).toUInt32 >>> ((1 : Int32).toUInt32 &&& Int32.toUInt32 31)).toInt32) &&& 1431655765)).toUInt32 >>> ((2 : Int32).toUInt32 &&& Int32.toUInt32 31)).toInt32) &&& 858993459)) + ((((((nI y) - ((((nI y).toUInt32 >>> ((1 : Int32).toUInt32 &&& Int32.toUInt32 31)).toInt32) &&& 1431655765)) &&& 858993459) + (((((nI y) - ((((nI y).toUInt32 >>> ((1 : Int32).toUInt32 &&& Int32.toUInt32 31)).toInt32) &&& 1431655765)).toUInt32 >>> ((2 : Int32).toUInt32 &&& Int32.toUInt32 31)).toInt32) &&& 858993459)).toUInt32 >>> ((4 : Int32).toUInt32 &&& Int32.toUInt32 31)).toInt32)) &&& 252645135).toUInt32 >>> ((8 : Int32).toUInt32 &&& Int32.toUInt32 31)).toInt32)))], [.int ((((((((nI y) - ((((nI y).toUInt32 >>> ((1 : Int32).toUInt32 &&& Int32.toUInt32 31)).toInt32) &&& 1431655765)) &&& 858993459) + (((((nI y) - ((((nI y).toUInt32 >>> ((1 : Int32).toUInt32 &&& Int32.toUInt32 31)).toInt32) &&& 1431655765)).toUInt32 >>> ((2 : Int32).toUInt32 &&& Int32.toUInt32 31)).toInt32) &&& 858993459)) + ((((((nI y) - ((((nI y).toUInt32 >>> ((1 : Int32).toUInt32 &&& Int32.toUInt32 31)).toInt32) &&& 1431655765)) &&& 858993459) + (((((nI y) - ((((nI y).toUInt32 >>> ((1 : Int32).toUInt32 &&& Int32.toUInt32 31)).toInt32) &&& 1431655765)).toUInt32 >>> ((2 : Int32).toUInt32 &&& Int32.toUInt32 31)).toInt32) &&& 858993459)).toUInt32 >>> ((4 : Int32).toUInt32 &&& Int32.toUInt32 31)).toInt32)) &&& 252645135) + ((((((((nI y) - ((((nI y).toUInt32 >>> ((1 : Int32).toUInt32 &&& Int32.toUInt32 31)).toInt32) &&& 1431655765)) &&& 858993459) + (((((nI y) - ((((nI y).toUInt32 >>> ((1 : Int32).toUInt32 &&& Int32.toUInt32 31)).toInt32) &&& 1431655765)).toUInt32 >>> ((2 : Int32).toUInt32 &&& Int32.toUInt32 31)).toInt32) &&& 858993459)) + ((((((nI y) - ((((nI y).toUInt32 >>> ((1 : Int32).toUInt32 &&& Int32.toUInt32 31)).toInt32) &&& 1431655765)) &&& 858993459) + (((((nI y) - ((((nI y).toUInt32 >>> ((1 : Int32).toUInt32 &&& Int32.toUInt32 31)).toInt32) &&& 1431655765)).toUInt32 >>> ((2 : Int32).toUInt32 &&& Int32.toUInt32 31)).toInt32) &&& 858993459)).toUInt32 >>> ((4 : Int32).toUInt32 &&& Int32.toUInt32 31)).toInt32)) &&& 252645135).toUInt32 >>> ((8 : Int32).toUInt32 &&& Int32.toUInt32 31)).toInt32)) + (((((((((nI y) - ((((nI y).toUInt32 >>> ((1 : Int32).toUInt32 &&& Int32.toUInt32 31)).toInt32) &&& 1431655765)) &&& 858993459) + (((((nI y) - ((((nI y).toUInt32 >>> ((1 : Int32).toUInt32 &&& Int32.toUInt32 31)).toInt32) &&& 1431655765)).toUInt32 >>> ((2 : Int32).toUInt32 &&& Int32.toUInt32 31)).toInt32) &&& 858993459)) + ((((((nI y) - ((((nI y).toUInt32 >>> ((1 : Int32).toUInt32 &&& Int32.toUInt32 31)).toInt32) &&& 1431655765)) &&& 858993459) + (((((nI y) - ((((nI y).toUInt32 >>> ((1 : Int32).toUInt32 &&& Int32.toUInt32 31)).toInt32) &&& 1431655765)).toUInt32 >>> ((2 : Int32).toUInt32 &&& Int32.toUInt32 31)).toInt32) &&& 858993459)).toUInt32 >>> ((4 : Int32).toUInt32 &&& Int32.toUInt32 31)).toInt32)) &&& 252645135) + ((((((((nI y) - ((((nI y).toUInt32 >>> ((1 : Int32).toUInt32 &&& Int32.toUInt32 31)).toInt32) &&& 1431655765)) &&& 858993459) + (((((nI y) - ((((nI y).toUInt32 >>> ((1 : Int32).toUInt32 &&& Int32.toUInt32 31)).toInt32) &&& 1431655765)).toUInt32 >>> ((2 : Int32).toUInt32 &&& Int32.toUInt32 31)).toInt32) &&& 858993459)) + ((((((nI y) - ((((nI y).toUInt32 >>> ((1 : Int32).toUInt32 &&& Int32.toUInt32 31)).toInt32) &&& 1431655765)) &&& 858993459) + (((((nI y) - ((((nI y).toUInt32 >>> ((1 : Int32).toUInt32 &&& Int32.toUInt32 31)).toInt32) &&& 1431655765)).toUInt32 >>> ((2 : Int32).toUInt32 &&& Int32.toUInt32 31)).toInt32) &&& 858993459)).toUInt32 >>> ((4 : Int32).toUInt32 &&& Int32.toUInt32 31)).toInt32)) &&& 252645135).toUInt32 >>> ((8 : Int32).toUInt32 &&& Int32.toUInt32 31)).toInt32)).toUInt32 >>> ((16 : Int32).toUInt32 &&& Int32.toUInt32 31)).toInt32))], M)) rfl rfl rfl ?_
  refine ps_st (S' := (48, [(0, .int ((((((((nI y) - ((((nI y).toUInt32 >>> ((1 : Int32).toUInt32 &&& Int32.toUInt32 31)).toInt32) &&& 1431655765)) &&& 858993459) + (((((nI y) - ((((nI y).toUInt32 >>> ((1 : Int32).toUInt32 &&& Int32.toUInt32 31)).toInt32) &&& 1431655765)).toUInt32 >>> ((2 : Int32).toUInt32 &&& Int32.toUInt32 31)).toInt32) &&& 858993459)) + ((((((nI y) - ((((nI y).toUInt32 >>> ((1 : Int32).toUInt32 &&& Int32.toUInt32 31)).toInt32) &&& 1431655765)) &&& 858993459) + (((((nI y) - ((((nI y).toUInt32 >>> ((1 : Int32).toUInt32 &&& Int32.toUInt32 31)).toInt32) &&& 1431655765)).toUInt32 >>> ((2 : Int32).toUInt32 &&& Int32.toUInt32 31)).toInt32) &&& 858993459)).toUInt32 >>> ((4 : Int32).toUInt32 &&& Int32.toUInt32 31)).toInt32)) &&& 252645135) + ((((((((nI y) - ((((nI y).toUInt32 >>> ((1 : Int32).toUInt32 &&& Int32.toUInt32 31)).toInt32) &&& 1431655765)) &&& 858993459) + (((((nI y) - ((((nI y).toUInt32 >>> ((1 : Int32).toUInt32 &&& Int32.toUInt32 31)).toInt32) &&& 1431655765)).toUInt32 >>> ((2 : Int32).toUInt32 &&& Int32.toUInt32 31)).toInt32) &&& 858993459)) + ((((((nI y) - ((((nI y).toUInt32 >>> ((1 : Int32).toUInt32 &&& Int32.toUInt32 31)).toInt32) &&& 1431655765)) &&& 858993459) + (((((nI y) - ((((nI y).toUInt32 >>> ((1 : Int32).toUInt32 &&& Int32.toUInt32 31)).toInt32) &&& 1431655765)).toUInt32 >>> ((2 : Int32).toUInt32 &&& Int32.toUInt32 31)).toInt32) &&& 858993459)).toUInt32 >>> ((4 : Int32).toUInt32 &&& Int32.toUInt32 31)).toInt32)) &&& 252645135).toUInt32 >>> ((8 : Int32).toUInt32 &&& Int32.toUInt32 31)).toInt32)) + (((((((((nI y) - ((((nI y).toUInt32 >>> ((1 : Int32).toUInt32 &&& Int32.toUInt32 31)).toInt32) &&& 1431655765)) &&& 858993459) + (((((nI y) - ((((nI y).toUInt32 >>> ((1 : Int32).toUInt32 &&& Int32.toUInt32 31)).toInt32) &&& 1431655765)).toUInt32 >>> ((2 : Int32).toUInt32 &&& Int32.toUInt32 31)).toInt32) &&& 858993459)) + ((((((nI y) - ((((nI y).toUInt32 >>> ((1 : Int32).toUInt32 &&& Int32.toUInt32 31)).toInt32) &&& 1431655765)) &&& 858993459) + (((((nI y) - ((((nI y).toUInt32 >>> ((1 : Int32).toUInt32 &&& Int32.toUInt32 31)).toInt32) &&& 1431655765)).toUInt32 >>> ((2 : Int32).toUInt32 &&& Int32.toUInt32 31)).toInt32) &&& 858993459)).toUInt32 >>> ((4 : Int32).toUInt32 &&& Int32.toUInt32 31)).toInt32)) &&& 252645135) + ((((((((nI y) - ((((nI y).toUInt32 >>> ((1 : Int32).toUInt32 &&& Int32.toUInt32 31)).toInt32) &&& 1431655765)) &&& 858993459) + (((((nI y) - ((((nI y).toUInt32 >>> ((1 : Int32).toUInt32 &&& Int32.toUInt32 31)).toInt32) &&& 1431655765)).toUInt32 >>> ((2 : Int32).toUInt32 &&& Int32.toUInt32 31)).toInt32) &&& 858993459)) + ((((((nI y) - ((((nI y).toUInt32 >>> ((1 : Int32).toUInt32 &&& Int32.toUInt32 31)).toInt32) &&& 1431655765)) &&& 858993459) + (((((nI y) - ((((nI y).toUInt32 >>> ((1 : Int32).toUInt32 &&& Int32.toUInt32 31)).toInt32) &&& 1431655765)).toUInt32 >>> ((2 : Int32).toUInt32 &&& Int32.toUInt32 31)).toInt32) &&& 858993459)).toUInt32 >>> ((4 : Int32).toUInt32 &&& Int32.toUInt32 31)).toInt32)) &&& 252645135).toUInt32 >>> ((8 : Int32).toUInt32 &&& Int32.toUInt32 31)).toInt32)).toUInt32 >>> ((16 : Int32).toUInt32 &&& Int32.toUInt32 31)).toInt32)))], [], M)) rfl rfl rfl ?_
  refine ps_st (S' := (49, [(0, .int ((((((((nI y) - ((((nI y).toUInt32 >>> ((1 : Int32).toUInt32 &&& Int32.toUInt32 31)).toInt32) &&& 1431655765)) &&& 858993459) + (((((nI y) - ((((nI y).toUInt32 >>> ((1 : Int32).toUInt32 &&& Int32.toUInt32 31)).toInt32) &&& 1431655765)).toUInt32 >>> ((2 : Int32).toUInt32 &&& Int32.toUInt32 31)).toInt32) &&& 858993459)) + ((((((nI y) - ((((nI y).toUInt32 >>> ((1 : Int32).toUInt32 &&& Int32.toUInt32 31)).toInt32) &&& 1431655765)) &&& 858993459) + (((((nI y) - ((((nI y).toUInt32 >>> ((1 : Int32).toUInt32 &&& Int32.toUInt32 31)).toInt32) &&& 1431655765)).toUInt32 >>> ((2 : Int32).toUInt32 &&& Int32.toUInt32 31)).toInt32) &&& 858993459)).toUInt32 >>> ((4 : Int32).toUInt32 &&& Int32.toUInt32 31)).toInt32)) &&& 252645135) + ((((((((nI y) - ((((nI y).toUInt32 >>> ((1 : Int32).toUInt32 &&& Int32.toUInt32 31)).toInt32) &&& 1431655765)) &&& 858993459) + (((((nI y) - ((((nI y).toUInt32 >>> ((1 : Int32).toUInt32 &&& Int32.toUInt32 31)).toInt32) &&& 1431655765)).toUInt32 >>> ((2 : Int32).toUInt32 &&& Int32.toUInt32 31)).toInt32) &&& 858993459)) + ((((((nI y) - ((((nI y).toUInt32 >>> ((1 : Int32).toUInt32 &&& Int32.toUInt32 31)).toInt32) &&& 1431655765)) &&& 858993459) + (((((nI y) - ((((nI y).toUInt32 >>> ((1 : Int32).toUInt32 &&& Int32.toUInt32 31)).toInt32) &&& 1431655765)).toUInt32 >>> ((2 : Int32).toUInt32 &&& Int32.toUInt32 31)).toInt32) &&& 858993459)).toUInt32 >>> ((4 : Int32).toUInt32 &&& Int32.toUInt32 31)).toInt32)) &&& 252645135).toUInt32 >>> ((8 : Int32).toUInt32 &&& Int32.toUInt32 31)).toInt32)) + (((((((((nI y) - ((((nI y).toUInt32 >>> ((1 : Int32).toUInt32 &&& Int32.toUInt32 31)).toInt32) &&& 1431655765)) &&& 858993459) + (((((nI y) - ((((nI y).toUInt32 >>> ((1 : Int32).toUInt32 &&& Int32.toUInt32 31)).toInt32) &&& 1431655765)).toUInt32 >>> ((2 : Int32).toUInt32 &&& Int32.toUInt32 31)).toInt32) &&& 858993459)) + ((((((nI y) - ((((nI y).toUInt32 >>> ((1 : Int32).toUInt32 &&& Int32.toUInt32 31)).toInt32) &&& 1431655765)) &&& 858993459) + (((((nI y) - ((((nI y).toUInt32 >>> ((1 : Int32).toUInt32 &&& Int32.toUInt32 31)).toInt32) &&& 1431655765)).toUInt32 >>> ((2 : Int32).toUInt32 &&& Int32.toUInt32 31)).toInt32) &&& 858993459)).toUInt32 >>> ((4 : Int32).toUInt32 &&& Int32.toUInt32 31)).toInt32)) &&& 252645135) + ((((((((nI y) - ((((nI y).toUInt32 >>> ((1 : Int32).toUInt32 &&& Int32.toUInt32 31)).toInt32) &&& 1431655765)) &&& 858993459) + (((((nI y) - ((((nI y).toUInt32 >>> ((1 : Int32).toUInt32 &&& Int32.toUInt32 31)).toInt32) &&& 1431655765)).toUInt32 >>> ((2 : Int32).toUInt32 &&& Int32.toUInt32 31)).toInt32) &&& 858993459)) + ((((((nI y) - ((((nI y).toUInt32 >>> ((1 : Int32).toUInt32 &&& Int32.toUInt32 31)).toInt32) &&& 1431655765)) &&& 858993459) + (((((nI y) - ((((nI y).toUInt32 >>> ((1 : Int32).toUInt32 &&& Int32.toUInt32 31)).toInt32) &&& 1431655765)).toUInt32 >>> ((2 : Int32).toUInt32 &&& Int32.toUInt32 31)).toInt32) &&& 858993459)).toUInt32 >>> ((4 : Int32).toUInt32 &&& Int32.toUInt32 31)).toInt32)) &&& 252645135).toUInt32 >>> ((8 : Int32).toUInt32 &&& Int32.toUInt32 31)).toInt32)).toUInt32 >>> ((16 : Int32).toUInt32 &&& Int32.toUInt32 31)).toInt32)))], [.int ((((((((nI y) - ((((nI y).toUInt32 >>> ((1 : Int32).toUInt32 &&& Int32.toUInt32 31)).toInt32) &&& 1431655765)) &&& 858993459) + (((((nI y) - ((((nI y).toUInt32 >>> ((1 : Int32).toUInt32 &&& Int32.toUInt32 31)).toInt32) &&& 1431655765)).toUInt32 >>> ((2 : Int32).toUInt32 &&& Int32.toUInt32 31)).toInt32) &&& 858993459)) + ((((((nI y) - ((((nI y).toUInt32 >>> ((1 : Int32).toUInt32 &&& Int32.toUInt32 31)).toInt32) &&& 1431655765)) &&& 858993459) + (((((nI y) - ((((nI y).toUInt32 >>> ((1 : Int32).toUInt32 &&& Int32.toUInt32 31)).toInt32) &&& 1431655765)).toUInt32 >>> ((2 : Int32).toUInt32 &&& Int32.toUInt32 31)).toInt32) &&& 858993459)).toUInt32 >>> ((4 : Int32).toUInt32 &&& Int32.toUInt32 31)).toInt32)) &&& 252645135) + ((((((((nI y) - ((((nI y).toUInt32 >>> ((1 : Int32).toUInt32 &&& Int32.toUInt32 31)).toInt32) &&& 1431655765)) &&& 858993459) + (((((nI y) - ((((nI y).toUInt32 >>> ((1 : Int32).toUInt32 &&& Int32.toUInt32 31)).toInt32) &&& 1431655765)).toUInt32 >>> ((2 : Int32).toUInt32 &&& Int32.toUInt32 31)).toInt32) &&& 858993459)) + ((((((nI y) - ((((nI y).toUInt32 >>> ((1 : Int32).toUInt32 &&& Int32.toUInt32 31)).toInt32) &&& 1431655765)) &&& 858993459) + (((((nI y) - ((((nI y).toUInt32 >>> ((1 : Int32).toUInt32 &&& Int32.toUInt32 31)).toInt32) &&& 1431655765)).toUInt32 >>> ((2 : Int32).toUInt32 &&& Int32.toUInt32 31)).toInt32) &&& 858993459)).toUInt32 >>> ((4 : Int32).toUInt32 &&& Int32.toUInt32 31)).toInt32)) &&& 252645135).toUInt32 >>> ((8 : Int32).toUInt32 &&& Int32.toUInt32 31)).toInt32)) + (((((((((nI y) - ((((nI y).toUInt32 >>> ((1 : Int32).toUInt32 &&& Int32.toUInt32 31)).toInt32) &&& 1431655765)) &&& 858993459) + (((((nI y) - ((((nI y).toUInt32 >>> ((1 : Int32).toUInt32 &&& Int32.toUInt32 31)).toInt32) &&& 1431655765)).toUInt32 >>> ((2 : Int32).toUInt32 &&& Int32.toUInt32 31)).toInt32) &&& 858993459)) + ((((((nI y) - ((((nI y).toUInt32 >>> ((1 : Int32).toUInt32 &&& Int32.toUInt32 31)).toInt32) &&& 1431655765)) &&& 858993459) + (((((nI y) - ((((nI y).toUInt32 >>> ((1 : Int32).toUInt32 &&& Int32.toUInt32 31)).toInt32) &&& 1431655765)).toUInt32 >>> ((2 : Int32).toUInt32 &&& Int32.toUInt32 31)).toInt32) &&& 858993459)).toUInt32 >>> ((4 : Int32).toUInt32 &&& Int32.toUInt32 31)).toInt32)) &&& 252645135) + ((((((((nI y) - ((((nI y).toUInt32 >>> ((1 : Int32).toUInt32 &&& Int32.toUInt32 31)).toInt32) &&& 1431655765)) &&& 858993459) + (((((nI y) - ((((nI y).toUInt32 >>> ((1 : Int32).toUInt32 &&& Int32.toUInt32 31)).toInt32) &&& 1431655765)).toUInt32 >>> ((2 : Int32).toUInt32 &&& Int32.toUInt32 31)).toInt32) &&& 858993459)) + ((((((nI y) - ((((nI y).toUInt32 >>> ((1 : Int32).toUInt32 &&& Int32.toUInt32 31)).toInt32) &&& 1431655765)) &&& 858993459) + (((((nI y) - ((((nI y).toUInt32 >>> ((1 : Int32).toUInt32 &&& Int32.toUInt32 31)).toInt32) &&& 1431655765)).toUInt32 >>> ((2 : Int32).toUInt32 &&& Int32.toUInt32 31)).toInt32) &&& 858993459)).toUInt32 >>> ((4 : Int32).toUInt32 &&& Int32.toUInt32 31)).toInt32)) &&& 252645135).toUInt32 >>> ((8 : Int32).toUInt32 &&& Int32.toUInt32 31)).toInt32)).toUInt32 >>> ((16 : Int32).toUInt32 &&& Int32.toUInt32 31)).toInt32))], M)) rfl rfl rfl ?_
  refine ps_st (S' := (51, [(0, .int ((((((((nI y) - ((((nI y).toUInt32 >>> ((1 : Int32).toUInt32 &&& Int32.toUInt32 31)).toInt32) &&& 1431655765)) &&& 858993459) + (((((nI y) - ((((nI y).toUInt32 >>> ((1 : Int32).toUInt32 &&& Int32.toUInt32 31)).toInt32) &&& 1431655765)).toUInt32 >>> ((2 : Int32).toUInt32 &&& Int32.toUInt32 31)).toInt32) &&& 858993459)) + ((((((nI y) - ((((nI y).toUInt32 >>> ((1 : Int32).toUInt32 &&& Int32.toUInt32 31)).toInt32) &&& 1431655765)) &&& 858993459) + (((((nI y) - ((((nI y).toUInt32 >>> ((1 : Int32).toUInt32 &&& Int32.toUInt32 31)).toInt32) &&& 1431655765)).toUInt32 >>> ((2 : Int32).toUInt32 &&& Int32.toUInt32 31)).toInt32) &&& 858993459)).toUInt32 >>> ((4 : Int32).toUInt32 &&& Int32.toUInt32 31)).toInt32)) &&& 252645135) + ((((((((nI y) - ((((nI y).toUInt32 >>> ((1 : Int32).toUInt32 &&& Int32.toUInt32 31)).toInt32) &&& 1431655765)) &&& 858993459) + (((((nI y) - ((((nI y).toUInt32 >>> ((1 : Int32).toUInt32 &&& Int32.toUInt32 31)).toInt32) &&& 1431655765)).toUInt32 >>> ((2 : Int32).toUInt32 &&& Int32.toUInt32 31)).toInt32) &&& 858993459)) + ((((((nI y) - ((((nI y).toUInt32 >>> ((1 : Int32).toUInt32 &&& Int32.toUInt32 31)).toInt32) &&& 1431655765)) &&& 858993459) + (((((nI y) - ((((nI y).toUInt32 >>> ((1 : Int32).toUInt32 &&& Int32.toUInt32 31)).toInt32) &&& 1431655765)).toUInt32 >>> ((2 : Int32).toUInt32 &&& Int32.toUInt32 31)).toInt32) &&& 858993459)).toUInt32 >>> ((4 : Int32).toUInt32 &&& Int32.toUInt32 31)).toInt32)) &&& 252645135).toUInt32 >>> ((8 : Int32).toUInt32 &&& Int32.toUInt32 31)).toInt32)) + (((((((((nI y) - ((((nI y).toUInt32 >>> ((1 : Int32).toUInt32 &&& Int32.toUInt32 31)).toInt32) &&& 1431655765)) &&& 858993459) + (((((nI y) - ((((nI y).toUInt32 >>> ((1 : Int32).toUInt32 &&& Int32.toUInt32 31)).toInt32) &&& 1431655765)).toUInt32 >>> ((2 : Int32).toUInt32 &&& Int32.toUInt32 31)).toInt32) &&& 858993459)) + ((((((nI y) - ((((nI y).toUInt32 >>> ((1 : Int32).toUInt32 &&& Int32.toUInt32 31)).toInt32) &&& 1431655765)) &&& 858993459) + (((((nI y) - ((((nI y).toUInt32 >>> ((1 : Int32).toUInt32 &&& Int32.toUInt32 31)).toInt32) &&& 1431655765)).toUInt32 >>> ((2 : Int32).toUInt32 &&& Int32.toUInt32 31)).toInt32) &&& 858993459)).toUInt32 >>> ((4 : Int32).toUInt32 &&& Int32.toUInt32 31)).toInt32)) &&& 252645135) + ((((((((nI y) - ((((nI y).toUInt32 >>> ((1 : Int32).toUInt32 &&& Int32.toUInt32 31)).toInt32) &&& 1431655765)) &&& 858993459) + (((((nI y) - ((((nI y).toUInt32 >>> ((1 : Int32).toUInt32 &&& Int32.toUInt32 31)).toInt32) &&& 1431655765)).toUInt32 >>> ((2 : Int32).toUInt32 &&& Int32.toUInt32 31)).toInt32) &&& 858993459)) + ((((((nI y) - ((((nI y).toUInt32 >>> ((1 : Int32).toUInt32 &&& Int32.toUInt32 31)).toInt32) &&& 1431655765)) &&& 858993459) + (((((nI y) - ((((nI y).toUInt32 >>> ((1 : Int32).toUInt32 &&& Int32.toUInt32 31)).toInt32) &&& 1431655765)).toUInt32 >>> ((2 : Int32).toUInt32 &&& Int32.toUInt32 31)).toInt32) &&& 858993459)).toUInt32 >>> ((4 : Int32).toUInt32 &&& Int32.toUInt32 31)).toInt32)) &&& 252645135).toUInt32 >>> ((8 : Int32).toUInt32 &&& Int32.toUInt32 31)).toInt32)).toUInt32 >>> ((16 : Int32).toUInt32 &&& Int32.toUInt32 31)).toInt32)))], [.int 63, .int ((((((((nI y) - ((((nI y).toUInt32 >>> ((1 : Int32).toUInt32 &&& Int32.toUInt32 31)).toInt32) &&& 1431655765)) &&& 858993459) + (((((nI y) - ((((nI y).toUInt32 >>> ((1 : Int32).toUInt32 &&& Int32.toUInt32 31)).toInt32) &&& 1431655765)).toUInt32 >>> ((2 : Int32).toUInt32 &&& Int32.toUInt32 31)).toInt32) &&& 858993459)) + ((((((nI y) - ((((nI y).toUInt32 >>> ((1 : Int32).toUInt32 &&& Int32.toUInt32 31)).toInt32) &&& 1431655765)) &&& 858993459) + (((((nI y) - ((((nI y).toUInt32 >>> ((1 : Int32).toUInt32 &&& Int32.toUInt32 31)).toInt32) &&& 1431655765)).toUInt32 >>> ((2 : Int32).toUInt32 &&& Int32.toUInt32 31)).toInt32) &&& 858993459)).toUInt32 >>> ((4 : Int32).toUInt32 &&& Int32.toUInt32 31)).toInt32)) &&& 252645135) + ((((((((nI y) - ((((nI y).toUInt32 >>> ((1 : Int32).toUInt32 &&& Int32.toUInt32 31)).toInt32) &&& 1431655765)) &&& 858993459) + (((((nI y) - ((((nI y).toUInt32 >>> ((1 : Int32).toUInt32 &&& Int32.toUInt32 31)).toInt32) &&& 1431655765)).toUInt32 >>> ((2 : Int32).toUInt32 &&& Int32.toUInt32 31)).toInt32) &&& 858993459)) + ((((((nI y) - ((((nI y).toUInt32 >>> ((1 : Int32).toUInt32 &&& Int32.toUInt32 31)).toInt32) &&& 1431655765)) &&& 858993459) + (((((nI y) - ((((nI y).toUInt32 >>> ((1 : Int32).toUInt32 &&& Int32.toUInt32 31)).toInt32) &&& 1431655765)).toUInt32 >>> ((2 : Int32).toUInt32 &&& Int32.toUInt32 31)).toInt32) &&& 858993459)).toUInt32 >>> ((4 : Int32).toUInt32 &&& Int32.toUInt32 31)).toInt32)) &&& 252645135).toUInt32 >>> ((8 : Int32).toUInt32 &&& Int32.toUInt32 31)).toInt32)) + (((((((((nI y) - ((((nI y).toUInt32 >>> ((1 : Int32).toUInt32 &&& Int32.toUInt32 31)).toInt32) &&& 1431655765)) &&& 858993459) + (((((nI y) - ((((nI y).toUInt32 >>> ((1 : Int32).toUInt32 &&& Int32.toUInt32 31)).toInt32) &&& 1431655765)).toUInt32 >>> ((2 : Int32).toUInt32 &&& Int32.toUInt32 31)).toInt32) &&& 858993459)) + ((((((nI y) - ((((nI y).toUInt32 >>> ((1 : Int32).toUInt32 &&& Int32.toUInt32 31)).toInt32) &&& 1431655765)) &&& 858993459) + (((((nI y) - ((((nI y).toUInt32 >>> ((1 : Int32).toUInt32 &&& Int32.toUInt32 31)).toInt32) &&& 1431655765)).toUInt32 >>> ((2 : Int32).toUInt32 &&& Int32.toUInt32 31)).toInt32) &&& 858993459)).toUInt32 >>> ((4 : Int32).toUInt32 &&& Int32.toUInt32 31)).toInt32)) &&& 252645135) + ((((((((nI y) - ((((nI y).toUInt32 >>> ((1 : Int32).toUInt32 &&& Int32.toUInt32 31)).toInt32) &&& 1431655765)) &&& 858993459) + (((((nI y) - ((((nI y).toUInt32 >>> ((1 : Int32).toUInt32 &&& Int32.toUInt32 31)).toInt32) &&& 1431655765)).toUInt32 >>> ((2 : Int32).toUInt32 &&& Int32.toUInt32 31)).toInt32) &&& 858993459)) + ((((((nI y) - ((((nI y).toUInt32 >>> ((1 : Int32).toUInt32 &&& Int32.toUInt32 31)).toInt32) &&& 1431655765)) &&& 858993459) + (((((nI y) - ((((nI y).toUInt32 >>> ((1 : Int32).toUInt32 &&& Int32.toUInt32 31)).toInt32) &&& 1431655765)).toUInt32 >>> ((2 : Int32).toUInt32 &&& Int32.toUInt32 31)).toInt32) &&& 858993459)).toUInt32 >>> ((4 : Int32).toUInt32 &&& Int32.toUInt32 31)).toInt32)) &&& 252645135).toUInt32 >>> ((8 : Int32).toUInt32 &&& Int32.toUInt32 31)).toInt32)).toUInt32 >>> ((16 : Int32).toUInt32 &&& Int32.toUInt32 31)).toInt32))], M)) rfl rfl rfl ?_
  refine ps_st (S' := (52, [(0, .int ((((((((nI y) - ((((nI y).toUInt32 >>> ((1 : Int32).toUInt32 &&& Int32.toUInt32 31)).toInt32) &&& 1431655765)) &&& 858993459) + (((((nI y) - ((((nI y).toUInt32 >>> ((1 : Int32).toUInt32 &&& Int32.toUInt32 31)).toInt32) &&& 1431655765)).toUInt32 >>> ((2 : Int32).toUInt32 &&& Int32.toUInt32 31)).toInt32) &&& 858993459)) + ((((((nI y) - ((((nI y).toUInt32 >>> ((1 : Int32).toUInt32 &&& Int32.toUInt32 31)).toInt32) &&& 1431655765)) &&& 858993459) + (((((nI y) - ((((nI y).toUInt32 >>> ((1 : Int32).toUInt32 &&& Int32.toUInt32 31)).toInt32) &&& 1431655765)).toUInt32 >>> ((2 : Int32).toUInt32 &&& Int32.toUInt32 31)).toInt32) &&& 858993459)).toUInt32 >>> ((4 : Int32).toUInt32 &&& Int32.toUInt32 31)).toInt32)) &&& 252645135) + ((((((((nI y) - ((((nI y).toUInt32 >>> ((1 : Int32).toUInt32 &&& Int32.toUInt32 31)).toInt32) &&& 1431655765)) &&& 858993459) + (((((nI y) - ((((nI y).toUInt32 >>> ((1 : Int32).toUInt32 &&& Int32.toUInt32 31)).toInt32) &&& 1431655765)).toUInt32 >>> ((2 : Int32).toUInt32 &&& Int32.toUInt32 31)).toInt32) &&& 858993459)) + ((((((nI y) - ((((nI y).toUInt32 >>> ((1 : Int32).toUInt32 &&& Int32.toUInt32 31)).toInt32) &&& 1431655765)) &&& 858993459) + (((((nI y) - ((((nI y).toUInt32 >>> ((1 : Int32).toUInt32 &&& Int32.toUInt32 31)).toInt32) &&& 1431655765)).toUInt32 >>> ((2 : Int32).toUInt32 &&& Int32.toUInt32 31)).toInt32) &&& 858993459)).toUInt32 >>> ((4 : Int32).toUInt32 &&& Int32.toUInt32 31)).toInt32)) &&& 252645135).toUInt32 >>> ((8 : Int32).toUInt32 &&& Int32.toUInt32 31)).toInt32)) + (((((((((nI y) - ((((nI y).toUInt32 >>> ((1 : Int32).toUInt32 &&& Int32.toUInt32 31)).toInt32) &&& 1431655765)) &&& 858993459) + (((((nI y) - ((((nI y).toUInt32 >>> ((1 : Int32).toUInt32 &&& Int32.toUInt32 31)).toInt32) &&& 1431655765)).toUInt32 >>> ((2 : Int32).toUInt32 &&& Int32.toUInt32 31)).toInt32) &&& 858993459)) + ((((((nI y) - ((((nI y).toUInt32 >>> ((1 : Int32).toUInt32 &&& Int32.toUInt32 31)).toInt32) &&& 1431655765)) &&& 858993459) + (((((nI y) - ((((nI y).toUInt32 >>> ((1 : Int32).toUInt32 &&& Int32.toUInt32 31)).toInt32) &&& 1431655765)).toUInt32 >>> ((2 : Int32).toUInt32 &&& Int32.toUInt32 31)).toInt32) &&& 858993459)).toUInt32 >>> ((4 : Int32).toUInt32 &&& Int32.toUInt32 31)).toInt32)) &&& 252645135) + ((((((((nI y) - ((((nI y).toUInt32 >>> ((1 : Int32).toUInt32 &&& Int32.toUInt32 31)).toInt32) &&& 1431655765)) &&& 858993459) + (((((nI y) - ((((nI y).toUInt32 >>> ((1 : Int32).toUInt32 &&& Int32.toUInt32 31)).toInt32) &&& 1431655765)).toUInt32 >>> ((2 : Int32).toUInt32 &&& Int32.toUInt32 31)).toInt32) &&& 858993459)) + ((((((nI y) - ((((nI y).toUInt32 >>> ((1 : Int32).toUInt32 &&& Int32.toUInt32 31)).toInt32) &&& 1431655765)) &&& 858993459) + (((((nI y) - ((((nI y).toUInt32 >>> ((1 : Int32).toUInt32 &&& Int32.toUInt32 31)).toInt32) &&& 1431655765)).toUInt32 >>> ((2 : Int32).toUInt32 &&& Int32.toUInt32 31)).toInt32) &&& 858993459)).toUInt32 >>> ((4 : Int32).toUInt32 &&& Int32.toUInt32 31)).toInt32)) &&& 252645135).toUInt32 >>> ((8 : Int32).toUInt32 &&& Int32.toUInt32 31)).toInt32)).toUInt32 >>> ((16 : Int32).toUInt32 &&& Int32.toUInt32 31)).toInt32)))], [.int (((((((((nI y) - ((((nI y).toUInt32 >>> ((1 : Int32).toUInt32 &&& Int32.toUInt32 31)).toInt32) &&& 1431655765)) &&& 858993459) + (((((nI y) - ((((nI y).toUInt32 >>> ((1 : Int32).toUInt32 &&& Int32.toUInt32 31)).toInt32) &&& 1431655765)).toUInt32 >>> ((2 : Int32).toUInt32 &&& Int32.toUInt32 31)).toInt32) &&& 858993459)) + ((((((nI y) - ((((nI y).toUInt32 >>> ((1 : Int32).toUInt32 &&& Int32.toUInt32 31)).toInt32) &&& 1431655765)) &&& 858993459) + (((((nI y) - ((((nI y).toUInt32 >>> ((1 : Int32).toUInt32 &&& Int32.toUInt32 31)).toInt32) &&& 1431655765)).toUInt32 >>> ((2 : Int32).toUInt32 &&& Int32.toUInt32 31)).toInt32) &&& 858993459)).toUInt32 >>> ((4 : Int32).toUInt32 &&& Int32.toUInt32 31)).toInt32)) &&& 252645135) + ((((((((nI y) - ((((nI y).toUInt32 >>> ((1 : Int32).toUInt32 &&& Int32.toUInt32 31)).toInt32) &&& 1431655765)) &&& 858993459) + (((((nI y) - ((((nI y).toUInt32 >>> ((1 : Int32).toUInt32 &&& Int32.toUInt32 31)).toInt32) &&& 1431655765)).toUInt32 >>> ((2 : Int32).toUInt32 &&& Int32.toUInt32 31)).toInt32) &&& 858993459)) + ((((((nI y) - ((((nI y).toUInt32 >>> ((1 : Int32).toUInt32 &&& Int32.toUInt32 31)).toInt32) &&& 1431655765)) &&& 858993459) + (((((nI y) - ((((nI y).toUInt32 >>> ((1 : Int32).toUInt32 &&& Int32.toUInt32 31)).toInt32) &&& 1431655765)).toUInt32 >>> ((2 : Int32).toUInt32 &&& Int32.toUInt32 31)).toInt32) &&& 858993459)).toUInt32 >>> ((4 : Int32).toUInt32 &&& Int32.toUInt32 31)).toInt32)) &&& 252645135).toUInt32 >>> ((8 : Int32).toUInt32 &&& Int32.toUInt32 31)).toInt32)) + (((((((((nI y) - ((((nI y).toUInt32 >>> ((1 : Int32).toUInt32 &&& Int32.toUInt32 31)).toInt32) &&& 1431655765)) &&& 858993459) + (((((nI y) - ((((nI y).toUInt32 >>> ((1 : Int32).toUInt32 &&& Int32.toUInt32 31)).toInt32) &&& 1431655765)).toUInt32 >>> ((2 : Int32).toUInt32 &&& Int32.toUInt32 31)).toInt32) &&& 858993459)) + ((((((nI y) - ((((nI y).toUInt32 >>> ((1 : Int32).toUInt32 &&& Int32.toUInt32 31)).toInt32) &&& 1431655765)) &&& 858993459) + (((((nI y) - ((((nI y).toUInt32 >>> ((1 : Int32).toUInt32 &&& Int32.toUInt32 31)).toInt32) &&& 1431655765)).toUInt32 >>> ((2 : Int32).toUInt32 &&& Int32.toUInt32 31)).toInt32) &&& 858993459)).toUInt32 >>> ((4 : Int32).toUInt32 &&& Int32.toUInt32 31)).toInt32)) &&& 252645135) + ((((((((nI y) - ((((nI y).toUInt32 >>> ((1 : Int32).toUInt32 &&& Int32.toUInt32 31)).toInt32) &&& 1431655765)) &&& 858993459) + (((((nI y) - ((((nI y).toUInt32 >>> ((1 : Int32).toUInt32 &&& Int32.toUInt32 31)).toInt32) &&& 1431655765)).toUInt32 >>> ((2 : Int32).toUInt32 &&& Int32.toUInt32 31)).toInt32) &&& 858993459)) + ((((((nI y) - ((((nI y).toUInt32 >>> ((1 : Int32).toUInt32 &&& Int32.toUInt32 31)).toInt32) &&& 1431655765)) &&& 858993459) + (((((nI y) - ((((nI y).toUInt32 >>> ((1 : Int32).toUInt32 &&& Int32.toUInt32 31)).toInt32) &&& 1431655765)).toUInt32 >>> ((2 : Int32).toUInt32 &&& Int32.toUInt32 31)).toInt32) &&& 858993459)).toUInt32 >>> ((4 : Int32).toUInt32 &&& Int32.toUInt32 31)).toInt32)) &&& 252645135).toUInt32 >>> ((8 : Int32).toUInt32 &&& Int32.toUInt32 31)).toInt32)).toUInt32 >>> ((16 : Int32).toUInt32 &&& Int32.toUInt32 31)).toInt32)) &&& 63)], M)) rfl rfl rfl ?_
  exact ps_reti rfl (⟨congrArg (fun x => some (Value.int x)) ((show ∀ y, y < 8 → (((((((((nI y) - ((((nI y).toUInt32 >>> ((1 : Int32).toUInt32 &&& Int32.toUInt32 31)).toInt32) &&& 1431655765)) &&& 858993459) + (((((nI y) - ((((nI y).toUInt32 >>> ((1 : Int32).toUInt32 &&& Int32.toUInt32 31)).toInt32) &&& 1431655765)).toUInt32 >>> ((2 : Int32).toUInt32 &&& Int32.toUInt32 31)).toInt32) &&& 858993459)) + ((((((nI y) - ((((nI y).toUInt32 >>> ((1 : Int32).toUInt32 &&& Int32.toUInt32 31)).toInt32) &&& 1431655765)) &&& 858993459) + (((((nI y) - ((((nI y).toUInt32 >>> ((1 : Int32).toUInt32 &&& Int32.toUInt32 31)).toInt32) &&& 1431655765)).toUInt32 >>> ((2 : Int32).toUInt32 &&& Int32.toUInt32 31)).toInt32) &&& 858993459)).toUInt32 >>> ((4 : Int32).toUInt32 &&& Int32.toUInt32 31)).toInt32)) &&& 252645135) + ((((((((nI y) - ((((nI y).toUInt32 >>> ((1 : Int32).toUInt32 &&& Int32.toUInt32 31)).toInt32) &&& 1431655765)) &&& 858993459) + (((((nI y) - ((((nI y).toUInt32 >>> ((1 : Int32).toUInt32 &&& Int32.toUInt32 31)).toInt32) &&& 1431655765)).toUInt32 >>> ((2 : Int32).toUInt32 &&& Int32.toUInt32 31)).toInt32) &&& 858993459)) + ((((((nI y) - ((((nI y).toUInt32 >>> ((1 : Int32).toUInt32 &&& Int32.toUInt32 31)).toInt32) &&& 1431655765)) &&& 858993459) + (((((nI y) - ((((nI y).toUInt32 >>> ((1 : Int32).toUInt32 &&& Int32.toUInt32 31)).toInt32) &&& 1431655765)).toUInt32 >>> ((2 : Int32).toUInt32 &&& Int32.toUInt32 31)).toInt32) &&& 858993459)).toUInt32 >>> ((4 : Int32).toUInt32 &&& Int32.toUInt32 31)).toInt32)) &&& 252645135).toUInt32 >>> ((8 : Int32).toUInt32 &&& Int32.toUInt32 31)).toInt32)) + (((((((((nI y) - ((((nI y).toUInt32 >>> ((1 : Int32).toUInt32 &&& Int32.toUInt32 31)).toInt32) &&& 1431655765)) &&& 858993459) + (((((nI y) - ((((nI y).toUInt32 >>> ((1 : Int32).toUInt32 &&& Int32.toUInt32 31)).toInt32) &&& 1431655765)).toUInt32 >>> ((2 : Int32).toUInt32 &&& Int32.toUInt32 31)).toInt32) &&& 858993459)) + ((((((nI y) - ((((nI y).toUInt32 >>> ((1 : Int32).toUInt32 &&& Int32.toUInt32 31)).toInt32) &&& 1431655765)) &&& 858993459) + (((((nI y) - ((((nI y).toUInt32 >>> ((1 : Int32).toUInt32 &&& Int32.toUInt32 31)).toInt32) &&& 1431655765)).toUInt32 >>> ((2 : Int32).toUInt32 &&& Int32.toUInt32 31)).toInt32) &&& 858993459)).toUInt32 >>> ((4 : Int32).toUInt32 &&& Int32.toUInt32 31)).toInt32)) &&& 252645135) + ((((((((nI y) - ((((nI y).toUInt32 >>> ((1 : Int32).toUInt32 &&& Int32.toUInt32 31)).toInt32) &&& 1431655765)) &&& 858993459) + (((((nI y) - ((((nI y).toUInt32 >>> ((1 : Int32).toUInt32 &&& Int32.toUInt32 31)).toInt32) &&& 1431655765)).toUInt32 >>> ((2 : Int32).toUInt32 &&& Int32.toUInt32 31)).toInt32) &&& 858993459)) + ((((((nI y) - ((((nI y).toUInt32 >>> ((1 : Int32).toUInt32 &&& Int32.toUInt32 31)).toInt32) &&& 1431655765)) &&& 858993459) + (((((nI y) - ((((nI y).toUInt32 >>> ((1 : Int32).toUInt32 &&& Int32.toUInt32 31)).toInt32) &&& 1431655765)).toUInt32 >>> ((2 : Int32).toUInt32 &&& Int32.toUInt32 31)).toInt32) &&& 858993459)).toUInt32 >>> ((4 : Int32).toUInt32 &&& Int32.toUInt32 31)).toInt32)) &&& 252645135).toUInt32 >>> ((8 : Int32).toUInt32 &&& Int32.toUInt32 31)).toInt32)).toUInt32 >>> ((16 : Int32).toUInt32 &&& Int32.toUInt32 31)).toInt32)) &&& 63) = nI (bc3 y) by decide +kernel) y hy), rfl⟩)
set_option maxHeartbeats 1000000 in
theorem dk_hasOneAccessAtMost {g : xe_G} {M : mi_H} {x : Nat}  (hx : x < 65536) : pt (mT g) 59 [.int (nI x)] M (fun v M' => (v = some (.int (nI (oneN x))) ∧ M = M')) := by
  refine pt_in (b := mb_59 g) rfl (fun kf => ?_)
  show pl (mT g) kf (mb_59 g).2 (0, [(0, .int (nI x))], [], M) _
  have ha_x : ∀ m, aN x m < 65536 := fun m => Nat.lt_of_le_of_lt Nat.and_le_left hx
  refine ps_st (S' := (1, [(0, .int (nI x))], [.int (nI x)], M)) rfl rfl rfl ?_
  refine ps_st (S' := (3, [(0, .int (nI x))], [.int 7, .int (nI x)], M)) rfl rfl rfl ?_
  refine ps_st (S' := (4, [(0, .int (nI x))], [.int ((nI x) &&& 7)], M)) rfl rfl rfl ?_
  rw [nI_an (p := x) (k := 7) (x := 7) rfl]
  show pl _ _ _ (_, [(0, .int (nI x))], [.int (nI (aN x 7))], M) _
  refine pl_call (a := [.int (nI (aN x 7))]) (rest := []) rfl rfl rfl (dk_bitCount (y := (aN x 7)) (Nat.lt_of_le_of_lt (an_le _ _) (by decide))) (fun v1 M2 q3 => ?_)
  obtain ⟨rfl, rfl⟩ := q3
  show pl _ _ _ (7, [(0, .int (nI x))], [.int (nI (bc3 (aN x 7)))], M) _
  refine ps_st (S' := (8, [(0, .int (nI x))], [.int 1, .int (nI (bc3 (aN x 7)))], M)) rfl rfl rfl ?_
  refine ps_if2 (S1 := (15, [(0, .int (nI x))], [], M)) (S2 := (11, [(0, .int (nI x))], [], M)) rfl rfl rfl (fun c_8 => ?_) (fun c_8 => ?_)
  · have c_8 : 1 < (nI (bc3 (aN x 7))) := of_decide_eq_true c_8
    have n_8 : 1 < bc3 (aN x 7) := (lt_nI (p := 1) (n := bc3 (aN x 7)) (by decide) (Nat.lt_trans (bc3_lt _) (by decide))).mp c_8
    refine ps_st (S' := (16, [], [.int 0], M)) rfl rfl rfl ?_
    exact ps_ret rfl rfl (⟨congrArg (fun x => some (Value.int (nI x))) (show 0 = oneN x from by
        unfold oneN
        first | ((repeat first | rw [if_pos (by omega)] | rw [if_neg (by omega)]) <;> first | rfl | omega) | ((repeat' split) <;> first | rfl | (exfalso; omega) | omega)), rfl⟩)
  · have c_8 : ¬ (1 < (nI (bc3 (aN x 7)))) := of_decide_eq_false c_8
    have n_8 : ¬ (1 < bc3 (aN x 7)) := fun h9 => c_8 ((lt_nI (p := 1) (n := bc3 (aN x 7)) (by decide) (Nat.lt_trans (bc3_lt _) (by decide))).mpr h9)
    refine ps_st (S' := (12, [(0, .int (nI x))], [.int 1], M)) rfl rfl rfl ?_
    refine ps_st (S' := (16, [], [.int 1], M)) rfl rfl rfl ?_
    exact ps_ret rfl rfl (⟨congrArg (fun x => some (Value.int (nI x))) (show 1 = oneN x from by
        unfold oneN
        first | ((repeat first | rw [if_pos (by omega)] | rw [if_neg (by omega)]) <;> first | rfl | omega) | ((repeat' split) <;> first | rfl | (exfalso; omega) | omega)), rfl⟩)
set_option maxHeartbeats 1000000 in
theorem dk_classFlagsHold {g : xe_G} {M : mi_H} {x : Nat}  (hx : x < 65536) : pt (mT g) 53 [.int (nI x)] M (fun v M' => (v = some (.int (nI (cflN x))) ∧ M = M')) := by
  refine pt_in (b := mb_53 g) rfl (fun kf => ?_)
  show pl (mT g) kf (mb_53 g).2 (0, [(0, .int (nI x))], [], M) _
  have ha_x : ∀ m, aN x m < 65536 := fun m => Nat.lt_of_le_of_lt Nat.and_le_left hx
  refine ps_st (S' := (1, [(0, .int (nI x))], [.int (nI x)], M)) rfl rfl rfl ?_
  refine ps_st (S' := (3, [(0, .int (nI x))], [.int 32768, .int (nI x)], M)) rfl rfl rfl ?_
  refine ps_st (S' := (4, [(0, .int (nI x))], [.int ((nI x) &&& 32768)], M)) rfl rfl rfl ?_
  rw [nI_an (p := x) (k := 32768) (x := 32768) rfl]
  show pl _ _ _ (_, [(0, .int (nI x))], [.int (nI (aN x 32768))], M) _
  refine ps_if (S1 := (9, [(0, .int (nI x))], [], M)) (S2 := (7, [(0, .int (nI x))], [], M)) rfl rfl rfl (fun c_4 => ?_) (fun c_4 => ?_)
  · have c_4 : (nI (aN x 32768)) = 0 := of_decide_eq_true c_4
    have n_4 : aN x 32768 = 0 := (eq_nI (p := aN x 32768) (n := 0) (Nat.lt_trans (ha_x _) (by decide)) (by decide)).mp c_4
    refine ps_st (S' := (10, [(0, .int (nI x))], [.int (nI x)], M)) rfl rfl rfl ?_
    refine ps_st (S' := (13, [(0, .int (nI x))], [.int 512, .int (nI x)], M)) rfl rfl rfl ?_
    refine ps_st (S' := (14, [(0, .int (nI x))], [.int ((nI x) &&& 512)], M)) rfl rfl rfl ?_
    rw [nI_an (p := x) (k := 512) (x := 512) rfl]
    show pl _ _ _ (_, [(0, .int (nI x))], [.int (nI (aN x 512))], M) _
    refine ps_if (S1 := (39, [(0, .int (nI x))], [], M)) (S2 := (17, [(0, .int (nI x))], [], M)) rfl rfl rfl (fun c_14 => ?_) (fun c_14 => ?_)
    · have c_14 : (nI (aN x 512)) = 0 := of_decide_eq_true c_14
      have n_14 : aN x 512 = 0 := (eq_nI (p := aN x 512) (n := 0) (Nat.lt_trans (ha_x _) (by decide)) (by decide)).mp c_14
      refine ps_st (S' := (40, [(0, .int (nI x))], [.int (nI x)], M)) rfl rfl rfl ?_
      refine ps_st (S' := (43, [(0, .int (nI x))], [.int 8192, .int (nI x)], M)) rfl rfl rfl ?_
      refine ps_st (S' := (44, [(0, .int (nI x))], [.int ((nI x) &&& 8192)], M)) rfl rfl rfl ?_
      rw [nI_an (p := x) (k := 8192) (x := 8192) rfl]
      show pl _ _ _ (_, [(0, .int (nI x))], [.int (nI (aN x 8192))], M) _
      refine ps_if (S1 := (61, [], [], M)) (S2 := (47, [(0, .int (nI x))], [], M)) rfl rfl rfl (fun c_44 => ?_) (fun c_44 => ?_)
      · have c_44 : ¬ (nI (aN x 8192)) = 0 := of_decide_eq_true c_44
        have n_44 : ¬ (aN x 8192 = 0) := fun h9 => c_44 ((eq_nI (p := aN x 8192) (n := 0) (Nat.lt_trans (ha_x _) (by decide)) (by decide)).mpr h9)
        refine ps_st (S' := (62, [], [.int 0], M)) rfl rfl rfl ?_
        exact ps_ret rfl rfl (⟨congrArg (fun x => some (Value.int (nI x))) (show 0 = cflN x from by
            unfold cflN
            first | ((repeat first | rw [if_pos (by omega)] | rw [if_neg (by omega)]) <;> first | rfl | omega) | ((repeat' split) <;> first | rfl | (exfalso; omega) | omega)), rfl⟩)
      · have c_44 : ¬ (¬ (nI (aN x 8192)) = 0) := of_decide_eq_false c_44
        have n_44 : aN x 8192 = 0 := (eq_nI (p := aN x 8192) (n := 0) (Nat.lt_trans (ha_x _) (by decide)) (by decide)).mp (Decidable.not_not.mp c_44)
        refine ps_st (S' := (48, [(0, .int (nI x))], [.int (nI x)], M)) rfl rfl rfl ?_
        refine ps_st (S' := (51, [(0, .int (nI x))], [.int 1040, .int (nI x)], M)) rfl rfl rfl ?_
        refine pl_call (a := [.int (nI x), .int 1040]) (rest := []) rfl rfl rfl (dk_hasAll (x := x) (w := 1040) (by omega) (by decide)) (fun v1 M2 q3 => ?_)
        obtain ⟨rfl, rfl⟩ := q3
        show pl _ _ _ (54, [(0, .int (nI x))], [.int (nI (hallN x 1040))], M) _
        refine ps_if (S1 := (61, [], [], M)) (S2 := (57, [(0, .int (nI x))], [], M)) rfl rfl rfl (fun c_54 => ?_) (fun c_54 => ?_)
        · have c_54 : ¬ (nI (hallN x 1040)) = 0 := of_decide_eq_true c_54
          have n_54 : ¬ (hallN x 1040 = 0) := fun h9 => c_54 ((eq_nI (p := hallN x 1040) (n := 0) (Nat.lt_trans (le1_hall _ _) (by decide)) (by decide)).mpr h9)
          refine ps_st (S' := (62, [], [.int 0], M)) rfl rfl rfl ?_
          exact ps_ret rfl rfl (⟨congrArg (fun x => some (Value.int (nI x))) (show 0 = cflN x from by
              unfold cflN
              first | ((repeat first | rw [if_pos (by omega)] | rw [if_neg (by omega)]) <;> first | rfl | omega) | ((repeat' split) <;> first | rfl | (exfalso; omega) | omega)), rfl⟩)
        · have c_54 : ¬ (¬ (nI (hallN x 1040)) = 0) := of_decide_eq_false c_54
          have n_54 : hallN x 1040 = 0 := (eq_nI (p := hallN x 1040) (n := 0) (Nat.lt_trans (le1_hall _ _) (by decide)) (by decide)).mp (Decidable.not_not.mp c_54)
          refine ps_st (S' := (58, [(0, .int (nI x))], [.int 1], M)) rfl rfl rfl ?_
          refine ps_st (S' := (62, [], [.int 1], M)) rfl rfl rfl ?_
          exact ps_ret rfl rfl (⟨congrArg (fun x => some (Value.int (nI x))) (show 1 = cflN x from by
              unfold cflN
              first | ((repeat first | rw [if_pos (by omega)] | rw [if_neg (by omega)]) <;> first | rfl | omega) | ((repeat' split) <;> first | rfl | (exfalso; omega) | omega)), rfl⟩)
    · have c_14 : ¬ ((nI (aN x 512)) = 0) := of_decide_eq_false c_14
      have n_14 : ¬ (aN x 512 = 0) := fun h9 => c_14 ((eq_nI (p := aN x 512) (n := 0) (Nat.lt_trans (ha_x _) (by decide)) (by decide)).mpr h9)
      refine ps_st (S' := (18, [(0, .int (nI x))], [.int (nI x)], M)) rfl rfl rfl ?_
      refine ps_st (S' := (21, [(0, .int (nI x))], [.int 1024, .int (nI x)], M)) rfl rfl rfl ?_
      refine ps_st (S' := (22, [(0, .int (nI x))], [.int ((nI x) &&& 1024)], M)) rfl rfl rfl ?_
      rw [nI_an (p := x) (k := 1024) (x := 1024) rfl]
      show pl _ _ _ (_, [(0, .int (nI x))], [.int (nI (aN x 1024))], M) _
      refine ps_if (S1 := (37, [], [], M)) (S2 := (25, [(0, .int (nI x))], [], M)) rfl rfl rfl (fun c_22 => ?_) (fun c_22 => ?_)
      · have c_22 : (nI (aN x 1024)) = 0 := of_decide_eq_true c_22
        have n_22 : aN x 1024 = 0 := (eq_nI (p := aN x 1024) (n := 0) (Nat.lt_trans (ha_x _) (by decide)) (by decide)).mp c_22
        refine ps_st (S' := (38, [], [.int 0], M)) rfl rfl rfl ?_
        exact ps_ret rfl rfl (⟨congrArg (fun x => some (Value.int (nI x))) (show 0 = cflN x from by
            unfold cflN
            first | ((repeat first | rw [if_pos (by omega)] | rw [if_neg (by omega)]) <;> first | rfl | omega) | ((repeat' split) <;> first | rfl | (exfalso; omega) | omega)), rfl⟩)
      · have c_22 : ¬ ((nI (aN x 1024)) = 0) := of_decide_eq_false c_22
        have n_22 : ¬ (aN x 1024 = 0) := fun h9 => c_22 ((eq_nI (p := aN x 1024) (n := 0) (Nat.lt_trans (ha_x _) (by decide)) (by decide)).mpr h9)
        refine ps_st (S' := (26, [(0, .int (nI x))], [.int (nI x)], M)) rfl rfl rfl ?_
        refine ps_st (S' := (29, [(0, .int (nI x))], [.int 16432, .int (nI x)], M)) rfl rfl rfl ?_
        refine ps_st (S' := (30, [(0, .int (nI x))], [.int ((nI x) &&& 16432)], M)) rfl rfl rfl ?_
        rw [nI_an (p := x) (k := 16432) (x := 16432) rfl]
        show pl _ _ _ (_, [(0, .int (nI x))], [.int (nI (aN x 16432))], M) _
        refine ps_if (S1 := (37, [], [], M)) (S2 := (33, [(0, .int (nI x))], [], M)) rfl rfl rfl (fun c_30 => ?_) (fun c_30 => ?_)
        · have c_30 : ¬ (nI (aN x 16432)) = 0 := of_decide_eq_true c_30
          have n_30 : ¬ (aN x 16432 = 0) := fun h9 => c_30 ((eq_nI (p := aN x 16432) (n := 0) (Nat.lt_trans (ha_x _) (by decide)) (by decide)).mpr h9)
          refine ps_st (S' := (38, [], [.int 0], M)) rfl rfl rfl ?_
          exact ps_ret rfl rfl (⟨congrArg (fun x => some (Value.int (nI x))) (show 0 = cflN x from by
              unfold cflN
              first | ((repeat first | rw [if_pos (by omega)] | rw [if_neg (by omega)]) <;> first | rfl | omega) | ((repeat' split) <;> first | rfl | (exfalso; omega) | omega)), rfl⟩)
        · have c_30 : ¬ (¬ (nI (aN x 16432)) = 0) := of_decide_eq_false c_30
          have n_30 : aN x 16432 = 0 := (eq_nI (p := aN x 16432) (n := 0) (Nat.lt_trans (ha_x _) (by decide)) (by decide)).mp (Decidable.not_not.mp c_30)
          refine ps_st (S' := (34, [(0, .int (nI x))], [.int 1], M)) rfl rfl rfl ?_
          refine ps_st (S' := (38, [], [.int 1], M)) rfl rfl rfl ?_
          exact ps_ret rfl rfl (⟨congrArg (fun x => some (Value.int (nI x))) (show 1 = cflN x from by
              unfold cflN
              first | ((repeat first | rw [if_pos (by omega)] | rw [if_neg (by omega)]) <;> first | rfl | omega) | ((repeat' split) <;> first | rfl | (exfalso; omega) | omega)), rfl⟩)
  · have c_4 : ¬ ((nI (aN x 32768)) = 0) := of_decide_eq_false c_4
    have n_4 : ¬ (aN x 32768 = 0) := fun h9 => c_4 ((eq_nI (p := aN x 32768) (n := 0) (Nat.lt_trans (ha_x _) (by decide)) (by decide)).mpr h9)
    refine ps_st (S' := (8, [(0, .int (nI x))], [.int 0], M)) rfl rfl rfl ?_
    exact ps_ret rfl rfl (⟨congrArg (fun x => some (Value.int (nI x))) (show 0 = cflN x from by
        unfold cflN
        first | ((repeat first | rw [if_pos (by omega)] | rw [if_neg (by omega)]) <;> first | rfl | omega) | ((repeat' split) <;> first | rfl | (exfalso; omega) | omega)), rfl⟩)
set_option maxHeartbeats 1000000 in
theorem dk_headHolds {g : xe_G} {M : mi_H} {f : Nat → Int32} {n N q : Nat} {E : List (Nat × Nat)} {o c b da vd ac fr mr fa ic mj na pa : Nat} {mi ru wa k1 k2 k3 k4 k5 k6 k7 : Int32} (h_o : M.1 o = some (ob 2 [.ref c, .ref b, .ref q, .ref vd, .ref ac])) (h_c : M.1 c = some (ob 3 [.ref b, .ref q, .int mi, .int (nI mj), .int (nI fa), .int (nI ic), .ref fr, .ref mr, .int (nI na), .int (nI pa), .int k1, .int k2, .int k3, .int k4, .int k5, .int k6, .int k7])) (h_b : M.1 b = some (ob 1 [.ref da])) (h_da : M.1 da = some (ar .byte n f)) (h_vd : M.1 vd = some (ob 10 [.int ru, .int wa])) (hn : n ≤ 65540) (hmj : mj < 65536) (hfa : fa + 8 ≤ n) (hV : PV g f n N E q M) : pt (mT g) 60 [.ref o] M (fun v M' => ((hdS f n E fa = none) ∧ v = some (.int 1) ∧ M'.1 vd = some (ob 10 [.int ru, .int wa]) ∧ fm [vd] M M') ∨ (∃ (e : Nat × Nat), (hdS f n E fa = some e) ∧ v = some (.int 0) ∧ M'.1 vd = some (ob 10 [.int (nI e.1), .int (nI e.2)]) ∧ fm [vd] M M')) := by
  refine pt_in (b := mb_60 g) rfl (fun kf => ?_)
  show pl (mT g) kf (mb_60 g).2 (0, [(0, .ref o)], [], M) _
  have hF : fm [vd] M M := fm.rf
  refine ps_st (S' := (1, [(0, .ref o)], [.ref o], M)) rfl rfl rfl ?_
  refine ps_get (S' := (4, [(0, .ref o)], [.ref c], M)) rfl h_o rfl rfl ?_
  refine ps_get (S' := (7, [(0, .ref o)], [.int (nI fa)], M)) rfl h_c rfl rfl ?_
  refine ps_st (S' := (8, [(1, .int (nI fa)), (0, .ref o)], [], M)) rfl rfl rfl ?_
  refine ps_st (S' := (9, [(1, .int (nI fa)), (0, .ref o)], [.ref o], M)) rfl rfl rfl ?_
  refine ps_get (S' := (12, [(1, .int (nI fa)), (0, .ref o)], [.ref b], M)) rfl h_o rfl rfl ?_
  refine ps_st (S' := (13, [(1, .int (nI fa)), (0, .ref o)], [.int (nI fa), .ref b], M)) rfl rfl rfl ?_
  refine pl_call (a := [.ref b, .int (nI fa)]) (rest := []) rfl rfl rfl (dk_u2 (f := f) (n := n) (b := b) (da := da) (p := fa) h_b h_da (hn) (by omega)) (fun v1 M2 q3 => ?_)
  obtain ⟨rfl, rfl⟩ := q3
  show pl _ _ _ (16, [(1, .int (nI fa)), (0, .ref o)], [.int (nI (by2 f fa))], M) _
  have hu_13 := by2_lt f fa
  refine pl_call (a := [.int (nI (by2 f fa))]) (rest := []) rfl rfl rfl (dk_classFlagsHold (x := (by2 f fa)) (by2_lt _ _)) (fun v4 M5 q6 => ?_)
  obtain ⟨rfl, rfl⟩ := q6
  show pl _ _ _ (19, [(1, .int (nI fa)), (0, .ref o)], [.int (nI (cflN (by2 f fa)))], M) _
  refine ps_if (S1 := (33, [(1, .int (nI fa)), (0, .ref o)], [], M)) (S2 := (22, [(1, .int (nI fa)), (0, .ref o)], [], M)) rfl rfl rfl (fun c_19 => ?_) (fun c_19 => ?_)
  · have c_19 : ¬ (nI (cflN (by2 f fa))) = 0 := of_decide_eq_true c_19
    have n_19 : ¬ (cflN (by2 f fa) = 0) := fun h9 => c_19 ((eq_nI (p := cflN (by2 f fa)) (n := 0) (Nat.lt_trans (le1_cfl _) (by decide)) (by decide)).mpr h9)
    refine ps_st (S' := (34, [(1, .int (nI fa)), (0, .ref o)], [.ref o], M)) rfl rfl rfl ?_
    refine ps_get (S' := (37, [(1, .int (nI fa)), (0, .ref o)], [.ref q], M)) rfl h_o rfl rfl ?_
    refine ps_st (S' := (38, [(1, .int (nI fa)), (0, .ref o)], [.ref o, .ref q], M)) rfl rfl rfl ?_
    refine ps_get (S' := (41, [(1, .int (nI fa)), (0, .ref o)], [.ref b, .ref q], M)) rfl h_o rfl rfl ?_
    refine ps_st (S' := (42, [(1, .int (nI fa)), (0, .ref o)], [.int (nI fa), .ref b, .ref q], M)) rfl rfl rfl ?_
    refine ps_st (S' := (43, [(1, .int (nI fa)), (0, .ref o)], [.int 2, .int (nI fa), .ref b, .ref q], M)) rfl rfl rfl ?_
    refine ps_st (S' := (44, [(1, .int (nI fa)), (0, .ref o)], [.int ((nI fa) + 2), .ref b, .ref q], M)) rfl rfl rfl ?_
    rw [nI_add1 (p := fa) (k := 2) (x := 2) rfl (by omega)]
    show pl _ _ _ (_, [(1, .int (nI fa)), (0, .ref o)], [.int (nI (fa + 2)), .ref b, .ref q], M) _
    refine pl_call (a := [.ref b, .int (nI (fa + 2))]) (rest := [.ref q]) rfl rfl rfl (dk_u2 (f := f) (n := n) (b := b) (da := da) (p := (fa + 2)) h_b h_da (hn) (by omega)) (fun v7 M8 q9 => ?_)
    obtain ⟨rfl, rfl⟩ := q9
    show pl _ _ _ (47, [(1, .int (nI fa)), (0, .ref o)], [.int (nI (by2 f (fa + 2))), .ref q], M) _
    have hu_44 := by2_lt f (fa + 2)
    refine pl_call (a := [.ref q, .int (nI (by2 f (fa + 2)))]) (rest := []) rfl rfl rfl (dy_isPlainClass (f := f) (n := n) (N := N) (q := q) (E := E) (j := (by2 f (fa + 2))) (hV) (by2_lt _ _)) (fun v10 M11 q12 => ?_)
    obtain ⟨rfl, rfl⟩ := q12
    show pl _ _ _ (50, [(1, .int (nI fa)), (0, .ref o)], [.int (nI (plnN f n E (by2 f (fa + 2))))], M) _
    refine ps_if (S1 := (66, [(1, .int (nI fa)), (0, .ref o)], [], M)) (S2 := (53, [(1, .int (nI fa)), (0, .ref o)], [], M)) rfl rfl rfl (fun c_50 => ?_) (fun c_50 => ?_)
    · have c_50 : ¬ (nI (plnN f n E (by2 f (fa + 2)))) = 0 := of_decide_eq_true c_50
      have n_50 : ¬ (plnN f n E (by2 f (fa + 2)) = 0) := fun h9 => c_50 ((eq_nI (p := plnN f n E (by2 f (fa + 2))) (n := 0) (Nat.lt_trans (le1_pln _ _ _ _) (by decide)) (by decide)).mpr h9)
      refine ps_st (S' := (67, [(1, .int (nI fa)), (0, .ref o)], [.ref o], M)) rfl rfl rfl ?_
      refine ps_get (S' := (70, [(1, .int (nI fa)), (0, .ref o)], [.ref b], M)) rfl h_o rfl rfl ?_
      refine ps_st (S' := (71, [(1, .int (nI fa)), (0, .ref o)], [.int (nI fa), .ref b], M)) rfl rfl rfl ?_
      refine ps_st (S' := (72, [(1, .int (nI fa)), (0, .ref o)], [.int 4, .int (nI fa), .ref b], M)) rfl rfl rfl ?_
      refine ps_st (S' := (73, [(1, .int (nI fa)), (0, .ref o)], [.int ((nI fa) + 4), .ref b], M)) rfl rfl rfl ?_
      rw [nI_add1 (p := fa) (k := 4) (x := 4) rfl (by omega)]
      show pl _ _ _ (_, [(1, .int (nI fa)), (0, .ref o)], [.int (nI (fa + 4)), .ref b], M) _
      refine pl_call (a := [.ref b, .int (nI (fa + 4))]) (rest := []) rfl rfl rfl (dk_u2 (f := f) (n := n) (b := b) (da := da) (p := (fa + 4)) h_b h_da (hn) (by omega)) (fun v13 M14 q15 => ?_)
      obtain ⟨rfl, rfl⟩ := q15
      show pl _ _ _ (76, [(1, .int (nI fa)), (0, .ref o)], [.int (nI (by2 f (fa + 4)))], M) _
      have hu_73 := by2_lt f (fa + 4)
      refine ps_st (S' := (77, [(2, .int (nI (by2 f (fa + 4)))), (1, .int (nI fa)), (0, .ref o)], [], M)) rfl rfl rfl ?_
      refine ps_st (S' := (78, [(2, .int (nI (by2 f (fa + 4)))), (1, .int (nI fa)), (0, .ref o)], [.ref o], M)) rfl rfl rfl ?_
      refine ps_get (S' := (81, [(2, .int (nI (by2 f (fa + 4)))), (1, .int (nI fa)), (0, .ref o)], [.ref q], M)) rfl h_o rfl rfl ?_
      refine ps_st (S' := (82, [(2, .int (nI (by2 f (fa + 4)))), (1, .int (nI fa)), (0, .ref o)], [.int (nI (by2 f (fa + 4))), .ref q], M)) rfl rfl rfl ?_
      refine pl_call (a := [.ref q, .int (nI (by2 f (fa + 4)))]) (rest := []) rfl rfl rfl (dy_isPlainClass (f := f) (n := n) (N := N) (q := q) (E := E) (j := (by2 f (fa + 4))) (hV) (by2_lt _ _)) (fun v16 M17 q18 => ?_)
      obtain ⟨rfl, rfl⟩ := q18
      show pl _ _ _ (85, [(2, .int (nI (by2 f (fa + 4)))), (1, .int (nI fa)), (0, .ref o)], [.int (nI (plnN f n E (by2 f (fa + 4))))], M) _
      refine ps_if (S1 := (101, [(2, .int (nI (by2 f (fa + 4)))), (1, .int (nI fa)), (0, .ref o)], [], M)) (S2 := (88, [(2, .int (nI (by2 f (fa + 4)))), (1, .int (nI fa)), (0, .ref o)], [], M)) rfl rfl rfl (fun c_85 => ?_) (fun c_85 => ?_)
      · have c_85 : ¬ (nI (plnN f n E (by2 f (fa + 4)))) = 0 := of_decide_eq_true c_85
        have n_85 : ¬ (plnN f n E (by2 f (fa + 4)) = 0) := fun h9 => c_85 ((eq_nI (p := plnN f n E (by2 f (fa + 4))) (n := 0) (Nat.lt_trans (le1_pln _ _ _ _) (by decide)) (by decide)).mpr h9)
        refine ps_st (S' := (102, [(2, .int (nI (by2 f (fa + 4)))), (1, .int (nI fa)), (0, .ref o)], [.ref o], M)) rfl rfl rfl ?_
        refine ps_get (S' := (105, [(2, .int (nI (by2 f (fa + 4)))), (1, .int (nI fa)), (0, .ref o)], [.ref c], M)) rfl h_o rfl rfl ?_
        refine ps_st (S' := (108, [(2, .int (nI (by2 f (fa + 4)))), (1, .int (nI fa)), (0, .ref o)], [.int 512, .ref c], M)) rfl rfl rfl ?_
        refine pl_call (a := [.ref c, .int 512]) (rest := []) rfl rfl rfl (dk_fhas (f := f) (n := n) (q := q) (c := c) (b := b) (da := da) (fr := fr) (mr := mr) (fa := fa) (ic := ic) (mj := mj) (na := na) (pa := pa) (mi := mi) (k1 := k1) (k2 := k2) (k3 := k3) (k4 := k4) (k5 := k5) (k6 := k6) (k7 := k7) (x := 512) h_c h_b h_da (hn) (hfa)) (fun v19 M20 q21 => ?_)
        obtain ⟨rfl, rfl⟩ := q21
        show pl _ _ _ (111, [(2, .int (nI (by2 f (fa + 4)))), (1, .int (nI fa)), (0, .ref o)], [.int (nI (hasN (by2 f fa) 512))], M) _
        refine ps_if (S1 := (147, [], [], M)) (S2 := (114, [(2, .int (nI (by2 f (fa + 4)))), (1, .int (nI fa)), (0, .ref o)], [], M)) rfl rfl rfl (fun c_111 => ?_) (fun c_111 => ?_)
        · have c_111 : (nI (hasN (by2 f fa) 512)) = 0 := of_decide_eq_true c_111
          have n_111 : hasN (by2 f fa) 512 = 0 := (eq_nI (p := hasN (by2 f fa) 512) (n := 0) (Nat.lt_trans (le1_has _ _) (by decide)) (by decide)).mp c_111
          refine ps_st (S' := (148, [], [.int 1], M)) rfl rfl rfl ?_
          exact ps_ret rfl rfl (Or.inl ⟨by
              unfold hdS
              first | ((repeat first | rw [if_pos (by omega)] | rw [if_neg (by omega)]) <;> first | rfl | omega) | ((repeat' split) <;> first | rfl | (exfalso; omega) | omega), rfl, h_vd, hF⟩)
        · have c_111 : ¬ ((nI (hasN (by2 f fa) 512)) = 0) := of_decide_eq_false c_111
          have n_111 : ¬ (hasN (by2 f fa) 512 = 0) := fun h9 => c_111 ((eq_nI (p := hasN (by2 f fa) 512) (n := 0) (Nat.lt_trans (le1_has _ _) (by decide)) (by decide)).mpr h9)
          refine ps_st (S' := (115, [(2, .int (nI (by2 f (fa + 4)))), (1, .int (nI fa)), (0, .ref o)], [.ref o], M)) rfl rfl rfl ?_
          refine ps_get (S' := (118, [(2, .int (nI (by2 f (fa + 4)))), (1, .int (nI fa)), (0, .ref o)], [.ref q], M)) rfl h_o rfl rfl ?_
          refine ps_st (S' := (119, [(2, .int (nI (by2 f (fa + 4)))), (1, .int (nI fa)), (0, .ref o)], [.ref o, .ref q], M)) rfl rfl rfl ?_
          refine ps_get (S' := (122, [(2, .int (nI (by2 f (fa + 4)))), (1, .int (nI fa)), (0, .ref o)], [.ref q, .ref q], M)) rfl h_o rfl rfl ?_
          refine ps_st (S' := (123, [(2, .int (nI (by2 f (fa + 4)))), (1, .int (nI fa)), (0, .ref o)], [.int (nI (by2 f (fa + 4))), .ref q, .ref q], M)) rfl rfl rfl ?_
          refine pl_call (a := [.ref q, .int (nI (by2 f (fa + 4)))]) (rest := [.ref q]) rfl rfl rfl (dy_firstIndex (f := f) (n := n) (N := N) (q := q) (E := E) (j := (by2 f (fa + 4))) (hV) (by2_lt _ _)) (fun v22 M23 q24 => ?_)
          obtain ⟨rfl, rfl⟩ := q24
          show pl _ _ _ (126, [(2, .int (nI (by2 f (fa + 4)))), (1, .int (nI fa)), (0, .ref o)], [.int (nI (fi f E (by2 f (fa + 4)))), .ref q], M) _
          refine ps_st (S' := (128, [(2, .int (nI (by2 f (fa + 4)))), (1, .int (nI fa)), (0, .ref o)], [.ref (g.2.1 11), .int (nI (fi f E (by2 f (fa + 4)))), .ref q], M)) rfl rfl rfl ?_
          refine pl_call (a := [.ref q, .int (nI (fi f E (by2 f (fa + 4)))), .ref (g.2.1 11)]) (rest := []) rfl rfl rfl (dy_textIs (f := f) (n := n) (N := N) (q := q) (E := E) (j := (fi f E (by2 f (fa + 4)))) (k := 11) (hV) (fi_lt _ _ _) (by decide)) (fun v25 M26 q27 => ?_)
          obtain ⟨rfl, rfl⟩ := q27
          show pl _ _ _ (131, [(2, .int (nI (by2 f (fa + 4)))), (1, .int (nI fa)), (0, .ref o)], [.int (nI (eqN (tX f n E (fi f E (by2 f (fa + 4)))) (ltx 11)))], M) _
          refine ps_if (S1 := (147, [], [], M)) (S2 := (134, [(2, .int (nI (by2 f (fa + 4)))), (1, .int (nI fa)), (0, .ref o)], [], M)) rfl rfl rfl (fun c_131 => ?_) (fun c_131 => ?_)
          · have c_131 : ¬ (nI (eqN (tX f n E (fi f E (by2 f (fa + 4)))) (ltx 11))) = 0 := of_decide_eq_true c_131
            have n_131 : ¬ (eqN (tX f n E (fi f E (by2 f (fa + 4)))) (ltx 11) = 0) := fun h9 => c_131 ((eq_nI (p := eqN (tX f n E (fi f E (by2 f (fa + 4)))) (ltx 11)) (n := 0) (Nat.lt_trans (le1_eq _ _) (by decide)) (by decide)).mpr h9)
            refine ps_st (S' := (148, [], [.int 1], M)) rfl rfl rfl ?_
            exact ps_ret rfl rfl (Or.inl ⟨by
                unfold hdS
                first | ((repeat first | rw [if_pos (by omega)] | rw [if_neg (by omega)]) <;> first | rfl | omega) | ((repeat' split) <;> first | rfl | (exfalso; omega) | omega), rfl, h_vd, hF⟩)
          · have c_131 : ¬ (¬ (nI (eqN (tX f n E (fi f E (by2 f (fa + 4)))) (ltx 11))) = 0) := of_decide_eq_false c_131
            have n_131 : eqN (tX f n E (fi f E (by2 f (fa + 4)))) (ltx 11) = 0 := (eq_nI (p := eqN (tX f n E (fi f E (by2 f (fa + 4)))) (ltx 11)) (n := 0) (Nat.lt_trans (le1_eq _ _) (by decide)) (by decide)).mp (Decidable.not_not.mp c_131)
            refine ps_st (S' := (135, [(2, .int (nI (by2 f (fa + 4)))), (1, .int (nI fa)), (0, .ref o)], [.ref o], M)) rfl rfl rfl ?_
            refine ps_get (S' := (138, [(2, .int (nI (by2 f (fa + 4)))), (1, .int (nI fa)), (0, .ref o)], [.ref vd], M)) rfl h_o rfl rfl ?_
            refine ps_st (S' := (140, [(2, .int (nI (by2 f (fa + 4)))), (1, .int (nI fa)), (0, .ref o)], [.int 17, .ref vd], M)) rfl rfl rfl ?_
            refine ps_st (S' := (141, [(2, .int (nI (by2 f (fa + 4)))), (1, .int (nI fa)), (0, .ref o)], [.int (nI fa), .int 17, .ref vd], M)) rfl rfl rfl ?_
            refine ps_st (S' := (142, [(2, .int (nI (by2 f (fa + 4)))), (1, .int (nI fa)), (0, .ref o)], [.int 4, .int (nI fa), .int 17, .ref vd], M)) rfl rfl rfl ?_
            refine ps_st (S' := (143, [(2, .int (nI (by2 f (fa + 4)))), (1, .int (nI fa)), (0, .ref o)], [.int ((nI fa) + 4), .int 17, .ref vd], M)) rfl rfl rfl ?_
            rw [nI_add1 (p := fa) (k := 4) (x := 4) rfl (by omega)]
            show pl _ _ _ (_, [(2, .int (nI (by2 f (fa + 4)))), (1, .int (nI fa)), (0, .ref o)], [.int (nI (fa + 4)), .int 17, .ref vd], M) _
            refine pl_call (a := [.ref vd, .int 17, .int (nI (fa + 4))]) (rest := []) rfl rfl rfl (dk_wrong (vd := vd) (ru := ru) (wa := wa) (x1 := 17) (x2 := (nI (fa + 4))) h_vd) (fun v28 M29 q30 => ?_)
            obtain ⟨rfl, h31, f32⟩ := q30
            have h34 := (f32.1 o (nin1 (ob_ne h_o h_vd (by decide)))).trans h_o
            have h35 := (f32.1 c (nin1 (ob_ne h_c h_vd (by decide)))).trans h_c
            have h36 := (f32.1 b (nin1 (ob_ne h_b h_vd (by decide)))).trans h_b
            have h37 := (f32.1 da (nin1 (Ne.symm (ob_ar h_vd h_da)))).trans h_da
            have hF38 := hF.tr f32 (by simp)
            have hV39 := hV.keep f32.gm (n7c h_vd (by decide) (n7nil))
            show pl _ _ _ (146, [(2, .int (nI (by2 f (fa + 4)))), (1, .int (nI fa)), (0, .ref o)], [.int 0], M29) _
            exact ps_ret rfl rfl (Or.inr ⟨(17, fa + 4), by
                unfold hdS
                first | ((repeat first | rw [if_pos (by omega)] | rw [if_neg (by omega)]) <;> first | rfl | omega) | ((repeat' split) <;> first | rfl | (exfalso; omega) | omega), rfl, h31, hF38⟩)
      · have c_85 : ¬ (¬ (nI (plnN f n E (by2 f (fa + 4)))) = 0) := of_decide_eq_false c_85
        have n_85 : plnN f n E (by2 f (fa + 4)) = 0 := (eq_nI (p := plnN f n E (by2 f (fa + 4))) (n := 0) (Nat.lt_trans (le1_pln _ _ _ _) (by decide)) (by decide)).mp (Decidable.not_not.mp c_85)
        refine ps_st (S' := (89, [(2, .int (nI (by2 f (fa + 4)))), (1, .int (nI fa)), (0, .ref o)], [.ref o], M)) rfl rfl rfl ?_
        refine ps_get (S' := (92, [(2, .int (nI (by2 f (fa + 4)))), (1, .int (nI fa)), (0, .ref o)], [.ref vd], M)) rfl h_o rfl rfl ?_
        refine ps_st (S' := (94, [(2, .int (nI (by2 f (fa + 4)))), (1, .int (nI fa)), (0, .ref o)], [.int 17, .ref vd], M)) rfl rfl rfl ?_
        refine ps_st (S' := (95, [(2, .int (nI (by2 f (fa + 4)))), (1, .int (nI fa)), (0, .ref o)], [.int (nI fa), .int 17, .ref vd], M)) rfl rfl rfl ?_
        refine ps_st (S' := (96, [(2, .int (nI (by2 f (fa + 4)))), (1, .int (nI fa)), (0, .ref o)], [.int 4, .int (nI fa), .int 17, .ref vd], M)) rfl rfl rfl ?_
        refine ps_st (S' := (97, [(2, .int (nI (by2 f (fa + 4)))), (1, .int (nI fa)), (0, .ref o)], [.int ((nI fa) + 4), .int 17, .ref vd], M)) rfl rfl rfl ?_
        rw [nI_add1 (p := fa) (k := 4) (x := 4) rfl (by omega)]
        show pl _ _ _ (_, [(2, .int (nI (by2 f (fa + 4)))), (1, .int (nI fa)), (0, .ref o)], [.int (nI (fa + 4)), .int 17, .ref vd], M) _
        refine pl_call (a := [.ref vd, .int 17, .int (nI (fa + 4))]) (rest := []) rfl rfl rfl (dk_wrong (vd := vd) (ru := ru) (wa := wa) (x1 := 17) (x2 := (nI (fa + 4))) h_vd) (fun v40 M41 q42 => ?_)
        obtain ⟨rfl, h43, f44⟩ := q42
        have h46 := (f44.1 o (nin1 (ob_ne h_o h_vd (by decide)))).trans h_o
        have h47 := (f44.1 c (nin1 (ob_ne h_c h_vd (by decide)))).trans h_c
        have h48 := (f44.1 b (nin1 (ob_ne h_b h_vd (by decide)))).trans h_b
        have h49 := (f44.1 da (nin1 (Ne.symm (ob_ar h_vd h_da)))).trans h_da
        have hF50 := hF.tr f44 (by simp)
        have hV51 := hV.keep f44.gm (n7c h_vd (by decide) (n7nil))
        show pl _ _ _ (100, [(2, .int (nI (by2 f (fa + 4)))), (1, .int (nI fa)), (0, .ref o)], [.int 0], M41) _
        exact ps_ret rfl rfl (Or.inr ⟨(17, fa + 4), by
            unfold hdS
            first | ((repeat first | rw [if_pos (by omega)] | rw [if_neg (by omega)]) <;> first | rfl | omega) | ((repeat' split) <;> first | rfl | (exfalso; omega) | omega), rfl, h43, hF50⟩)
    · have c_50 : ¬ (¬ (nI (plnN f n E (by2 f (fa + 2)))) = 0) := of_decide_eq_false c_50
      have n_50 : plnN f n E (by2 f (fa + 2)) = 0 := (eq_nI (p := plnN f n E (by2 f (fa + 2))) (n := 0) (Nat.lt_trans (le1_pln _ _ _ _) (by decide)) (by decide)).mp (Decidable.not_not.mp c_50)
      refine ps_st (S' := (54, [(1, .int (nI fa)), (0, .ref o)], [.ref o], M)) rfl rfl rfl ?_
      refine ps_get (S' := (57, [(1, .int (nI fa)), (0, .ref o)], [.ref vd], M)) rfl h_o rfl rfl ?_
      refine ps_st (S' := (59, [(1, .int (nI fa)), (0, .ref o)], [.int 16, .ref vd], M)) rfl rfl rfl ?_
      refine ps_st (S' := (60, [(1, .int (nI fa)), (0, .ref o)], [.int (nI fa), .int 16, .ref vd], M)) rfl rfl rfl ?_
      refine ps_st (S' := (61, [(1, .int (nI fa)), (0, .ref o)], [.int 2, .int (nI fa), .int 16, .ref vd], M)) rfl rfl rfl ?_
      refine ps_st (S' := (62, [(1, .int (nI fa)), (0, .ref o)], [.int ((nI fa) + 2), .int 16, .ref vd], M)) rfl rfl rfl ?_
      rw [nI_add1 (p := fa) (k := 2) (x := 2) rfl (by omega)]
      show pl _ _ _ (_, [(1, .int (nI fa)), (0, .ref o)], [.int (nI (fa + 2)), .int 16, .ref vd], M) _
      refine pl_call (a := [.ref vd, .int 16, .int (nI (fa + 2))]) (rest := []) rfl rfl rfl (dk_wrong (vd := vd) (ru := ru) (wa := wa) (x1 := 16) (x2 := (nI (fa + 2))) h_vd) (fun v52 M53 q54 => ?_)
      obtain ⟨rfl, h55, f56⟩ := q54
      have h58 := (f56.1 o (nin1 (ob_ne h_o h_vd (by decide)))).trans h_o
      have h59 := (f56.1 c (nin1 (ob_ne h_c h_vd (by decide)))).trans h_c
      have h60 := (f56.1 b (nin1 (ob_ne h_b h_vd (by decide)))).trans h_b
      have h61 := (f56.1 da (nin1 (Ne.symm (ob_ar h_vd h_da)))).trans h_da
      have hF62 := hF.tr f56 (by simp)
      have hV63 := hV.keep f56.gm (n7c h_vd (by decide) (n7nil))
      show pl _ _ _ (65, [(1, .int (nI fa)), (0, .ref o)], [.int 0], M53) _
      exact ps_ret rfl rfl (Or.inr ⟨(16, fa + 2), by
          unfold hdS
          first | ((repeat first | rw [if_pos (by omega)] | rw [if_neg (by omega)]) <;> first | rfl | omega) | ((repeat' split) <;> first | rfl | (exfalso; omega) | omega), rfl, h55, hF62⟩)
  · have c_19 : ¬ (¬ (nI (cflN (by2 f fa))) = 0) := of_decide_eq_false c_19
    have n_19 : cflN (by2 f fa) = 0 := (eq_nI (p := cflN (by2 f fa)) (n := 0) (Nat.lt_trans (le1_cfl _) (by decide)) (by decide)).mp (Decidable.not_not.mp c_19)
    refine ps_st (S' := (23, [(1, .int (nI fa)), (0, .ref o)], [.ref o], M)) rfl rfl rfl ?_
    refine ps_get (S' := (26, [(1, .int (nI fa)), (0, .ref o)], [.ref vd], M)) rfl h_o rfl rfl ?_
    refine ps_st (S' := (28, [(1, .int (nI fa)), (0, .ref o)], [.int 15, .ref vd], M)) rfl rfl rfl ?_
    refine ps_st (S' := (29, [(1, .int (nI fa)), (0, .ref o)], [.int (nI fa), .int 15, .ref vd], M)) rfl rfl rfl ?_
    refine pl_call (a := [.ref vd, .int 15, .int (nI fa)]) (rest := []) rfl rfl rfl (dk_wrong (vd := vd) (ru := ru) (wa := wa) (x1 := 15) (x2 := (nI fa)) h_vd) (fun v64 M65 q66 => ?_)
    obtain ⟨rfl, h67, f68⟩ := q66
    have h70 := (f68.1 o (nin1 (ob_ne h_o h_vd (by decide)))).trans h_o
    have h71 := (f68.1 c (nin1 (ob_ne h_c h_vd (by decide)))).trans h_c
    have h72 := (f68.1 b (nin1 (ob_ne h_b h_vd (by decide)))).trans h_b
    have h73 := (f68.1 da (nin1 (Ne.symm (ob_ar h_vd h_da)))).trans h_da
    have hF74 := hF.tr f68 (by simp)
    have hV75 := hV.keep f68.gm (n7c h_vd (by decide) (n7nil))
    show pl _ _ _ (32, [(1, .int (nI fa)), (0, .ref o)], [.int 0], M65) _
    exact ps_ret rfl rfl (Or.inr ⟨(15, fa), by
        unfold hdS
        first | ((repeat first | rw [if_pos (by omega)] | rw [if_neg (by omega)]) <;> first | rfl | omega) | ((repeat' split) <;> first | rfl | (exfalso; omega) | omega), rfl, h67, hF74⟩)
set_option maxHeartbeats 1000000 in
theorem dk_interfacesHold {g : xe_G} {M : mi_H} {f : Nat → Int32} {n N q : Nat} {E : List (Nat × Nat)} {o c b da vd ac fr mr fa ic mj na pa : Nat} {mi ru wa k1 k2 k3 k4 k5 k6 k7 : Int32} (h_o : M.1 o = some (ob 2 [.ref c, .ref b, .ref q, .ref vd, .ref ac])) (h_c : M.1 c = some (ob 3 [.ref b, .ref q, .int mi, .int (nI mj), .int (nI fa), .int (nI ic), .ref fr, .ref mr, .int (nI na), .int (nI pa), .int k1, .int k2, .int k3, .int k4, .int k5, .int k6, .int k7])) (h_b : M.1 b = some (ob 1 [.ref da])) (h_da : M.1 da = some (ar .byte n f)) (h_vd : M.1 vd = some (ob 10 [.int ru, .int wa])) (hn : n ≤ 65540) (hmj : mj < 65536) (hfa : fa + 8 ≤ n) (hic : fa + 8 + 2 * ic ≤ n) (hV : PV g f n N E q M) : pt (mT g) 62 [.ref o] M (fun v M' => ((ifS f n E (fa + 8) ic 0 = none) ∧ v = some (.int 1) ∧ M'.1 vd = some (ob 10 [.int ru, .int wa]) ∧ fm [vd] M M') ∨ (∃ (e : Nat × Nat), (ifS f n E (fa + 8) ic 0 = some e) ∧ v = some (.int 0) ∧ M'.1 vd = some (ob 10 [.int (nI e.1), .int (nI e.2)]) ∧ fm [vd] M M')) := by
  refine pt_in (b := mb_62 g) rfl (fun kf => ?_)
  show pl (mT g) kf (mb_62 g).2 (0, [(0, .ref o)], [], M) _
  have hF : fm [vd] M M := fm.rf
  have LL : ∀ (kf : Nat), (∀ (i : Nat) (M1 : mi_H), (M1.1 o = some (ob 2 [.ref c, .ref b, .ref q, .ref vd, .ref ac])) → (M1.1 c = some (ob 3 [.ref b, .ref q, .int mi, .int (nI mj), .int (nI fa), .int (nI ic), .ref fr, .ref mr, .int (nI na), .int (nI pa), .int k1, .int k2, .int k3, .int k4, .int k5, .int k6, .int k7])) → (M1.1 b = some (ob 1 [.ref da])) → (M1.1 da = some (ar .byte n f)) → (M1.1 vd = some (ob 10 [.int ru, .int wa])) → (PV g f n N E q M1) → (fm [vd] M M1) → (i ≤ ic) → (ifS f n E (fa + 8) (ic - i) i = ifS f n E (fa + 8) ic 0) →  pl (mT g) kf (mb_62 g).2 (13, [(0, .ref o), (1, .int (nI (fa + 8))), (2, .int (nI i))], [], M1) (fun v M' => ((ifS f n E (fa + 8) ic 0 = none) ∧ v = some (.int 1) ∧ M'.1 vd = some (ob 10 [.int ru, .int wa]) ∧ fm [vd] M M') ∨ (∃ (e : Nat × Nat), (ifS f n E (fa + 8) ic 0 = some e) ∧ v = some (.int 0) ∧ M'.1 vd = some (ob 10 [.int (nI e.1), .int (nI e.2)]) ∧ fm [vd] M M'))) ∧ (∀ (i j : Nat) (M1 : mi_H), (M1.1 o = some (ob 2 [.ref c, .ref b, .ref q, .ref vd, .ref ac])) → (M1.1 c = some (ob 3 [.ref b, .ref q, .int mi, .int (nI mj), .int (nI fa), .int (nI ic), .ref fr, .ref mr, .int (nI na), .int (nI pa), .int k1, .int k2, .int k3, .int k4, .int k5, .int k6, .int k7])) → (M1.1 b = some (ob 1 [.ref da])) → (M1.1 da = some (ar .byte n f)) → (M1.1 vd = some (ob 10 [.int ru, .int wa])) → (PV g f n N E q M1) → (fm [vd] M M1) → (i < ic) → (j ≤ i) → (ifS f n E (fa + 8) (ic - i) i = ifS f n E (fa + 8) ic 0) → (¬ plnN f n E (by2 f (fa + 8 + 2 * i)) = 0) → (dupN f n E (fa + 8) (by2 f (fa + 8 + 2 * i)) (i - j) j = dupN f n E (fa + 8) (by2 f (fa + 8 + 2 * i)) i 0) →  pl (mT g) kf (mb_62 g).2 (66, [(0, .ref o), (1, .int (nI (fa + 8))), (2, .int (nI i)), (3, .int (nI (by2 f (fa + 8 + 2 * i)))), (4, .int (nI j))], [], M1) (fun v M' => ((ifS f n E (fa + 8) ic 0 = none) ∧ v = some (.int 1) ∧ M'.1 vd = some (ob 10 [.int ru, .int wa]) ∧ fm [vd] M M') ∨ (∃ (e : Nat × Nat), (ifS f n E (fa + 8) ic 0 = some e) ∧ v = some (.int 0) ∧ M'.1 vd = some (ob 10 [.int (nI e.1), .int (nI e.2)]) ∧ fm [vd] M M'))) := by
    intro kf
    induction kf with
    | zero => exact ⟨by intros; exact pl_0, by intros; exact pl_0⟩
    | succ kf ih =>
      refine ⟨?_, ?_⟩
      · skip
        intro i M1 hl_o hl_c hl_b hl_da hl_vd hV1 hF1 hi hs
        refine ps_st1 (S' := (14, [(0, .ref o), (1, .int (nI (fa + 8))), (2, .int (nI i))], [.int (nI i)], M1)) rfl rfl rfl ?_
        refine ps_st (S' := (15, [(0, .ref o), (1, .int (nI (fa + 8))), (2, .int (nI i))], [.ref o, .int (nI i)], M1)) rfl rfl rfl ?_
        refine ps_get (S' := (18, [(0, .ref o), (1, .int (nI (fa + 8))), (2, .int (nI i))], [.ref c, .int (nI i)], M1)) rfl hl_o rfl rfl ?_
        refine ps_get (S' := (21, [(0, .ref o), (1, .int (nI (fa + 8))), (2, .int (nI i))], [.int (nI ic), .int (nI i)], M1)) rfl hl_c rfl rfl ?_
        refine ps_if2 (S1 := (141, [(0, .ref o), (1, .int (nI (fa + 8))), (2, .int (nI i))], [], M1)) (S2 := (24, [(0, .ref o), (1, .int (nI (fa + 8))), (2, .int (nI i))], [], M1)) rfl rfl rfl (fun c_21 => ?_) (fun c_21 => ?_)
        · have c_21 : (nI ic) ≤ (nI i) := of_decide_eq_true c_21
          have n_21 : ic ≤ i := (le_nI (p := ic) (n := i) (by omega) (by omega)).mp c_21
          refine ps_st (S' := (142, [(0, .ref o), (1, .int (nI (fa + 8))), (2, .int (nI i))], [.int 1], M1)) rfl rfl rfl ?_
          exact ps_ret rfl rfl (Or.inl ⟨by rw [← hs, show ic - i = 0 by omega]; rfl, rfl, hl_vd, hF1⟩)
        · have c_21 : ¬ ((nI ic) ≤ (nI i)) := of_decide_eq_false c_21
          have n_21 : ¬ (ic ≤ i) := fun h9 => c_21 ((le_nI (p := ic) (n := i) (by omega) (by omega)).mpr h9)
          refine ps_st (S' := (25, [(0, .ref o), (1, .int (nI (fa + 8))), (2, .int (nI i))], [.ref o], M1)) rfl rfl rfl ?_
          refine ps_get (S' := (28, [(0, .ref o), (1, .int (nI (fa + 8))), (2, .int (nI i))], [.ref b], M1)) rfl hl_o rfl rfl ?_
          refine ps_st (S' := (29, [(0, .ref o), (1, .int (nI (fa + 8))), (2, .int (nI i))], [.int (nI (fa + 8)), .ref b], M1)) rfl rfl rfl ?_
          refine ps_st (S' := (30, [(0, .ref o), (1, .int (nI (fa + 8))), (2, .int (nI i))], [.int 2, .int (nI (fa + 8)), .ref b], M1)) rfl rfl rfl ?_
          refine ps_st (S' := (31, [(0, .ref o), (1, .int (nI (fa + 8))), (2, .int (nI i))], [.int (nI i), .int 2, .int (nI (fa + 8)), .ref b], M1)) rfl rfl rfl ?_
          refine ps_st (S' := (32, [(0, .ref o), (1, .int (nI (fa + 8))), (2, .int (nI i))], [.int (2 * (nI i)), .int (nI (fa + 8)), .ref b], M1)) rfl rfl rfl ?_
          rw [nI_mul1 (p := 2) (k := i) (x := 2) (y := (nI i)) rfl rfl (by omega)]
          show pl _ _ _ (_, [(0, .ref o), (1, .int (nI (fa + 8))), (2, .int (nI i))], [.int (nI (2 * i)), .int (nI (fa + 8)), .ref b], M1) _
          refine ps_st (S' := (33, [(0, .ref o), (1, .int (nI (fa + 8))), (2, .int (nI i))], [.int ((nI (fa + 8)) + (nI (2 * i))), .ref b], M1)) rfl rfl rfl ?_
          rw [nI_add1 (p := fa + 8) (k := 2 * i) (x := (nI (2 * i))) rfl (by omega)]
          show pl _ _ _ (_, [(0, .ref o), (1, .int (nI (fa + 8))), (2, .int (nI i))], [.int (nI (fa + 8 + 2 * i)), .ref b], M1) _
          refine pl_call (a := [.ref b, .int (nI (fa + 8 + 2 * i))]) (rest := []) rfl rfl rfl (dk_u2 (f := f) (n := n) (b := b) (da := da) (p := (fa + 8 + 2 * i)) hl_b hl_da (hn) (by omega)) (fun v1 M2 q3 => ?_)
          obtain ⟨rfl, rfl⟩ := q3
          show pl _ _ _ (36, [(0, .ref o), (1, .int (nI (fa + 8))), (2, .int (nI i))], [.int (nI (by2 f (fa + 8 + 2 * i)))], M1) _
          have hu_33 := by2_lt f (fa + 8 + 2 * i)
          refine ps_st (S' := (37, [(3, .int (nI (by2 f (fa + 8 + 2 * i)))), (0, .ref o), (1, .int (nI (fa + 8))), (2, .int (nI i))], [], M1)) rfl rfl rfl ?_
          refine ps_st (S' := (38, [(3, .int (nI (by2 f (fa + 8 + 2 * i)))), (0, .ref o), (1, .int (nI (fa + 8))), (2, .int (nI i))], [.ref o], M1)) rfl rfl rfl ?_
          refine ps_get (S' := (41, [(3, .int (nI (by2 f (fa + 8 + 2 * i)))), (0, .ref o), (1, .int (nI (fa + 8))), (2, .int (nI i))], [.ref q], M1)) rfl hl_o rfl rfl ?_
          refine ps_st (S' := (42, [(3, .int (nI (by2 f (fa + 8 + 2 * i)))), (0, .ref o), (1, .int (nI (fa + 8))), (2, .int (nI i))], [.int (nI (by2 f (fa + 8 + 2 * i))), .ref q], M1)) rfl rfl rfl ?_
          refine pl_call (a := [.ref q, .int (nI (by2 f (fa + 8 + 2 * i)))]) (rest := []) rfl rfl rfl (dy_isPlainClass (f := f) (n := n) (N := N) (q := q) (E := E) (j := (by2 f (fa + 8 + 2 * i))) (hV1) (by2_lt _ _)) (fun v4 M5 q6 => ?_)
          obtain ⟨rfl, rfl⟩ := q6
          show pl _ _ _ (45, [(3, .int (nI (by2 f (fa + 8 + 2 * i)))), (0, .ref o), (1, .int (nI (fa + 8))), (2, .int (nI i))], [.int (nI (plnN f n E (by2 f (fa + 8 + 2 * i))))], M1) _
          refine ps_if (S1 := (63, [(3, .int (nI (by2 f (fa + 8 + 2 * i)))), (0, .ref o), (1, .int (nI (fa + 8))), (2, .int (nI i))], [], M1)) (S2 := (48, [(3, .int (nI (by2 f (fa + 8 + 2 * i)))), (0, .ref o), (1, .int (nI (fa + 8))), (2, .int (nI i))], [], M1)) rfl rfl rfl (fun c_45 => ?_) (fun c_45 => ?_)
          · have c_45 : ¬ (nI (plnN f n E (by2 f (fa + 8 + 2 * i)))) = 0 := of_decide_eq_true c_45
            have n_45 : ¬ (plnN f n E (by2 f (fa + 8 + 2 * i)) = 0) := fun h9 => c_45 ((eq_nI (p := plnN f n E (by2 f (fa + 8 + 2 * i))) (n := 0) (Nat.lt_trans (le1_pln _ _ _ _) (by decide)) (by decide)).mpr h9)
            refine ps_st (S' := (64, [(3, .int (nI (by2 f (fa + 8 + 2 * i)))), (0, .ref o), (1, .int (nI (fa + 8))), (2, .int (nI i))], [.int 0], M1)) rfl rfl rfl ?_
            refine ps_st (S' := (66, [(0, .ref o), (1, .int (nI (fa + 8))), (2, .int (nI i)), (3, .int (nI (by2 f (fa + 8 + 2 * i)))), (4, .int 0)], [], M1)) rfl rfl rfl ?_
            exact ih.2 (i) (0) M1 hl_o hl_c hl_b hl_da hl_vd hV1 hF1 (by omega) (by omega) (hs) (by omega) (rfl)
          · have c_45 : ¬ (¬ (nI (plnN f n E (by2 f (fa + 8 + 2 * i)))) = 0) := of_decide_eq_false c_45
            have n_45 : plnN f n E (by2 f (fa + 8 + 2 * i)) = 0 := (eq_nI (p := plnN f n E (by2 f (fa + 8 + 2 * i))) (n := 0) (Nat.lt_trans (le1_pln _ _ _ _) (by decide)) (by decide)).mp (Decidable.not_not.mp c_45)
            refine ps_st (S' := (49, [(3, .int (nI (by2 f (fa + 8 + 2 * i)))), (0, .ref o), (1, .int (nI (fa + 8))), (2, .int (nI i))], [.ref o], M1)) rfl rfl rfl ?_
            refine ps_get (S' := (52, [(3, .int (nI (by2 f (fa + 8 + 2 * i)))), (0, .ref o), (1, .int (nI (fa + 8))), (2, .int (nI i))], [.ref vd], M1)) rfl hl_o rfl rfl ?_
            refine ps_st (S' := (54, [(3, .int (nI (by2 f (fa + 8 + 2 * i)))), (0, .ref o), (1, .int (nI (fa + 8))), (2, .int (nI i))], [.int 18, .ref vd], M1)) rfl rfl rfl ?_
            refine ps_st (S' := (55, [(3, .int (nI (by2 f (fa + 8 + 2 * i)))), (0, .ref o), (1, .int (nI (fa + 8))), (2, .int (nI i))], [.int (nI (fa + 8)), .int 18, .ref vd], M1)) rfl rfl rfl ?_
            refine ps_st (S' := (56, [(3, .int (nI (by2 f (fa + 8 + 2 * i)))), (0, .ref o), (1, .int (nI (fa + 8))), (2, .int (nI i))], [.int 2, .int (nI (fa + 8)), .int 18, .ref vd], M1)) rfl rfl rfl ?_
            refine ps_st (S' := (57, [(3, .int (nI (by2 f (fa + 8 + 2 * i)))), (0, .ref o), (1, .int (nI (fa + 8))), (2, .int (nI i))], [.int (nI i), .int 2, .int (nI (fa + 8)), .int 18, .ref vd], M1)) rfl rfl rfl ?_
            refine ps_st (S' := (58, [(3, .int (nI (by2 f (fa + 8 + 2 * i)))), (0, .ref o), (1, .int (nI (fa + 8))), (2, .int (nI i))], [.int (2 * (nI i)), .int (nI (fa + 8)), .int 18, .ref vd], M1)) rfl rfl rfl ?_
            rw [nI_mul1 (p := 2) (k := i) (x := 2) (y := (nI i)) rfl rfl (by omega)]
            show pl _ _ _ (_, [(3, .int (nI (by2 f (fa + 8 + 2 * i)))), (0, .ref o), (1, .int (nI (fa + 8))), (2, .int (nI i))], [.int (nI (2 * i)), .int (nI (fa + 8)), .int 18, .ref vd], M1) _
            refine ps_st (S' := (59, [(3, .int (nI (by2 f (fa + 8 + 2 * i)))), (0, .ref o), (1, .int (nI (fa + 8))), (2, .int (nI i))], [.int ((nI (fa + 8)) + (nI (2 * i))), .int 18, .ref vd], M1)) rfl rfl rfl ?_
            rw [nI_add1 (p := fa + 8) (k := 2 * i) (x := (nI (2 * i))) rfl (by omega)]
            show pl _ _ _ (_, [(3, .int (nI (by2 f (fa + 8 + 2 * i)))), (0, .ref o), (1, .int (nI (fa + 8))), (2, .int (nI i))], [.int (nI (fa + 8 + 2 * i)), .int 18, .ref vd], M1) _
            refine pl_call (a := [.ref vd, .int 18, .int (nI (fa + 8 + 2 * i))]) (rest := []) rfl rfl rfl (dk_wrong (vd := vd) (ru := ru) (wa := wa) (x1 := 18) (x2 := (nI (fa + 8 + 2 * i))) hl_vd) (fun v7 M8 q9 => ?_)
            obtain ⟨rfl, h10, f11⟩ := q9
            have h13 := (f11.1 o (nin1 (ob_ne hl_o hl_vd (by decide)))).trans hl_o
            have h14 := (f11.1 c (nin1 (ob_ne hl_c hl_vd (by decide)))).trans hl_c
            have h15 := (f11.1 b (nin1 (ob_ne hl_b hl_vd (by decide)))).trans hl_b
            have h16 := (f11.1 da (nin1 (Ne.symm (ob_ar hl_vd hl_da)))).trans hl_da
            have hF17 := hF1.tr f11 (by simp)
            have hV18 := hV1.keep f11.gm (n7c hl_vd (by decide) (n7nil))
            show pl _ _ _ (62, [(3, .int (nI (by2 f (fa + 8 + 2 * i)))), (0, .ref o), (1, .int (nI (fa + 8))), (2, .int (nI i))], [.int 0], M8) _
            exact ps_ret rfl rfl (Or.inr ⟨(18, fa + 8 + 2 * i), by
                rw [← hs, ifS_st (i := i) (by omega), if_pos (by omega)], rfl, h10, hF17⟩)
      · skip
        intro i j M1 hl_o hl_c hl_b hl_da hl_vd hV1 hF1 hi hj hs hp hd
        have hu9 := by2_lt f (fa + 8 + 2 * i)
        refine ps_st1 (S' := (68, [(0, .ref o), (1, .int (nI (fa + 8))), (2, .int (nI i)), (3, .int (nI (by2 f (fa + 8 + 2 * i)))), (4, .int (nI j))], [.int (nI j)], M1)) rfl rfl rfl ?_
        refine ps_st (S' := (69, [(0, .ref o), (1, .int (nI (fa + 8))), (2, .int (nI i)), (3, .int (nI (by2 f (fa + 8 + 2 * i)))), (4, .int (nI j))], [.int (nI i), .int (nI j)], M1)) rfl rfl rfl ?_
        refine ps_if2 (S1 := (135, [(0, .ref o), (1, .int (nI (fa + 8))), (2, .int (nI i)), (3, .int (nI (by2 f (fa + 8 + 2 * i)))), (4, .int (nI j))], [], M1)) (S2 := (72, [(0, .ref o), (1, .int (nI (fa + 8))), (2, .int (nI i)), (3, .int (nI (by2 f (fa + 8 + 2 * i)))), (4, .int (nI j))], [], M1)) rfl rfl rfl (fun c_69 => ?_) (fun c_69 => ?_)
        · have c_69 : (nI i) ≤ (nI j) := of_decide_eq_true c_69
          have n_69 : i ≤ j := (le_nI (p := i) (n := j) (by omega) (by omega)).mp c_69
          refine ps_st (S' := (138, [(2, .int ((nI i) + 1)), (0, .ref o), (1, .int (nI (fa + 8))), (3, .int (nI (by2 f (fa + 8 + 2 * i)))), (4, .int (nI j))], [], M1)) rfl rfl rfl ?_
          rw [nI_add1 (p := i) (k := 1) (x := 1) rfl (by omega)]
          show pl _ _ _ (_, [(2, .int (nI (i + 1))), (0, .ref o), (1, .int (nI (fa + 8))), (3, .int (nI (by2 f (fa + 8 + 2 * i)))), (4, .int (nI j))], [], M1) _
          refine ps_st (S' := (13, [(0, .ref o), (1, .int (nI (fa + 8))), (2, .int (nI (i + 1)))], [], M1)) rfl rfl rfl ?_
          exact ih.1 (i + 1) M1 hl_o hl_c hl_b hl_da hl_vd hV1 hF1 (by omega) (by
              rw [← hs, ifS_st (i := i) (by omega), if_neg (by omega), if_neg (by rw [← hd, show i - j = 0 by omega]; exact fun h => h rfl)])
        · have c_69 : ¬ ((nI i) ≤ (nI j)) := of_decide_eq_false c_69
          have n_69 : ¬ (i ≤ j) := fun h9 => c_69 ((le_nI (p := i) (n := j) (by omega) (by omega)).mpr h9)
          refine ps_st (S' := (73, [(0, .ref o), (1, .int (nI (fa + 8))), (2, .int (nI i)), (3, .int (nI (by2 f (fa + 8 + 2 * i)))), (4, .int (nI j))], [.ref o], M1)) rfl rfl rfl ?_
          refine ps_get (S' := (76, [(0, .ref o), (1, .int (nI (fa + 8))), (2, .int (nI i)), (3, .int (nI (by2 f (fa + 8 + 2 * i)))), (4, .int (nI j))], [.ref b], M1)) rfl hl_o rfl rfl ?_
          refine ps_st (S' := (77, [(0, .ref o), (1, .int (nI (fa + 8))), (2, .int (nI i)), (3, .int (nI (by2 f (fa + 8 + 2 * i)))), (4, .int (nI j))], [.int (nI (fa + 8)), .ref b], M1)) rfl rfl rfl ?_
          refine ps_st (S' := (78, [(0, .ref o), (1, .int (nI (fa + 8))), (2, .int (nI i)), (3, .int (nI (by2 f (fa + 8 + 2 * i)))), (4, .int (nI j))], [.int 2, .int (nI (fa + 8)), .ref b], M1)) rfl rfl rfl ?_
          refine ps_st (S' := (80, [(0, .ref o), (1, .int (nI (fa + 8))), (2, .int (nI i)), (3, .int (nI (by2 f (fa + 8 + 2 * i)))), (4, .int (nI j))], [.int (nI j), .int 2, .int (nI (fa + 8)), .ref b], M1)) rfl rfl rfl ?_
          refine ps_st (S' := (81, [(0, .ref o), (1, .int (nI (fa + 8))), (2, .int (nI i)), (3, .int (nI (by2 f (fa + 8 + 2 * i)))), (4, .int (nI j))], [.int (2 * (nI j)), .int (nI (fa + 8)), .ref b], M1)) rfl rfl rfl ?_
          rw [nI_mul1 (p := 2) (k := j) (x := 2) (y := (nI j)) rfl rfl (by omega)]
          show pl _ _ _ (_, [(0, .ref o), (1, .int (nI (fa + 8))), (2, .int (nI i)), (3, .int (nI (by2 f (fa + 8 + 2 * i)))), (4, .int (nI j))], [.int (nI (2 * j)), .int (nI (fa + 8)), .ref b], M1) _
          refine ps_st (S' := (82, [(0, .ref o), (1, .int (nI (fa + 8))), (2, .int (nI i)), (3, .int (nI (by2 f (fa + 8 + 2 * i)))), (4, .int (nI j))], [.int ((nI (fa + 8)) + (nI (2 * j))), .ref b], M1)) rfl rfl rfl ?_
          rw [nI_add1 (p := fa + 8) (k := 2 * j) (x := (nI (2 * j))) rfl (by omega)]
          show pl _ _ _ (_, [(0, .ref o), (1, .int (nI (fa + 8))), (2, .int (nI i)), (3, .int (nI (by2 f (fa + 8 + 2 * i)))), (4, .int (nI j))], [.int (nI (fa + 8 + 2 * j)), .ref b], M1) _
          refine pl_call (a := [.ref b, .int (nI (fa + 8 + 2 * j))]) (rest := []) rfl rfl rfl (dk_u2 (f := f) (n := n) (b := b) (da := da) (p := (fa + 8 + 2 * j)) hl_b hl_da (hn) (by omega)) (fun v19 M20 q21 => ?_)
          obtain ⟨rfl, rfl⟩ := q21
          show pl _ _ _ (85, [(0, .ref o), (1, .int (nI (fa + 8))), (2, .int (nI i)), (3, .int (nI (by2 f (fa + 8 + 2 * i)))), (4, .int (nI j))], [.int (nI (by2 f (fa + 8 + 2 * j)))], M1) _
          have hu_82 := by2_lt f (fa + 8 + 2 * j)
          refine ps_st (S' := (87, [(5, .int (nI (by2 f (fa + 8 + 2 * j)))), (0, .ref o), (1, .int (nI (fa + 8))), (2, .int (nI i)), (3, .int (nI (by2 f (fa + 8 + 2 * i)))), (4, .int (nI j))], [], M1)) rfl rfl rfl ?_
          refine ps_st (S' := (88, [(5, .int (nI (by2 f (fa + 8 + 2 * j)))), (0, .ref o), (1, .int (nI (fa + 8))), (2, .int (nI i)), (3, .int (nI (by2 f (fa + 8 + 2 * i)))), (4, .int (nI j))], [.ref o], M1)) rfl rfl rfl ?_
          refine ps_get (S' := (91, [(5, .int (nI (by2 f (fa + 8 + 2 * j)))), (0, .ref o), (1, .int (nI (fa + 8))), (2, .int (nI i)), (3, .int (nI (by2 f (fa + 8 + 2 * i)))), (4, .int (nI j))], [.ref q], M1)) rfl hl_o rfl rfl ?_
          refine ps_st (S' := (92, [(5, .int (nI (by2 f (fa + 8 + 2 * j)))), (0, .ref o), (1, .int (nI (fa + 8))), (2, .int (nI i)), (3, .int (nI (by2 f (fa + 8 + 2 * i)))), (4, .int (nI j))], [.ref o, .ref q], M1)) rfl rfl rfl ?_
          refine ps_get (S' := (95, [(5, .int (nI (by2 f (fa + 8 + 2 * j)))), (0, .ref o), (1, .int (nI (fa + 8))), (2, .int (nI i)), (3, .int (nI (by2 f (fa + 8 + 2 * i)))), (4, .int (nI j))], [.ref q, .ref q], M1)) rfl hl_o rfl rfl ?_
          refine ps_st (S' := (97, [(5, .int (nI (by2 f (fa + 8 + 2 * j)))), (0, .ref o), (1, .int (nI (fa + 8))), (2, .int (nI i)), (3, .int (nI (by2 f (fa + 8 + 2 * i)))), (4, .int (nI j))], [.int (nI (by2 f (fa + 8 + 2 * j))), .ref q, .ref q], M1)) rfl rfl rfl ?_
          refine pl_call (a := [.ref q, .int (nI (by2 f (fa + 8 + 2 * j)))]) (rest := [.ref q]) rfl rfl rfl (dy_firstIndex (f := f) (n := n) (N := N) (q := q) (E := E) (j := (by2 f (fa + 8 + 2 * j))) (hV1) (by2_lt _ _)) (fun v22 M23 q24 => ?_)
          obtain ⟨rfl, rfl⟩ := q24
          show pl _ _ _ (100, [(5, .int (nI (by2 f (fa + 8 + 2 * j)))), (0, .ref o), (1, .int (nI (fa + 8))), (2, .int (nI i)), (3, .int (nI (by2 f (fa + 8 + 2 * i)))), (4, .int (nI j))], [.int (nI (fi f E (by2 f (fa + 8 + 2 * j)))), .ref q], M1) _
          refine ps_st (S' := (101, [(5, .int (nI (by2 f (fa + 8 + 2 * j)))), (0, .ref o), (1, .int (nI (fa + 8))), (2, .int (nI i)), (3, .int (nI (by2 f (fa + 8 + 2 * i)))), (4, .int (nI j))], [.ref o, .int (nI (fi f E (by2 f (fa + 8 + 2 * j)))), .ref q], M1)) rfl rfl rfl ?_
          refine ps_get (S' := (104, [(5, .int (nI (by2 f (fa + 8 + 2 * j)))), (0, .ref o), (1, .int (nI (fa + 8))), (2, .int (nI i)), (3, .int (nI (by2 f (fa + 8 + 2 * i)))), (4, .int (nI j))], [.ref q, .int (nI (fi f E (by2 f (fa + 8 + 2 * j)))), .ref q], M1)) rfl hl_o rfl rfl ?_
          refine ps_st (S' := (105, [(5, .int (nI (by2 f (fa + 8 + 2 * j)))), (0, .ref o), (1, .int (nI (fa + 8))), (2, .int (nI i)), (3, .int (nI (by2 f (fa + 8 + 2 * i)))), (4, .int (nI j))], [.int (nI (by2 f (fa + 8 + 2 * i))), .ref q, .int (nI (fi f E (by2 f (fa + 8 + 2 * j)))), .ref q], M1)) rfl rfl rfl ?_
          refine pl_call (a := [.ref q, .int (nI (by2 f (fa + 8 + 2 * i)))]) (rest := [.int (nI (fi f E (by2 f (fa + 8 + 2 * j)))), .ref q]) rfl rfl rfl (dy_firstIndex (f := f) (n := n) (N := N) (q := q) (E := E) (j := (by2 f (fa + 8 + 2 * i))) (hV1) (by2_lt _ _)) (fun v25 M26 q27 => ?_)
          obtain ⟨rfl, rfl⟩ := q27
          show pl _ _ _ (108, [(5, .int (nI (by2 f (fa + 8 + 2 * j)))), (0, .ref o), (1, .int (nI (fa + 8))), (2, .int (nI i)), (3, .int (nI (by2 f (fa + 8 + 2 * i)))), (4, .int (nI j))], [.int (nI (fi f E (by2 f (fa + 8 + 2 * i)))), .int (nI (fi f E (by2 f (fa + 8 + 2 * j)))), .ref q], M1) _
          refine pl_call (a := [.ref q, .int (nI (fi f E (by2 f (fa + 8 + 2 * j)))), .int (nI (fi f E (by2 f (fa + 8 + 2 * i))))]) (rest := []) rfl rfl rfl (dy_sameText (f := f) (n := n) (N := N) (q := q) (E := E) (j := (fi f E (by2 f (fa + 8 + 2 * j)))) (k := (fi f E (by2 f (fa + 8 + 2 * i)))) (hV1) (fi_lt _ _ _) (fi_lt _ _ _)) (fun v28 M29 q30 => ?_)
          obtain ⟨rfl, rfl⟩ := q30
          show pl _ _ _ (111, [(5, .int (nI (by2 f (fa + 8 + 2 * j)))), (0, .ref o), (1, .int (nI (fa + 8))), (2, .int (nI i)), (3, .int (nI (by2 f (fa + 8 + 2 * i)))), (4, .int (nI j))], [.int (nI (smN f n E (fi f E (by2 f (fa + 8 + 2 * j))) (fi f E (by2 f (fa + 8 + 2 * i)))))], M1) _
          refine ps_if (S1 := (129, [(5, .int (nI (by2 f (fa + 8 + 2 * j)))), (0, .ref o), (1, .int (nI (fa + 8))), (2, .int (nI i)), (3, .int (nI (by2 f (fa + 8 + 2 * i)))), (4, .int (nI j))], [], M1)) (S2 := (114, [(5, .int (nI (by2 f (fa + 8 + 2 * j)))), (0, .ref o), (1, .int (nI (fa + 8))), (2, .int (nI i)), (3, .int (nI (by2 f (fa + 8 + 2 * i)))), (4, .int (nI j))], [], M1)) rfl rfl rfl (fun c_111 => ?_) (fun c_111 => ?_)
          · have c_111 : (nI (smN f n E (fi f E (by2 f (fa + 8 + 2 * j))) (fi f E (by2 f (fa + 8 + 2 * i))))) = 0 := of_decide_eq_true c_111
            have n_111 : smN f n E (fi f E (by2 f (fa + 8 + 2 * j))) (fi f E (by2 f (fa + 8 + 2 * i))) = 0 := (eq_nI (p := smN f n E (fi f E (by2 f (fa + 8 + 2 * j))) (fi f E (by2 f (fa + 8 + 2 * i)))) (n := 0) (Nat.lt_trans (le1_sm _ _ _ _ _) (by decide)) (by decide)).mp c_111
            refine ps_st (S' := (132, [(4, .int ((nI j) + 1)), (5, .int (nI (by2 f (fa + 8 + 2 * j)))), (0, .ref o), (1, .int (nI (fa + 8))), (2, .int (nI i)), (3, .int (nI (by2 f (fa + 8 + 2 * i))))], [], M1)) rfl rfl rfl ?_
            rw [nI_add1 (p := j) (k := 1) (x := 1) rfl (by omega)]
            show pl _ _ _ (_, [(4, .int (nI (j + 1))), (5, .int (nI (by2 f (fa + 8 + 2 * j)))), (0, .ref o), (1, .int (nI (fa + 8))), (2, .int (nI i)), (3, .int (nI (by2 f (fa + 8 + 2 * i))))], [], M1) _
            refine ps_st (S' := (66, [(0, .ref o), (1, .int (nI (fa + 8))), (2, .int (nI i)), (3, .int (nI (by2 f (fa + 8 + 2 * i)))), (4, .int (nI (j + 1)))], [], M1)) rfl rfl rfl ?_
            exact ih.2 (i) (j + 1) M1 hl_o hl_c hl_b hl_da hl_vd hV1 hF1 (hi) (by omega) (hs) (hp) (by
                rw [← hd, dupN_st (j := j) (by omega), if_pos (by omega)])
          · have c_111 : ¬ ((nI (smN f n E (fi f E (by2 f (fa + 8 + 2 * j))) (fi f E (by2 f (fa + 8 + 2 * i))))) = 0) := of_decide_eq_false c_111
            have n_111 : ¬ (smN f n E (fi f E (by2 f (fa + 8 + 2 * j))) (fi f E (by2 f (fa + 8 + 2 * i))) = 0) := fun h9 => c_111 ((eq_nI (p := smN f n E (fi f E (by2 f (fa + 8 + 2 * j))) (fi f E (by2 f (fa + 8 + 2 * i)))) (n := 0) (Nat.lt_trans (le1_sm _ _ _ _ _) (by decide)) (by decide)).mpr h9)
            refine ps_st (S' := (115, [(5, .int (nI (by2 f (fa + 8 + 2 * j)))), (0, .ref o), (1, .int (nI (fa + 8))), (2, .int (nI i)), (3, .int (nI (by2 f (fa + 8 + 2 * i)))), (4, .int (nI j))], [.ref o], M1)) rfl rfl rfl ?_
            refine ps_get (S' := (118, [(5, .int (nI (by2 f (fa + 8 + 2 * j)))), (0, .ref o), (1, .int (nI (fa + 8))), (2, .int (nI i)), (3, .int (nI (by2 f (fa + 8 + 2 * i)))), (4, .int (nI j))], [.ref vd], M1)) rfl hl_o rfl rfl ?_
            refine ps_st (S' := (120, [(5, .int (nI (by2 f (fa + 8 + 2 * j)))), (0, .ref o), (1, .int (nI (fa + 8))), (2, .int (nI i)), (3, .int (nI (by2 f (fa + 8 + 2 * i)))), (4, .int (nI j))], [.int 18, .ref vd], M1)) rfl rfl rfl ?_
            refine ps_st (S' := (121, [(5, .int (nI (by2 f (fa + 8 + 2 * j)))), (0, .ref o), (1, .int (nI (fa + 8))), (2, .int (nI i)), (3, .int (nI (by2 f (fa + 8 + 2 * i)))), (4, .int (nI j))], [.int (nI (fa + 8)), .int 18, .ref vd], M1)) rfl rfl rfl ?_
            refine ps_st (S' := (122, [(5, .int (nI (by2 f (fa + 8 + 2 * j)))), (0, .ref o), (1, .int (nI (fa + 8))), (2, .int (nI i)), (3, .int (nI (by2 f (fa + 8 + 2 * i)))), (4, .int (nI j))], [.int 2, .int (nI (fa + 8)), .int 18, .ref vd], M1)) rfl rfl rfl ?_
            refine ps_st (S' := (123, [(5, .int (nI (by2 f (fa + 8 + 2 * j)))), (0, .ref o), (1, .int (nI (fa + 8))), (2, .int (nI i)), (3, .int (nI (by2 f (fa + 8 + 2 * i)))), (4, .int (nI j))], [.int (nI i), .int 2, .int (nI (fa + 8)), .int 18, .ref vd], M1)) rfl rfl rfl ?_
            refine ps_st (S' := (124, [(5, .int (nI (by2 f (fa + 8 + 2 * j)))), (0, .ref o), (1, .int (nI (fa + 8))), (2, .int (nI i)), (3, .int (nI (by2 f (fa + 8 + 2 * i)))), (4, .int (nI j))], [.int (2 * (nI i)), .int (nI (fa + 8)), .int 18, .ref vd], M1)) rfl rfl rfl ?_
            rw [nI_mul1 (p := 2) (k := i) (x := 2) (y := (nI i)) rfl rfl (by omega)]
            show pl _ _ _ (_, [(5, .int (nI (by2 f (fa + 8 + 2 * j)))), (0, .ref o), (1, .int (nI (fa + 8))), (2, .int (nI i)), (3, .int (nI (by2 f (fa + 8 + 2 * i)))), (4, .int (nI j))], [.int (nI (2 * i)), .int (nI (fa + 8)), .int 18, .ref vd], M1) _
            refine ps_st (S' := (125, [(5, .int (nI (by2 f (fa + 8 + 2 * j)))), (0, .ref o), (1, .int (nI (fa + 8))), (2, .int (nI i)), (3, .int (nI (by2 f (fa + 8 + 2 * i)))), (4, .int (nI j))], [.int ((nI (fa + 8)) + (nI (2 * i))), .int 18, .ref vd], M1)) rfl rfl rfl ?_
            rw [nI_add1 (p := fa + 8) (k := 2 * i) (x := (nI (2 * i))) rfl (by omega)]
            show pl _ _ _ (_, [(5, .int (nI (by2 f (fa + 8 + 2 * j)))), (0, .ref o), (1, .int (nI (fa + 8))), (2, .int (nI i)), (3, .int (nI (by2 f (fa + 8 + 2 * i)))), (4, .int (nI j))], [.int (nI (fa + 8 + 2 * i)), .int 18, .ref vd], M1) _
            refine pl_call (a := [.ref vd, .int 18, .int (nI (fa + 8 + 2 * i))]) (rest := []) rfl rfl rfl (dk_wrong (vd := vd) (ru := ru) (wa := wa) (x1 := 18) (x2 := (nI (fa + 8 + 2 * i))) hl_vd) (fun v31 M32 q33 => ?_)
            obtain ⟨rfl, h34, f35⟩ := q33
            have h37 := (f35.1 o (nin1 (ob_ne hl_o hl_vd (by decide)))).trans hl_o
            have h38 := (f35.1 c (nin1 (ob_ne hl_c hl_vd (by decide)))).trans hl_c
            have h39 := (f35.1 b (nin1 (ob_ne hl_b hl_vd (by decide)))).trans hl_b
            have h40 := (f35.1 da (nin1 (Ne.symm (ob_ar hl_vd hl_da)))).trans hl_da
            have hF41 := hF1.tr f35 (by simp)
            have hV42 := hV1.keep f35.gm (n7c hl_vd (by decide) (n7nil))
            show pl _ _ _ (128, [(5, .int (nI (by2 f (fa + 8 + 2 * j)))), (0, .ref o), (1, .int (nI (fa + 8))), (2, .int (nI i)), (3, .int (nI (by2 f (fa + 8 + 2 * i)))), (4, .int (nI j))], [.int 0], M32) _
            exact ps_ret rfl rfl (Or.inr ⟨(18, fa + 8 + 2 * i), by
                rw [← hs, ifS_st (i := i) (by omega), if_neg (by omega), if_pos (by rw [← hd, dupN_st (j := j) (by omega), if_neg (by omega)]; decide)], rfl, h34, hF41⟩)
  refine ps_st (S' := (1, [(0, .ref o)], [.ref o], M)) rfl rfl rfl ?_
  refine ps_get (S' := (4, [(0, .ref o)], [.ref c], M)) rfl h_o rfl rfl ?_
  refine ps_get (S' := (7, [(0, .ref o)], [.int (nI fa)], M)) rfl h_c rfl rfl ?_
  refine ps_st (S' := (9, [(0, .ref o)], [.int 8, .int (nI fa)], M)) rfl rfl rfl ?_
  refine ps_st (S' := (10, [(0, .ref o)], [.int ((nI fa) + 8)], M)) rfl rfl rfl ?_
  rw [nI_add1 (p := fa) (k := 8) (x := 8) rfl (by omega)]
  show pl _ _ _ (_, [(0, .ref o)], [.int (nI (fa + 8))], M) _
  refine ps_st (S' := (11, [(1, .int (nI (fa + 8))), (0, .ref o)], [], M)) rfl rfl rfl ?_
  refine ps_st (S' := (12, [(1, .int (nI (fa + 8))), (0, .ref o)], [.int 0], M)) rfl rfl rfl ?_
  refine ps_st (S' := (13, [(0, .ref o), (1, .int (nI (fa + 8))), (2, .int 0)], [], M)) rfl rfl rfl ?_
  exact (LL kf).1 (0) M h_o h_c h_b h_da h_vd hV hF (by omega) (rfl)
set_option maxHeartbeats 1000000 in
theorem dk_fieldFlagsHold {g : xe_G} {M : mi_H} {f : Nat → Int32} {n N q : Nat} {E : List (Nat × Nat)} {o c b da vd ac fr mr fa ic mj na pa : Nat} {mi ru wa k1 k2 k3 k4 k5 k6 k7 : Int32} {x : Nat} (h_o : M.1 o = some (ob 2 [.ref c, .ref b, .ref q, .ref vd, .ref ac])) (h_c : M.1 c = some (ob 3 [.ref b, .ref q, .int mi, .int (nI mj), .int (nI fa), .int (nI ic), .ref fr, .ref mr, .int (nI na), .int (nI pa), .int k1, .int k2, .int k3, .int k4, .int k5, .int k6, .int k7])) (h_b : M.1 b = some (ob 1 [.ref da])) (h_da : M.1 da = some (ar .byte n f)) (hn : n ≤ 65540) (hmj : mj < 65536) (hfa : fa + 8 ≤ n) (hx : x < 65536) : pt (mT g) 55 [.ref o, .int (nI x)] M (fun v M' => (v = some (.int (nI (fflN (by2 f fa) x))) ∧ M = M')) := by
  refine pt_in (b := mb_55 g) rfl (fun kf => ?_)
  show pl (mT g) kf (mb_55 g).2 (0, [(0, .ref o), (1, .int (nI x))], [], M) _
  have ha_x : ∀ m, aN x m < 65536 := fun m => Nat.lt_of_le_of_lt Nat.and_le_left hx
  refine ps_st (S' := (1, [(0, .ref o), (1, .int (nI x))], [.ref o], M)) rfl rfl rfl ?_
  refine ps_get (S' := (4, [(0, .ref o), (1, .int (nI x))], [.ref c], M)) rfl h_o rfl rfl ?_
  refine ps_st (S' := (7, [(0, .ref o), (1, .int (nI x))], [.int 512, .ref c], M)) rfl rfl rfl ?_
  refine pl_call (a := [.ref c, .int 512]) (rest := []) rfl rfl rfl (dk_fhas (f := f) (n := n) (q := q) (c := c) (b := b) (da := da) (fr := fr) (mr := mr) (fa := fa) (ic := ic) (mj := mj) (na := na) (pa := pa) (mi := mi) (k1 := k1) (k2 := k2) (k3 := k3) (k4 := k4) (k5 := k5) (k6 := k6) (k7 := k7) (x := 512) h_c h_b h_da (hn) (hfa)) (fun v1 M2 q3 => ?_)
  obtain ⟨rfl, rfl⟩ := q3
  show pl _ _ _ (10, [(0, .ref o), (1, .int (nI x))], [.int (nI (hasN (by2 f fa) 512))], M) _
  refine ps_if (S1 := (31, [(0, .ref o), (1, .int (nI x))], [], M)) (S2 := (13, [(0, .ref o), (1, .int (nI x))], [], M)) rfl rfl rfl (fun c_10 => ?_) (fun c_10 => ?_)
  · have c_10 : (nI (hasN (by2 f fa) 512)) = 0 := of_decide_eq_true c_10
    have n_10 : hasN (by2 f fa) 512 = 0 := (eq_nI (p := hasN (by2 f fa) 512) (n := 0) (Nat.lt_trans (le1_has _ _) (by decide)) (by decide)).mp c_10
    refine ps_st (S' := (32, [(0, .ref o), (1, .int (nI x))], [.int (nI x)], M)) rfl rfl rfl ?_
    refine pl_call (a := [.int (nI x)]) (rest := []) rfl rfl rfl (dk_hasOneAccessAtMost (x := x) (by omega)) (fun v4 M5 q6 => ?_)
    obtain ⟨rfl, rfl⟩ := q6
    show pl _ _ _ (35, [(0, .ref o), (1, .int (nI x))], [.int (nI (oneN x))], M) _
    refine ps_if (S1 := (51, [], [], M)) (S2 := (38, [(0, .ref o), (1, .int (nI x))], [], M)) rfl rfl rfl (fun c_35 => ?_) (fun c_35 => ?_)
    · have c_35 : (nI (oneN x)) = 0 := of_decide_eq_true c_35
      have n_35 : oneN x = 0 := (eq_nI (p := oneN x) (n := 0) (Nat.lt_trans (le1_one _) (by decide)) (by decide)).mp c_35
      refine ps_st (S' := (52, [], [.int 0], M)) rfl rfl rfl ?_
      exact ps_ret rfl rfl (⟨congrArg (fun x => some (Value.int (nI x))) (show 0 = fflN (by2 f fa) x from by
          unfold fflN
          first | ((repeat first | rw [if_pos (by omega)] | rw [if_neg (by omega)]) <;> first | rfl | omega) | ((repeat' split) <;> first | rfl | (exfalso; omega) | omega)), rfl⟩)
    · have c_35 : ¬ ((nI (oneN x)) = 0) := of_decide_eq_false c_35
      have n_35 : ¬ (oneN x = 0) := fun h9 => c_35 ((eq_nI (p := oneN x) (n := 0) (Nat.lt_trans (le1_one _) (by decide)) (by decide)).mpr h9)
      refine ps_st (S' := (39, [(0, .ref o), (1, .int (nI x))], [.int (nI x)], M)) rfl rfl rfl ?_
      refine ps_st (S' := (41, [(0, .ref o), (1, .int (nI x))], [.int 80, .int (nI x)], M)) rfl rfl rfl ?_
      refine pl_call (a := [.int (nI x), .int 80]) (rest := []) rfl rfl rfl (dk_hasAll (x := x) (w := 80) (by omega) (by decide)) (fun v7 M8 q9 => ?_)
      obtain ⟨rfl, rfl⟩ := q9
      show pl _ _ _ (44, [(0, .ref o), (1, .int (nI x))], [.int (nI (hallN x 80))], M) _
      refine ps_if (S1 := (51, [], [], M)) (S2 := (47, [(0, .ref o), (1, .int (nI x))], [], M)) rfl rfl rfl (fun c_44 => ?_) (fun c_44 => ?_)
      · have c_44 : ¬ (nI (hallN x 80)) = 0 := of_decide_eq_true c_44
        have n_44 : ¬ (hallN x 80 = 0) := fun h9 => c_44 ((eq_nI (p := hallN x 80) (n := 0) (Nat.lt_trans (le1_hall _ _) (by decide)) (by decide)).mpr h9)
        refine ps_st (S' := (52, [], [.int 0], M)) rfl rfl rfl ?_
        exact ps_ret rfl rfl (⟨congrArg (fun x => some (Value.int (nI x))) (show 0 = fflN (by2 f fa) x from by
            unfold fflN
            first | ((repeat first | rw [if_pos (by omega)] | rw [if_neg (by omega)]) <;> first | rfl | omega) | ((repeat' split) <;> first | rfl | (exfalso; omega) | omega)), rfl⟩)
      · have c_44 : ¬ (¬ (nI (hallN x 80)) = 0) := of_decide_eq_false c_44
        have n_44 : hallN x 80 = 0 := (eq_nI (p := hallN x 80) (n := 0) (Nat.lt_trans (le1_hall _ _) (by decide)) (by decide)).mp (Decidable.not_not.mp c_44)
        refine ps_st (S' := (48, [(0, .ref o), (1, .int (nI x))], [.int 1], M)) rfl rfl rfl ?_
        refine ps_st (S' := (52, [], [.int 1], M)) rfl rfl rfl ?_
        exact ps_ret rfl rfl (⟨congrArg (fun x => some (Value.int (nI x))) (show 1 = fflN (by2 f fa) x from by
            unfold fflN
            first | ((repeat first | rw [if_pos (by omega)] | rw [if_neg (by omega)]) <;> first | rfl | omega) | ((repeat' split) <;> first | rfl | (exfalso; omega) | omega)), rfl⟩)
  · have c_10 : ¬ ((nI (hasN (by2 f fa) 512)) = 0) := of_decide_eq_false c_10
    have n_10 : ¬ (hasN (by2 f fa) 512 = 0) := fun h9 => c_10 ((eq_nI (p := hasN (by2 f fa) 512) (n := 0) (Nat.lt_trans (le1_has _ _) (by decide)) (by decide)).mpr h9)
    refine ps_st (S' := (16, [(0, .ref o), (1, .int (nI x))], [.int 16607], M)) rfl rfl rfl ?_
    refine ps_st (S' := (17, [(2, .int 16607), (0, .ref o), (1, .int (nI x))], [], M)) rfl rfl rfl ?_
    refine ps_st (S' := (18, [(2, .int 16607), (0, .ref o), (1, .int (nI x))], [.int (nI x)], M)) rfl rfl rfl ?_
    refine ps_st (S' := (19, [(2, .int 16607), (0, .ref o), (1, .int (nI x))], [.int 16607, .int (nI x)], M)) rfl rfl rfl ?_
    refine ps_st (S' := (20, [(2, .int 16607), (0, .ref o), (1, .int (nI x))], [.int ((nI x) &&& 16607)], M)) rfl rfl rfl ?_
    rw [nI_an (p := x) (k := 16607) (x := 16607) rfl]
    show pl _ _ _ (_, [(2, .int 16607), (0, .ref o), (1, .int (nI x))], [.int (nI (aN x 16607))], M) _
    refine ps_st (S' := (22, [(2, .int 16607), (0, .ref o), (1, .int (nI x))], [.int 25, .int (nI (aN x 16607))], M)) rfl rfl rfl ?_
    refine ps_if2 (S1 := (29, [(2, .int 16607), (0, .ref o), (1, .int (nI x))], [], M)) (S2 := (25, [(2, .int 16607), (0, .ref o), (1, .int (nI x))], [], M)) rfl rfl rfl (fun c_22 => ?_) (fun c_22 => ?_)
    · have c_22 : ¬ (nI (aN x 16607)) = 25 := of_decide_eq_true c_22
      have n_22 : ¬ (aN x 16607 = 25) := fun h9 => c_22 ((eq_nI (p := aN x 16607) (n := 25) (Nat.lt_trans (ha_x _) (by decide)) (by decide)).mpr h9)
      refine ps_st (S' := (30, [], [.int 0], M)) rfl rfl rfl ?_
      exact ps_ret rfl rfl (⟨congrArg (fun x => some (Value.int (nI x))) (show 0 = fflN (by2 f fa) x from by
          unfold fflN
          first | ((repeat first | rw [if_pos (by omega)] | rw [if_neg (by omega)]) <;> first | rfl | omega) | ((repeat' split) <;> first | rfl | (exfalso; omega) | omega)), rfl⟩)
    · have c_22 : ¬ (¬ (nI (aN x 16607)) = 25) := of_decide_eq_false c_22
      have n_22 : aN x 16607 = 25 := (eq_nI (p := aN x 16607) (n := 25) (Nat.lt_trans (ha_x _) (by decide)) (by decide)).mp (Decidable.not_not.mp c_22)
      refine ps_st (S' := (26, [(2, .int 16607), (0, .ref o), (1, .int (nI x))], [.int 1], M)) rfl rfl rfl ?_
      refine ps_st (S' := (30, [], [.int 1], M)) rfl rfl rfl ?_
      exact ps_ret rfl rfl (⟨congrArg (fun x => some (Value.int (nI x))) (show 1 = fflN (by2 f fa) x from by
          unfold fflN
          first | ((repeat first | rw [if_pos (by omega)] | rw [if_neg (by omega)]) <;> first | rfl | omega) | ((repeat' split) <;> first | rfl | (exfalso; omega) | omega)), rfl⟩)
end
section
/-! fields and methods, but for their attributes (laid by wip/p4/d10.py) -/
/-! the class's members in their rows (my own text) -/
section MVA
variable {M M' : mi_H}
abbrev mcell (f : Nat → Int32) (b : Nat) (x1 x2 x3 x4 : Int32) (v : Value) : mi_C := ob 6 [.int (nI b), .int (nI (by2 f b)), .int (nI (by2 f (b + 2))), .int (nI (by2 f (b + 4))), .int (nI (by2 f (b + 6))), .int (nI (b + 8)), .int x1, .int x2, .int x3, .int x4, v]
abbrev z5 (x1 x2 x3 x4 : Int32) (v : Value) : Prop := x1 = 0 ∧ x2 = 0 ∧ x3 = 0 ∧ x4 = 0 ∧ v = .null
/-- members that begin at B, in the row mm, at the addresses G; from number k on no code is known -/
def MV (f : Nat → Int32) (B : List Nat) (mm : Nat) (G : Nat → Nat) (k : Nat) (M : mi_H) : Prop :=
  mm < M.2.1 ∧ (∃ R, M.1 mm = some (ro "ClassGate$Member" B.length R) ∧ ∀ i, i < B.length → R i = .ref (G i)) ∧ (∀ i j, i < B.length → j < B.length → G i = G j → i = j) ∧
  ∀ i, i < B.length → G i < M.2.1 ∧ ∃ (x1 x2 x3 x4 : Int32) (v : Value), M.1 (G i) = some (mcell f (B.getD i 0) x1 x2 x3 x4 v) ∧ (k ≤ i → z5 x1 x2 x3 x4 v)
theorem MV.le {f : Nat → Int32} {B : List Nat} {mm k k' : Nat} {G : Nat → Nat} (h : MV f B mm G k M) (hk : k ≤ k') : MV f B mm G k' M :=
  ⟨h.1, h.2.1, h.2.2.1, fun i hi => ⟨(h.2.2.2 i hi).1, by
    obtain ⟨x1, x2, x3, x4, v, e, hv⟩ := (h.2.2.2 i hi).2
    exact ⟨x1, x2, x3, x4, v, e, fun h9 => hv (by omega)⟩⟩⟩
/-- what may be written: objects of other classes; the member a, whose first six fields stay -/
def n6 (a : Nat) (S : List Nat) (M : mi_H) : Prop := ∀ z ∈ S, z = a ∨ ∃ ci l, M.1 z = some (ob ci l) ∧ ¬ ci = 6
theorem n6nil {a : Nat} : n6 a [] M := fun a ha => by cases ha
theorem n6c {S : List Nat} {a z ci : Nat} {l : List Value} (h : M.1 z = some (ob ci l)) (hc : ¬ ci = 6) (hs : n6 a S M) : n6 a (z :: S) M := fun b hb => by
  rcases List.mem_cons.mp hb with rfl | hb
  · exact Or.inr ⟨ci, l, h, hc⟩
  · exact hs b hb
theorem n6a {S : List Nat} {a : Nat} (hs : n6 a S M) : n6 a (a :: S) M := fun b hb => by
  rcases List.mem_cons.mp hb with rfl | hb
  · exact Or.inl rfl
  · exact hs b hb
theorem MV.move {f : Nat → Int32} {B : List Nat} {mm k : Nat} {G : Nat → Nat} (h : MV f B mm G k M) (hz : M.2.1 ≤ M'.2.1) (hr : ∀ C n R, M.1 mm = some (ro C n R) → M'.1 mm = M.1 mm)
    (hm : ∀ i, i < B.length → ∀ x1 x2 x3 x4 v, M.1 (G i) = some (mcell f (B.getD i 0) x1 x2 x3 x4 v) → ∃ y1 y2 y3 y4 w, M'.1 (G i) = some (mcell f (B.getD i 0) y1 y2 y3 y4 w) ∧ (k ≤ i → y1 = x1 ∧ y2 = x2 ∧ y3 = x3 ∧ y4 = x4 ∧ w = v)) : MV f B mm G k M' := by
  obtain ⟨a0, ⟨R, a1, a2⟩, a3, a4⟩ := h
  refine ⟨by omega, ⟨R, (hr _ _ _ a1).trans a1, a2⟩, a3, fun i hi => ?_⟩
  obtain ⟨b1, x1, x2, x3, x4, v, e, hv⟩ := a4 i hi
  obtain ⟨y1, y2, y3, y4, w, e2, hw⟩ := hm i hi x1 x2 x3 x4 v e
  exact ⟨by omega, y1, y2, y3, y4, w, e2, fun h9 => by obtain ⟨r1, r2, r3, r4, r5⟩ := hw h9; rw [r1, r2, r3, r4, r5]; exact hv h9⟩
theorem ro_ob {C : String} {n ci : Nat} {R : Nat → Value} {l : List Value} : ¬ (ro C n R = ob ci l) := fun h => by cases h
/-- a frame in which the member a = G i0 may change -/
theorem MV.keepA {f : Nat → Int32} {B : List Nat} {mm k a i0 b0 : Nat} {G : Nat → Nat} {S : List Nat} {y1 y2 y3 y4 : Int32} {w : Value} (h : MV f B mm G k M) (hf : gm S M M') (hs : n6 a S M) (ha : G i0 = a ∧ i0 < B.length ∧ i0 < k) (hn : M'.1 a = some (mcell f b0 y1 y2 y3 y4 w)) (hb : b0 = B.getD i0 0) : MV f B mm G k M' := by
  subst hb
  refine h.move hf.2 (fun C n R e => hf.1 mm h.1 (fun hz => ?_)) (fun i hi x1 x2 x3 x4 v e => ?_)
  · rcases hs mm hz with h1 | ⟨ci, l, e1, -⟩
    · obtain ⟨-, x1, x2, x3, x4, v, e2, -⟩ := h.2.2.2 i0 ha.2.1
      rw [ha.1, ← h1, e] at e2
      cases e2
    · rw [e] at e1
      cases e1
  · by_cases h1 : G i = a
    · have : i = i0 := h.2.2.1 i i0 hi ha.2.1 (h1.trans ha.1.symm)
      subst this
      rw [h1]
      exact ⟨y1, y2, y3, y4, w, hn, fun h9 => by omega⟩
    · refine ⟨x1, x2, x3, x4, v, (hf.1 _ (h.2.2.2 i hi).1 (fun hz => ?_)).trans e, fun _ => ⟨rfl, rfl, rfl, rfl, rfl⟩⟩
      rcases hs _ hz with h2 | ⟨ci, l, e1, hc⟩
      · exact h1 h2
      · rw [e] at e1
        simp only [mcell, ob, Option.some.injEq, Sum.inr.injEq, Prod.mk.injEq] at e1
        exact hc e1.1.symm
theorem MV.keep {f : Nat → Int32} {B : List Nat} {mm k : Nat} {G : Nat → Nat} {S : List Nat} (h : MV f B mm G k M) (hf : gm S M M') (hs : ∀ z ∈ S, ∃ ci l, M.1 z = some (ob ci l) ∧ ¬ ci = 6) : MV f B mm G k M' := by
  refine h.move hf.2 (fun C n R e => hf.1 mm h.1 (fun hz => ?_)) (fun i hi x1 x2 x3 x4 v e => ⟨x1, x2, x3, x4, v, (hf.1 _ (h.2.2.2 i hi).1 (fun hz => ?_)).trans e, fun _ => ⟨rfl, rfl, rfl, rfl, rfl⟩⟩)
  · obtain ⟨ci, l, e1, -⟩ := hs mm hz
    rw [e] at e1
    cases e1
  · obtain ⟨ci, l, e1, hc⟩ := hs _ hz
    rw [e] at e1
    simp only [mcell, ob, Option.some.injEq, Sum.inr.injEq, Prod.mk.injEq] at e1
    exact hc e1.1.symm
theorem n6o {S : List Nat} {z ci : Nat} {l : List Value} (h : M.1 z = some (ob ci l)) (hc : ¬ ci = 6) (hs : ∀ z ∈ S, ∃ ci l, M.1 z = some (ob ci l) ∧ ¬ ci = 6) : ∀ y ∈ z :: S, ∃ ci l, M.1 y = some (ob ci l) ∧ ¬ ci = 6 := fun b hb => by
  rcases List.mem_cons.mp hb with rfl | hb
  · exact ⟨ci, l, h, hc⟩
  · exact hs b hb
theorem n6on : ∀ y ∈ ([] : List Nat), ∃ ci l, M.1 y = some (ob ci l) ∧ ¬ ci = 6 := fun b hb => by cases hb
theorem MV.putA {f : Nat → Int32} {B : List Nat} {mm k a i0 b0 : Nat} {G : Nat → Nat} {y1 y2 y3 y4 : Int32} {w : Value} (h : MV f B mm G k M) (ha : G i0 = a ∧ i0 < B.length ∧ i0 < k) (hn : M'.1 a = some (mcell f b0 y1 y2 y3 y4 w)) (hf : ∀ z, z ≠ a → M'.1 z = M.1 z) (hz : M'.2 = M.2) (hb : b0 = B.getD i0 0) : MV f B mm G k M' :=
  h.keepA (S := [a]) ⟨fun z _ h9 => hf z (fun e => h9 (by rw [e]; exact List.mem_cons_self)), by rw [hz]; exact Nat.le_refl _⟩ (n6a n6nil) ha hn hb
theorem MV.put {f : Nat → Int32} {B : List Nat} {mm k a ci : Nat} {l : List Value} {G : Nat → Nat} (h : MV f B mm G k M) (ha : M.1 a = some (ob ci l)) (hc : ¬ ci = 6) (hf : ∀ z, z ≠ a → M'.1 z = M.1 z) (hz : M'.2 = M.2) : MV f B mm G k M' :=
  h.keep (S := [a]) ⟨fun z _ h9 => hf z (fun e => h9 (by rw [e]; exact List.mem_cons_self)), by rw [hz]; exact Nat.le_refl _⟩ (n6o ha hc n6on)
theorem MV.new {f : Nat → Int32} {B : List Nat} {mm k a : Nat} {G : Nat → Nat} (h : MV f B mm G k M) (ht : M.2.1 = a) (hf : ∀ z, z ≠ a → M'.1 z = M.1 z) (hz : M'.2.1 = a + 1) : MV f B mm G k M' :=
  h.keep (S := []) ⟨fun z hl _ => hf z (by omega), by omega⟩ n6on
/-- the first of members i, i + 1 .. (r of them) with this name and this descriptor -/
def smeS (f : Nat → Int32) (n : Nat) (E : List (Nat × Nat)) (B : List Nat) (x y : Nat) : Nat → Nat → Option Nat
  | 0, _ => none
  | r + 1, i => if ¬ smN f n E (by2 f (B.getD i 0 + 2)) x = 0 ∧ ¬ smN f n E (by2 f (B.getD i 0 + 4)) y = 0 then some i else smeS f n E B x y r (i + 1)
theorem smeS_st {f : Nat → Int32} {n : Nat} {E : List (Nat × Nat)} {B : List Nat} {x y c i : Nat} (h : i < c) : smeS f n E B x y (c - i) i = if ¬ smN f n E (by2 f (B.getD i 0 + 2)) x = 0 ∧ ¬ smN f n E (by2 f (B.getD i 0 + 4)) y = 0 then some i else smeS f n E B x y (c - (i + 1)) (i + 1) := by
  rw [show c - i = (c - (i + 1)) + 1 by omega]
  rfl
end MVA
section MVB
variable {M M' : mi_H}
theorem ob_ro {a b ci n : Nat} {C : String} {l : List Value} {R : Nat → Value} (h1 : M.1 a = some (ob ci l)) (h2 : M.1 b = some (ro C n R)) : a ≠ b := by
  intro e
  rw [e, h2] at h1
  cases h1
theorem ar_ro {a b m n : Nat} {C : String} {ty : FieldType} {F : Nat → Int32} {R : Nat → Value} (h1 : M.1 a = some (ar ty m F)) (h2 : M.1 b = some (ro C n R)) (hc : ¬ ty = .object C) : a ≠ b := by
  intro e
  rw [e, h2] at h1
  simp only [ar, ro, Option.some.injEq, Sum.inl.injEq, Prod.mk.injEq] at h1
  exact hc h1.1.symm
section
variable (f : Nat → Int32) (n : Nat) (E : List (Nat × Nat))
def mnmN (c x : Nat) : Nat := if ¬ eqN (tX f n E x) (ltx 12) = 0 then (if hasN c 512 = 0 then 1 else 0) else if ¬ eqN (tX f n E x) (ltx 13) = 0 ∨ (¬ unqN (tX f n E x) = 0 ∧ angN (tX f n E x) = 0) then 1 else 0
def absN (mj x : Nat) : Nat := if ¬ hasN x 314 = 0 then 0 else if mj < 46 ∨ 60 < mj ∨ hasN x 2048 = 0 then 1 else 0
def imhN (mj x : Nat) : Nat := if ¬ hasN x 308 = 0 then 0 else if mj < 52 then (if ¬ hallN x 1025 = 0 ∧ hasN x 8 = 0 then 1 else 0) else if hasN x 1 = hasN x 2 then 0 else 1
def mflN (c mj x y : Nat) : Nat := if ¬ eqN (tX f n E y) (ltx 13) = 0 then 1 else if ¬ eqN (tX f n E y) (ltx 12) = 0 then (if ¬ oneN x = 0 ∧ hasN x 1400 = 0 then 1 else 0) else
  if ¬ hasN x 1024 = 0 ∧ absN mj x = 0 then 0 else if ¬ hasN c 512 = 0 then imhN mj x else oneN x
def mdsN (x d w : Nat) : Nat := if mthN (tX f n E d) = 0 ∨ 255 < w then 0 else if eqN (tX f n E x) (ltx 12) = 0 ∨ ¬ nresN (tX f n E d) = 0 then 1 else 0
/-- places of a method's arguments, its object's among them -/
def apN (b : Nat) : Nat := argN (tX f n E (by2 f (b + 4))) + (if hasN (by2 f b) 8 = 0 then 1 else 0)
def fhS (c : Nat) (B : List Nat) (i b : Nat) : Option (Nat × Nat) :=
  if fflN c (by2 f b) = 0 then some (19, b) else if unqN (tX f n E (by2 f (b + 2))) = 0 then some (20, b + 2) else if fldN (tX f n E (by2 f (b + 4))) = 0 then some (21, b + 4) else
  if smeS f n E B (by2 f (b + 2)) (by2 f (b + 4)) i 0 = none then none else some (22, b)
def mhS (c mj : Nat) (B : List Nat) (i b : Nat) : Option (Nat × Nat) :=
  if mnmN f n E c (by2 f (b + 2)) = 0 then some (24, b + 2) else if mflN f n E c mj (by2 f b) (by2 f (b + 2)) = 0 then some (23, b) else if mdsN f n E (by2 f (b + 2)) (by2 f (b + 4)) (apN f n E b) = 0 then some (25, b + 4) else
  if smeS f n E B (by2 f (b + 2)) (by2 f (b + 4)) i 0 = none then none else some (26, b)
def cduS (b h : Nat) : Option (Nat × Nat) := if ¬ eqN (tX f n E (by2 f (b + 2))) (ltx 13) = 0 ∨ hasN (by2 f b) 1280 = 0 then (if h = 1 then none else some (27, b)) else (if h = 0 then none else some (27, b))
end
theorem le1_mnm (f : Nat → Int32) (n : Nat) (E : List (Nat × Nat)) (c x : Nat) : mnmN f n E c x < 2 := by
  unfold mnmN
  repeat' split
  all_goals decide
theorem le1_abs (mj x : Nat) : absN mj x < 2 := by
  unfold absN
  repeat' split
  all_goals decide
theorem le1_imh (mj x : Nat) : imhN mj x < 2 := by
  unfold imhN
  repeat' split
  all_goals decide
theorem le1_mfl (f : Nat → Int32) (n : Nat) (E : List (Nat × Nat)) (c mj x y : Nat) : mflN f n E c mj x y < 2 := by
  have h1 := le1_imh mj x
  have h2 := le1_one x
  unfold mflN
  repeat' split
  all_goals omega
theorem le1_mds (f : Nat → Int32) (n : Nat) (E : List (Nat × Nat)) (x d w : Nat) : mdsN f n E x d w < 2 := by
  unfold mdsN
  repeat' split
  all_goals decide
theorem apN_lt (f : Nat → Int32) (n : Nat) (E : List (Nat × Nat)) (b : Nat) : apN f n E b < 2000 := by
  have := argN_lt (tX f n E (by2 f (b + 4)))
  unfold apN
  split <;> omega
end MVB
set_option maxHeartbeats 1000000 in
theorem dk_sameMember {g : xe_G} {M : mi_H} {f : Nat → Int32} {n N q : Nat} {E : List (Nat × Nat)} {B : List Nat} {G : Nat → Nat} {mm kk c0 x y : Nat}  (hV : PV g f n N E q M) (hM : MV f B mm G kk M) (hc0 : c0 ≤ B.length ∧ B.length < 65536) (hx : x < 65536) (hy : y < 65536) : pt (mT g) 132 [.ref q, .ref mm, .int (nI c0), .int (nI x), .int (nI y)] M (fun v M' => ((smeS f n E B x y c0 0 = none) ∧ v = some (.int (-1)) ∧ M = M') ∨ (∃ (k : Nat), (smeS f n E B x y c0 0 = some k) ∧ (k < c0) ∧ v = some (.int (nI k)) ∧ M = M')) := by
  refine pt_in (b := mb_132 g) rfl (fun kf => ?_)
  show pl (mT g) kf (mb_132 g).2 (0, [(0, .ref q), (1, .ref mm), (2, .int (nI c0)), (3, .int (nI x)), (4, .int (nI y))], [], M) _
  obtain ⟨R, h_mm, hR⟩ := hM.2.1
  have LL : ∀ (kf : Nat), (∀ (i : Nat), (i ≤ c0) → (smeS f n E B x y (c0 - i) i = smeS f n E B x y c0 0) →  pl (mT g) kf (mb_132 g).2 (3, [(0, .ref q), (1, .ref mm), (2, .int (nI c0)), (3, .int (nI x)), (4, .int (nI y)), (5, .int (nI i))], [], M) (fun v M' => ((smeS f n E B x y c0 0 = none) ∧ v = some (.int (-1)) ∧ M = M') ∨ (∃ (k : Nat), (smeS f n E B x y c0 0 = some k) ∧ (k < c0) ∧ v = some (.int (nI k)) ∧ M = M'))) := by
    intro kf
    induction kf with
    | zero => exact (by intros; exact pl_0)
    | succ kf ih =>
      intro i hi hs
      refine ps_st1 (S' := (5, [(0, .ref q), (1, .ref mm), (2, .int (nI c0)), (3, .int (nI x)), (4, .int (nI y)), (5, .int (nI i))], [.int (nI i)], M)) rfl rfl rfl ?_
      refine ps_st (S' := (6, [(0, .ref q), (1, .ref mm), (2, .int (nI c0)), (3, .int (nI x)), (4, .int (nI y)), (5, .int (nI i))], [.int (nI c0), .int (nI i)], M)) rfl rfl rfl ?_
      refine ps_if2 (S1 := (63, [], [], M)) (S2 := (9, [(0, .ref q), (1, .ref mm), (2, .int (nI c0)), (3, .int (nI x)), (4, .int (nI y)), (5, .int (nI i))], [], M)) rfl rfl rfl (fun c_6 => ?_) (fun c_6 => ?_)
      · have c_6 : (nI c0) ≤ (nI i) := of_decide_eq_true c_6
        have n_6 : c0 ≤ i := (le_nI (p := c0) (n := i) (by omega) (by omega)).mp c_6
        refine ps_st (S' := (64, [], [.int (-1)], M)) rfl rfl rfl ?_
        exact ps_ret rfl rfl (Or.inl ⟨by rw [← hs, show c0 - i = 0 by omega]; rfl, rfl, rfl⟩)
      · have c_6 : ¬ ((nI c0) ≤ (nI i)) := of_decide_eq_false c_6
        have n_6 : ¬ (c0 ≤ i) := fun h9 => c_6 ((le_nI (p := c0) (n := i) (by omega) (by omega)).mpr h9)
        refine ps_st (S' := (11, [(0, .ref q), (1, .ref mm), (2, .int (nI c0)), (3, .int (nI x)), (4, .int (nI y)), (5, .int (nI i))], [.int (nI i)], M)) rfl rfl rfl ?_
        refine ps_st (S' := (12, [(0, .ref q), (1, .ref mm), (2, .int (nI c0)), (3, .int (nI x)), (4, .int (nI y)), (5, .int (nI i))], [.ref mm, .int (nI i)], M)) rfl rfl rfl ?_
        refine ps_aalen (S' := (13, [(0, .ref q), (1, .ref mm), (2, .int (nI c0)), (3, .int (nI x)), (4, .int (nI y)), (5, .int (nI i))], [.int (nI B.length), .int (nI i)], M)) rfl h_mm rfl ?_
        refine ps_if2 (S1 := (63, [], [], M)) (S2 := (16, [(0, .ref q), (1, .ref mm), (2, .int (nI c0)), (3, .int (nI x)), (4, .int (nI y)), (5, .int (nI i))], [], M)) rfl rfl rfl (fun c_13 => ?_) (fun c_13 => ?_)
        · have c_13 : (nI B.length) ≤ (nI i) := of_decide_eq_true c_13
          have n_13 : B.length ≤ i := (le_nI (p := B.length) (n := i) (by omega) (by omega)).mp c_13
          refine ps_st (S' := (64, [], [.int (-1)], M)) rfl rfl rfl ?_
          exact ps_ret rfl rfl (Or.inl ⟨by rw [← hs, show c0 - i = 0 by omega]; rfl, rfl, rfl⟩)
        · have c_13 : ¬ ((nI B.length) ≤ (nI i)) := of_decide_eq_false c_13
          have n_13 : ¬ (B.length ≤ i) := fun h9 => c_13 ((le_nI (p := B.length) (n := i) (by omega) (by omega)).mpr h9)
          refine ps_st (S' := (17, [(0, .ref q), (1, .ref mm), (2, .int (nI c0)), (3, .int (nI x)), (4, .int (nI y)), (5, .int (nI i))], [.ref mm], M)) rfl rfl rfl ?_
          refine ps_st (S' := (19, [(0, .ref q), (1, .ref mm), (2, .int (nI c0)), (3, .int (nI x)), (4, .int (nI y)), (5, .int (nI i))], [.int (nI i), .ref mm], M)) rfl rfl rfl ?_
          obtain ⟨y1, y2, y3, y4, yv, hc9, -⟩ := (hM.2.2.2 i (by omega)).2
          refine ps_aald (S' := (20, [(0, .ref q), (1, .ref mm), (2, .int (nI c0)), (3, .int (nI x)), (4, .int (nI y)), (5, .int (nI i))], [.ref (G i)], M)) rfl h_mm (⟨by omega, hR i (by omega)⟩) rfl ?_
          refine ps_st (S' := (22, [(6, .ref (G i)), (0, .ref q), (1, .ref mm), (2, .int (nI c0)), (3, .int (nI x)), (4, .int (nI y)), (5, .int (nI i))], [], M)) rfl rfl rfl ?_
          refine ps_st (S' := (24, [(6, .ref (G i)), (0, .ref q), (1, .ref mm), (2, .int (nI c0)), (3, .int (nI x)), (4, .int (nI y)), (5, .int (nI i))], [.ref (G i)], M)) rfl rfl rfl ?_
          refine ps_st (S' := (27, [(6, .ref (G i)), (0, .ref q), (1, .ref mm), (2, .int (nI c0)), (3, .int (nI x)), (4, .int (nI y)), (5, .int (nI i))], [], M)) rfl rfl rfl ?_
          refine ps_st (S' := (28, [(6, .ref (G i)), (0, .ref q), (1, .ref mm), (2, .int (nI c0)), (3, .int (nI x)), (4, .int (nI y)), (5, .int (nI i))], [.ref q], M)) rfl rfl rfl ?_
          refine ps_st (S' := (30, [(6, .ref (G i)), (0, .ref q), (1, .ref mm), (2, .int (nI c0)), (3, .int (nI x)), (4, .int (nI y)), (5, .int (nI i))], [.ref (G i), .ref q], M)) rfl rfl rfl ?_
          refine ps_get (S' := (33, [(6, .ref (G i)), (0, .ref q), (1, .ref mm), (2, .int (nI c0)), (3, .int (nI x)), (4, .int (nI y)), (5, .int (nI i))], [.int (nI (by2 f (B.getD i 0 + 2))), .ref q], M)) rfl hc9 rfl rfl ?_
          refine ps_st (S' := (34, [(6, .ref (G i)), (0, .ref q), (1, .ref mm), (2, .int (nI c0)), (3, .int (nI x)), (4, .int (nI y)), (5, .int (nI i))], [.int (nI x), .int (nI (by2 f (B.getD i 0 + 2))), .ref q], M)) rfl rfl rfl ?_
          refine pl_call (a := [.ref q, .int (nI (by2 f (B.getD i 0 + 2))), .int (nI x)]) (rest := []) rfl rfl rfl (dy_sameText (f := f) (n := n) (N := N) (q := q) (E := E) (j := (by2 f (B.getD i 0 + 2))) (k := x) (hV) (by2_lt _ _) (by omega)) (fun v1 M2 q3 => ?_)
          obtain ⟨rfl, rfl⟩ := q3
          show pl _ _ _ (37, [(6, .ref (G i)), (0, .ref q), (1, .ref mm), (2, .int (nI c0)), (3, .int (nI x)), (4, .int (nI y)), (5, .int (nI i))], [.int (nI (smN f n E (by2 f (B.getD i 0 + 2)) x))], M) _
          refine ps_if (S1 := (57, [(0, .ref q), (1, .ref mm), (2, .int (nI c0)), (3, .int (nI x)), (4, .int (nI y)), (5, .int (nI i))], [], M)) (S2 := (40, [(6, .ref (G i)), (0, .ref q), (1, .ref mm), (2, .int (nI c0)), (3, .int (nI x)), (4, .int (nI y)), (5, .int (nI i))], [], M)) rfl rfl rfl (fun c_37 => ?_) (fun c_37 => ?_)
          · have c_37 : (nI (smN f n E (by2 f (B.getD i 0 + 2)) x)) = 0 := of_decide_eq_true c_37
            have n_37 : smN f n E (by2 f (B.getD i 0 + 2)) x = 0 := (eq_nI (p := smN f n E (by2 f (B.getD i 0 + 2)) x) (n := 0) (Nat.lt_trans (le1_sm _ _ _ _ _) (by decide)) (by decide)).mp c_37
            refine ps_st (S' := (60, [(5, .int ((nI i) + 1)), (0, .ref q), (1, .ref mm), (2, .int (nI c0)), (3, .int (nI x)), (4, .int (nI y))], [], M)) rfl rfl rfl ?_
            rw [nI_add1 (p := i) (k := 1) (x := 1) rfl (by omega)]
            show pl _ _ _ (_, [(5, .int (nI (i + 1))), (0, .ref q), (1, .ref mm), (2, .int (nI c0)), (3, .int (nI x)), (4, .int (nI y))], [], M) _
            refine ps_st (S' := (3, [(0, .ref q), (1, .ref mm), (2, .int (nI c0)), (3, .int (nI x)), (4, .int (nI y)), (5, .int (nI (i + 1)))], [], M)) rfl rfl rfl ?_
            exact ih (i + 1)  (by omega) (by
                rw [← hs, smeS_st (i := i) (by omega), if_neg (by omega)])
          · have c_37 : ¬ ((nI (smN f n E (by2 f (B.getD i 0 + 2)) x)) = 0) := of_decide_eq_false c_37
            have n_37 : ¬ (smN f n E (by2 f (B.getD i 0 + 2)) x = 0) := fun h9 => c_37 ((eq_nI (p := smN f n E (by2 f (B.getD i 0 + 2)) x) (n := 0) (Nat.lt_trans (le1_sm _ _ _ _ _) (by decide)) (by decide)).mpr h9)
            refine ps_st (S' := (41, [(6, .ref (G i)), (0, .ref q), (1, .ref mm), (2, .int (nI c0)), (3, .int (nI x)), (4, .int (nI y)), (5, .int (nI i))], [.ref q], M)) rfl rfl rfl ?_
            refine ps_st (S' := (43, [(6, .ref (G i)), (0, .ref q), (1, .ref mm), (2, .int (nI c0)), (3, .int (nI x)), (4, .int (nI y)), (5, .int (nI i))], [.ref (G i), .ref q], M)) rfl rfl rfl ?_
            refine ps_get (S' := (46, [(6, .ref (G i)), (0, .ref q), (1, .ref mm), (2, .int (nI c0)), (3, .int (nI x)), (4, .int (nI y)), (5, .int (nI i))], [.int (nI (by2 f (B.getD i 0 + 4))), .ref q], M)) rfl hc9 rfl rfl ?_
            refine ps_st (S' := (48, [(6, .ref (G i)), (0, .ref q), (1, .ref mm), (2, .int (nI c0)), (3, .int (nI x)), (4, .int (nI y)), (5, .int (nI i))], [.int (nI y), .int (nI (by2 f (B.getD i 0 + 4))), .ref q], M)) rfl rfl rfl ?_
            refine pl_call (a := [.ref q, .int (nI (by2 f (B.getD i 0 + 4))), .int (nI y)]) (rest := []) rfl rfl rfl (dy_sameText (f := f) (n := n) (N := N) (q := q) (E := E) (j := (by2 f (B.getD i 0 + 4))) (k := y) (hV) (by2_lt _ _) (by omega)) (fun v4 M5 q6 => ?_)
            obtain ⟨rfl, rfl⟩ := q6
            show pl _ _ _ (51, [(6, .ref (G i)), (0, .ref q), (1, .ref mm), (2, .int (nI c0)), (3, .int (nI x)), (4, .int (nI y)), (5, .int (nI i))], [.int (nI (smN f n E (by2 f (B.getD i 0 + 4)) y))], M) _
            refine ps_if (S1 := (57, [(0, .ref q), (1, .ref mm), (2, .int (nI c0)), (3, .int (nI x)), (4, .int (nI y)), (5, .int (nI i))], [], M)) (S2 := (54, [(6, .ref (G i)), (0, .ref q), (1, .ref mm), (2, .int (nI c0)), (3, .int (nI x)), (4, .int (nI y)), (5, .int (nI i))], [], M)) rfl rfl rfl (fun c_51 => ?_) (fun c_51 => ?_)
            · have c_51 : (nI (smN f n E (by2 f (B.getD i 0 + 4)) y)) = 0 := of_decide_eq_true c_51
              have n_51 : smN f n E (by2 f (B.getD i 0 + 4)) y = 0 := (eq_nI (p := smN f n E (by2 f (B.getD i 0 + 4)) y) (n := 0) (Nat.lt_trans (le1_sm _ _ _ _ _) (by decide)) (by decide)).mp c_51
              refine ps_st (S' := (60, [(5, .int ((nI i) + 1)), (0, .ref q), (1, .ref mm), (2, .int (nI c0)), (3, .int (nI x)), (4, .int (nI y))], [], M)) rfl rfl rfl ?_
              rw [nI_add1 (p := i) (k := 1) (x := 1) rfl (by omega)]
              show pl _ _ _ (_, [(5, .int (nI (i + 1))), (0, .ref q), (1, .ref mm), (2, .int (nI c0)), (3, .int (nI x)), (4, .int (nI y))], [], M) _
              refine ps_st (S' := (3, [(0, .ref q), (1, .ref mm), (2, .int (nI c0)), (3, .int (nI x)), (4, .int (nI y)), (5, .int (nI (i + 1)))], [], M)) rfl rfl rfl ?_
              exact ih (i + 1)  (by omega) (by
                  rw [← hs, smeS_st (i := i) (by omega), if_neg (by omega)])
            · have c_51 : ¬ ((nI (smN f n E (by2 f (B.getD i 0 + 4)) y)) = 0) := of_decide_eq_false c_51
              have n_51 : ¬ (smN f n E (by2 f (B.getD i 0 + 4)) y = 0) := fun h9 => c_51 ((eq_nI (p := smN f n E (by2 f (B.getD i 0 + 4)) y) (n := 0) (Nat.lt_trans (le1_sm _ _ _ _ _) (by decide)) (by decide)).mpr h9)
              refine ps_st (S' := (56, [(6, .ref (G i)), (0, .ref q), (1, .ref mm), (2, .int (nI c0)), (3, .int (nI x)), (4, .int (nI y)), (5, .int (nI i))], [.int (nI i)], M)) rfl rfl rfl ?_
              exact ps_reti rfl (Or.inr ⟨i, by rw [← hs, smeS_st (i := i) (by omega), if_pos (by omega)], by omega, rfl, rfl⟩)
  refine ps_st (S' := (1, [(0, .ref q), (1, .ref mm), (2, .int (nI c0)), (3, .int (nI x)), (4, .int (nI y))], [.int 0], M)) rfl rfl rfl ?_
  refine ps_st (S' := (3, [(0, .ref q), (1, .ref mm), (2, .int (nI c0)), (3, .int (nI x)), (4, .int (nI y)), (5, .int 0)], [], M)) rfl rfl rfl ?_
  exact (LL kf) (0)  (by omega) (rfl)
set_option maxHeartbeats 1000000 in
theorem dk_methodNameHolds {g : xe_G} {M : mi_H} {f : Nat → Int32} {n N q : Nat} {E : List (Nat × Nat)} {o c b da vd ac fr mr fa ic mj na pa : Nat} {mi ru wa k1 k2 k3 k4 k5 k6 k7 : Int32} {x : Nat} (h_o : M.1 o = some (ob 2 [.ref c, .ref b, .ref q, .ref vd, .ref ac])) (h_c : M.1 c = some (ob 3 [.ref b, .ref q, .int mi, .int (nI mj), .int (nI fa), .int (nI ic), .ref fr, .ref mr, .int (nI na), .int (nI pa), .int k1, .int k2, .int k3, .int k4, .int k5, .int k6, .int k7])) (h_b : M.1 b = some (ob 1 [.ref da])) (h_da : M.1 da = some (ar .byte n f)) (hn : n ≤ 65540) (hmj : mj < 65536) (hfa : fa + 8 ≤ n) (hx : x < 65536) (hV : PV g f n N E q M) : pt (mT g) 66 [.ref o, .int (nI x)] M (fun v M' => (v = some (.int (nI (mnmN f n E (by2 f fa) x))) ∧ M = M')) := by
  refine pt_in (b := mb_66 g) rfl (fun kf => ?_)
  show pl (mT g) kf (mb_66 g).2 (0, [(0, .ref o), (1, .int (nI x))], [], M) _
  refine ps_st (S' := (1, [(0, .ref o), (1, .int (nI x))], [.ref o], M)) rfl rfl rfl ?_
  refine ps_get (S' := (4, [(0, .ref o), (1, .int (nI x))], [.ref q], M)) rfl h_o rfl rfl ?_
  refine ps_st (S' := (5, [(0, .ref o), (1, .int (nI x))], [.int (nI x), .ref q], M)) rfl rfl rfl ?_
  refine ps_st (S' := (7, [(0, .ref o), (1, .int (nI x))], [.ref (g.2.1 12), .int (nI x), .ref q], M)) rfl rfl rfl ?_
  refine pl_call (a := [.ref q, .int (nI x), .ref (g.2.1 12)]) (rest := []) rfl rfl rfl (dy_textIs (f := f) (n := n) (N := N) (q := q) (E := E) (j := x) (k := 12) (hV) (by omega) (by decide)) (fun v1 M2 q3 => ?_)
  obtain ⟨rfl, rfl⟩ := q3
  show pl _ _ _ (10, [(0, .ref o), (1, .int (nI x))], [.int (nI (eqN (tX f n E x) (ltx 12)))], M) _
  refine ps_if (S1 := (32, [(0, .ref o), (1, .int (nI x))], [], M)) (S2 := (13, [(0, .ref o), (1, .int (nI x))], [], M)) rfl rfl rfl (fun c_10 => ?_) (fun c_10 => ?_)
  · have c_10 : (nI (eqN (tX f n E x) (ltx 12))) = 0 := of_decide_eq_true c_10
    have n_10 : eqN (tX f n E x) (ltx 12) = 0 := (eq_nI (p := eqN (tX f n E x) (ltx 12)) (n := 0) (Nat.lt_trans (le1_eq _ _) (by decide)) (by decide)).mp c_10
    refine ps_st (S' := (33, [(0, .ref o), (1, .int (nI x))], [.ref o], M)) rfl rfl rfl ?_
    refine ps_get (S' := (36, [(0, .ref o), (1, .int (nI x))], [.ref q], M)) rfl h_o rfl rfl ?_
    refine ps_st (S' := (37, [(0, .ref o), (1, .int (nI x))], [.int (nI x), .ref q], M)) rfl rfl rfl ?_
    refine ps_st (S' := (39, [(0, .ref o), (1, .int (nI x))], [.ref (g.2.1 13), .int (nI x), .ref q], M)) rfl rfl rfl ?_
    refine pl_call (a := [.ref q, .int (nI x), .ref (g.2.1 13)]) (rest := []) rfl rfl rfl (dy_textIs (f := f) (n := n) (N := N) (q := q) (E := E) (j := x) (k := 13) (hV) (by omega) (by decide)) (fun v4 M5 q6 => ?_)
    obtain ⟨rfl, rfl⟩ := q6
    show pl _ _ _ (42, [(0, .ref o), (1, .int (nI x))], [.int (nI (eqN (tX f n E x) (ltx 13)))], M) _
    refine ps_if (S1 := (67, [], [], M)) (S2 := (45, [(0, .ref o), (1, .int (nI x))], [], M)) rfl rfl rfl (fun c_42 => ?_) (fun c_42 => ?_)
    · have c_42 : ¬ (nI (eqN (tX f n E x) (ltx 13))) = 0 := of_decide_eq_true c_42
      have n_42 : ¬ (eqN (tX f n E x) (ltx 13) = 0) := fun h9 => c_42 ((eq_nI (p := eqN (tX f n E x) (ltx 13)) (n := 0) (Nat.lt_trans (le1_eq _ _) (by decide)) (by decide)).mpr h9)
      refine ps_st (S' := (68, [], [.int 1], M)) rfl rfl rfl ?_
      refine ps_st (S' := (72, [], [.int 1], M)) rfl rfl rfl ?_
      exact ps_ret rfl rfl (⟨congrArg (fun x => some (Value.int (nI x))) (show 1 = mnmN f n E (by2 f fa) x from by
          unfold mnmN
          first | ((repeat first | rw [if_pos (by omega)] | rw [if_neg (by omega)]) <;> first | rfl | omega) | ((repeat' split) <;> first | rfl | (exfalso; omega) | omega)), rfl⟩)
    · have c_42 : ¬ (¬ (nI (eqN (tX f n E x) (ltx 13))) = 0) := of_decide_eq_false c_42
      have n_42 : eqN (tX f n E x) (ltx 13) = 0 := (eq_nI (p := eqN (tX f n E x) (ltx 13)) (n := 0) (Nat.lt_trans (le1_eq _ _) (by decide)) (by decide)).mp (Decidable.not_not.mp c_42)
      refine ps_st (S' := (46, [(0, .ref o), (1, .int (nI x))], [.ref o], M)) rfl rfl rfl ?_
      refine ps_get (S' := (49, [(0, .ref o), (1, .int (nI x))], [.ref q], M)) rfl h_o rfl rfl ?_
      refine ps_st (S' := (50, [(0, .ref o), (1, .int (nI x))], [.int (nI x), .ref q], M)) rfl rfl rfl ?_
      refine pl_call (a := [.ref q, .int (nI x)]) (rest := []) rfl rfl rfl (dy_isUnqualifiedName (f := f) (n := n) (N := N) (q := q) (E := E) (j := x) (hV) (by omega)) (fun v7 M8 q9 => ?_)
      obtain ⟨rfl, rfl⟩ := q9
      show pl _ _ _ (53, [(0, .ref o), (1, .int (nI x))], [.int (nI (unqN (tX f n E x)))], M) _
      refine ps_if (S1 := (71, [], [], M)) (S2 := (56, [(0, .ref o), (1, .int (nI x))], [], M)) rfl rfl rfl (fun c_53 => ?_) (fun c_53 => ?_)
      · have c_53 : (nI (unqN (tX f n E x))) = 0 := of_decide_eq_true c_53
        have n_53 : unqN (tX f n E x) = 0 := (eq_nI (p := unqN (tX f n E x)) (n := 0) (Nat.lt_trans (le1_unq _) (by decide)) (by decide)).mp c_53
        refine ps_st (S' := (72, [], [.int 0], M)) rfl rfl rfl ?_
        exact ps_ret rfl rfl (⟨congrArg (fun x => some (Value.int (nI x))) (show 0 = mnmN f n E (by2 f fa) x from by
            unfold mnmN
            first | ((repeat first | rw [if_pos (by omega)] | rw [if_neg (by omega)]) <;> first | rfl | omega) | ((repeat' split) <;> first | rfl | (exfalso; omega) | omega)), rfl⟩)
      · have c_53 : ¬ ((nI (unqN (tX f n E x))) = 0) := of_decide_eq_false c_53
        have n_53 : ¬ (unqN (tX f n E x) = 0) := fun h9 => c_53 ((eq_nI (p := unqN (tX f n E x)) (n := 0) (Nat.lt_trans (le1_unq _) (by decide)) (by decide)).mpr h9)
        refine ps_st (S' := (57, [(0, .ref o), (1, .int (nI x))], [.ref o], M)) rfl rfl rfl ?_
        refine ps_get (S' := (60, [(0, .ref o), (1, .int (nI x))], [.ref q], M)) rfl h_o rfl rfl ?_
        refine ps_st (S' := (61, [(0, .ref o), (1, .int (nI x))], [.int (nI x), .ref q], M)) rfl rfl rfl ?_
        refine pl_call (a := [.ref q, .int (nI x)]) (rest := []) rfl rfl rfl (dy_hasAngle (f := f) (n := n) (N := N) (q := q) (E := E) (j := x) (hV) (by omega)) (fun v10 M11 q12 => ?_)
        obtain ⟨rfl, rfl⟩ := q12
        show pl _ _ _ (64, [(0, .ref o), (1, .int (nI x))], [.int (nI (angN (tX f n E x)))], M) _
        refine ps_if (S1 := (71, [], [], M)) (S2 := (67, [], [], M)) rfl rfl rfl (fun c_64 => ?_) (fun c_64 => ?_)
        · have c_64 : ¬ (nI (angN (tX f n E x))) = 0 := of_decide_eq_true c_64
          have n_64 : ¬ (angN (tX f n E x) = 0) := fun h9 => c_64 ((eq_nI (p := angN (tX f n E x)) (n := 0) (Nat.lt_trans (le1_ang _) (by decide)) (by decide)).mpr h9)
          refine ps_st (S' := (72, [], [.int 0], M)) rfl rfl rfl ?_
          exact ps_ret rfl rfl (⟨congrArg (fun x => some (Value.int (nI x))) (show 0 = mnmN f n E (by2 f fa) x from by
              unfold mnmN
              first | ((repeat first | rw [if_pos (by omega)] | rw [if_neg (by omega)]) <;> first | rfl | omega) | ((repeat' split) <;> first | rfl | (exfalso; omega) | omega)), rfl⟩)
        · have c_64 : ¬ (¬ (nI (angN (tX f n E x))) = 0) := of_decide_eq_false c_64
          have n_64 : angN (tX f n E x) = 0 := (eq_nI (p := angN (tX f n E x)) (n := 0) (Nat.lt_trans (le1_ang _) (by decide)) (by decide)).mp (Decidable.not_not.mp c_64)
          refine ps_st (S' := (68, [], [.int 1], M)) rfl rfl rfl ?_
          refine ps_st (S' := (72, [], [.int 1], M)) rfl rfl rfl ?_
          exact ps_ret rfl rfl (⟨congrArg (fun x => some (Value.int (nI x))) (show 1 = mnmN f n E (by2 f fa) x from by
              unfold mnmN
              first | ((repeat first | rw [if_pos (by omega)] | rw [if_neg (by omega)]) <;> first | rfl | omega) | ((repeat' split) <;> first | rfl | (exfalso; omega) | omega)), rfl⟩)
  · have c_10 : ¬ ((nI (eqN (tX f n E x) (ltx 12))) = 0) := of_decide_eq_false c_10
    have n_10 : ¬ (eqN (tX f n E x) (ltx 12) = 0) := fun h9 => c_10 ((eq_nI (p := eqN (tX f n E x) (ltx 12)) (n := 0) (Nat.lt_trans (le1_eq _ _) (by decide)) (by decide)).mpr h9)
    refine ps_st (S' := (14, [(0, .ref o), (1, .int (nI x))], [.ref o], M)) rfl rfl rfl ?_
    refine ps_get (S' := (17, [(0, .ref o), (1, .int (nI x))], [.ref c], M)) rfl h_o rfl rfl ?_
    refine ps_st (S' := (20, [(0, .ref o), (1, .int (nI x))], [.int 512, .ref c], M)) rfl rfl rfl ?_
    refine pl_call (a := [.ref c, .int 512]) (rest := []) rfl rfl rfl (dk_fhas (f := f) (n := n) (q := q) (c := c) (b := b) (da := da) (fr := fr) (mr := mr) (fa := fa) (ic := ic) (mj := mj) (na := na) (pa := pa) (mi := mi) (k1 := k1) (k2 := k2) (k3 := k3) (k4 := k4) (k5 := k5) (k6 := k6) (k7 := k7) (x := 512) h_c h_b h_da (hn) (hfa)) (fun v13 M14 q15 => ?_)
    obtain ⟨rfl, rfl⟩ := q15
    show pl _ _ _ (23, [(0, .ref o), (1, .int (nI x))], [.int (nI (hasN (by2 f fa) 512))], M) _
    refine ps_if (S1 := (30, [(0, .ref o), (1, .int (nI x))], [], M)) (S2 := (26, [(0, .ref o), (1, .int (nI x))], [], M)) rfl rfl rfl (fun c_23 => ?_) (fun c_23 => ?_)
    · have c_23 : ¬ (nI (hasN (by2 f fa) 512)) = 0 := of_decide_eq_true c_23
      have n_23 : ¬ (hasN (by2 f fa) 512 = 0) := fun h9 => c_23 ((eq_nI (p := hasN (by2 f fa) 512) (n := 0) (Nat.lt_trans (le1_has _ _) (by decide)) (by decide)).mpr h9)
      refine ps_st (S' := (31, [], [.int 0], M)) rfl rfl rfl ?_
      exact ps_ret rfl rfl (⟨congrArg (fun x => some (Value.int (nI x))) (show 0 = mnmN f n E (by2 f fa) x from by
          unfold mnmN
          first | ((repeat first | rw [if_pos (by omega)] | rw [if_neg (by omega)]) <;> first | rfl | omega) | ((repeat' split) <;> first | rfl | (exfalso; omega) | omega)), rfl⟩)
    · have c_23 : ¬ (¬ (nI (hasN (by2 f fa) 512)) = 0) := of_decide_eq_false c_23
      have n_23 : hasN (by2 f fa) 512 = 0 := (eq_nI (p := hasN (by2 f fa) 512) (n := 0) (Nat.lt_trans (le1_has _ _) (by decide)) (by decide)).mp (Decidable.not_not.mp c_23)
      refine ps_st (S' := (27, [(0, .ref o), (1, .int (nI x))], [.int 1], M)) rfl rfl rfl ?_
      refine ps_st (S' := (31, [], [.int 1], M)) rfl rfl rfl ?_
      exact ps_ret rfl rfl (⟨congrArg (fun x => some (Value.int (nI x))) (show 1 = mnmN f n E (by2 f fa) x from by
          unfold mnmN
          first | ((repeat first | rw [if_pos (by omega)] | rw [if_neg (by omega)]) <;> first | rfl | omega) | ((repeat' split) <;> first | rfl | (exfalso; omega) | omega)), rfl⟩)
set_option maxHeartbeats 1000000 in
theorem dk_abstractHolds {g : xe_G} {M : mi_H} {f : Nat → Int32} {n N q : Nat} {E : List (Nat × Nat)} {o c b da vd ac fr mr fa ic mj na pa : Nat} {mi ru wa k1 k2 k3 k4 k5 k6 k7 : Int32} {a b0 : Nat} {kn co ap ex : Int32} {cd : Value} (h_o : M.1 o = some (ob 2 [.ref c, .ref b, .ref q, .ref vd, .ref ac])) (h_c : M.1 c = some (ob 3 [.ref b, .ref q, .int mi, .int (nI mj), .int (nI fa), .int (nI ic), .ref fr, .ref mr, .int (nI na), .int (nI pa), .int k1, .int k2, .int k3, .int k4, .int k5, .int k6, .int k7])) (h_b : M.1 b = some (ob 1 [.ref da])) (h_da : M.1 da = some (ar .byte n f)) (h_a : M.1 a = some (ob 6 [.int (nI b0), .int (nI (by2 f b0)), .int (nI (by2 f (b0 + 2))), .int (nI (by2 f (b0 + 4))), .int (nI (by2 f (b0 + 6))), .int (nI (b0 + 8)), .int kn, .int co, .int ap, .int ex, cd])) (hn : n ≤ 65540) (hmj : mj < 65536) (hfa : fa + 8 ≤ n) (hV : PV g f n N E q M) : pt (mT g) 52 [.ref o, .ref a] M (fun v M' => (v = some (.int (nI (absN mj (by2 f b0)))) ∧ M = M')) := by
  refine pt_in (b := mb_52 g) rfl (fun kf => ?_)
  show pl (mT g) kf (mb_52 g).2 (0, [(0, .ref o), (1, .ref a)], [], M) _
  have hu9 := by2_lt f b0
  have ha_x : ∀ m, aN (by2 f b0) m < 65536 := fun m => Nat.lt_of_le_of_lt Nat.and_le_left hu9
  refine ps_st (S' := (1, [(0, .ref o), (1, .ref a)], [.ref a], M)) rfl rfl rfl ?_
  refine ps_st (S' := (4, [(0, .ref o), (1, .ref a)], [.int 314, .ref a], M)) rfl rfl rfl ?_
  refine pl_call (a := [.ref a, .int 314]) (rest := []) rfl rfl rfl (dk_mhas (f := f) (a := a) (b0 := b0) (kn := kn) (co := co) (ap := ap) (ex := ex) (cd := cd) (x := 314) h_a) (fun v1 M2 q3 => ?_)
  obtain ⟨rfl, rfl⟩ := q3
  show pl _ _ _ (7, [(0, .ref o), (1, .ref a)], [.int (nI (hasN (by2 f b0) 314))], M) _
  refine ps_if (S1 := (12, [(0, .ref o), (1, .ref a)], [], M)) (S2 := (10, [(0, .ref o), (1, .ref a)], [], M)) rfl rfl rfl (fun c_7 => ?_) (fun c_7 => ?_)
  · have c_7 : (nI (hasN (by2 f b0) 314)) = 0 := of_decide_eq_true c_7
    have n_7 : hasN (by2 f b0) 314 = 0 := (eq_nI (p := hasN (by2 f b0) 314) (n := 0) (Nat.lt_trans (le1_has _ _) (by decide)) (by decide)).mp c_7
    refine ps_st (S' := (13, [(0, .ref o), (1, .ref a)], [.ref o], M)) rfl rfl rfl ?_
    refine ps_get (S' := (16, [(0, .ref o), (1, .ref a)], [.ref c], M)) rfl h_o rfl rfl ?_
    refine ps_get (S' := (19, [(0, .ref o), (1, .ref a)], [.int (nI mj)], M)) rfl h_c rfl rfl ?_
    refine ps_st (S' := (21, [(0, .ref o), (1, .ref a)], [.int 46, .int (nI mj)], M)) rfl rfl rfl ?_
    refine ps_if2 (S1 := (46, [], [], M)) (S2 := (24, [(0, .ref o), (1, .ref a)], [], M)) rfl rfl rfl (fun c_21 => ?_) (fun c_21 => ?_)
    · have c_21 : (nI mj) < 46 := of_decide_eq_true c_21
      have n_21 : mj < 46 := (lt_nI (p := mj) (n := 46) (by omega) (by decide)).mp c_21
      refine ps_st (S' := (47, [], [.int 1], M)) rfl rfl rfl ?_
      refine ps_st (S' := (51, [], [.int 1], M)) rfl rfl rfl ?_
      exact ps_ret rfl rfl (⟨congrArg (fun x => some (Value.int (nI x))) (show 1 = absN mj (by2 f b0) from by
          unfold absN
          first | ((repeat first | rw [if_pos (by omega)] | rw [if_neg (by omega)]) <;> first | rfl | omega) | ((repeat' split) <;> first | rfl | (exfalso; omega) | omega)), rfl⟩)
    · have c_21 : ¬ ((nI mj) < 46) := of_decide_eq_false c_21
      have n_21 : ¬ (mj < 46) := fun h9 => c_21 ((lt_nI (p := mj) (n := 46) (by omega) (by decide)).mpr h9)
      refine ps_st (S' := (25, [(0, .ref o), (1, .ref a)], [.ref o], M)) rfl rfl rfl ?_
      refine ps_get (S' := (28, [(0, .ref o), (1, .ref a)], [.ref c], M)) rfl h_o rfl rfl ?_
      refine ps_get (S' := (31, [(0, .ref o), (1, .ref a)], [.int (nI mj)], M)) rfl h_c rfl rfl ?_
      refine ps_st (S' := (33, [(0, .ref o), (1, .ref a)], [.int 60, .int (nI mj)], M)) rfl rfl rfl ?_
      refine ps_if2 (S1 := (46, [], [], M)) (S2 := (36, [(0, .ref o), (1, .ref a)], [], M)) rfl rfl rfl (fun c_33 => ?_) (fun c_33 => ?_)
      · have c_33 : 60 < (nI mj) := of_decide_eq_true c_33
        have n_33 : 60 < mj := (lt_nI (p := 60) (n := mj) (by decide) (by omega)).mp c_33
        refine ps_st (S' := (47, [], [.int 1], M)) rfl rfl rfl ?_
        refine ps_st (S' := (51, [], [.int 1], M)) rfl rfl rfl ?_
        exact ps_ret rfl rfl (⟨congrArg (fun x => some (Value.int (nI x))) (show 1 = absN mj (by2 f b0) from by
            unfold absN
            first | ((repeat first | rw [if_pos (by omega)] | rw [if_neg (by omega)]) <;> first | rfl | omega) | ((repeat' split) <;> first | rfl | (exfalso; omega) | omega)), rfl⟩)
      · have c_33 : ¬ (60 < (nI mj)) := of_decide_eq_false c_33
        have n_33 : ¬ (60 < mj) := fun h9 => c_33 ((lt_nI (p := 60) (n := mj) (by decide) (by omega)).mpr h9)
        refine ps_st (S' := (37, [(0, .ref o), (1, .ref a)], [.ref a], M)) rfl rfl rfl ?_
        refine ps_st (S' := (40, [(0, .ref o), (1, .ref a)], [.int 2048, .ref a], M)) rfl rfl rfl ?_
        refine pl_call (a := [.ref a, .int 2048]) (rest := []) rfl rfl rfl (dk_mhas (f := f) (a := a) (b0 := b0) (kn := kn) (co := co) (ap := ap) (ex := ex) (cd := cd) (x := 2048) h_a) (fun v4 M5 q6 => ?_)
        obtain ⟨rfl, rfl⟩ := q6
        show pl _ _ _ (43, [(0, .ref o), (1, .ref a)], [.int (nI (hasN (by2 f b0) 2048))], M) _
        refine ps_if (S1 := (50, [(0, .ref o), (1, .ref a)], [], M)) (S2 := (46, [], [], M)) rfl rfl rfl (fun c_43 => ?_) (fun c_43 => ?_)
        · have c_43 : ¬ (nI (hasN (by2 f b0) 2048)) = 0 := of_decide_eq_true c_43
          have n_43 : ¬ (hasN (by2 f b0) 2048 = 0) := fun h9 => c_43 ((eq_nI (p := hasN (by2 f b0) 2048) (n := 0) (Nat.lt_trans (le1_has _ _) (by decide)) (by decide)).mpr h9)
          refine ps_st (S' := (51, [], [.int 0], M)) rfl rfl rfl ?_
          exact ps_ret rfl rfl (⟨congrArg (fun x => some (Value.int (nI x))) (show 0 = absN mj (by2 f b0) from by
              unfold absN
              first | ((repeat first | rw [if_pos (by omega)] | rw [if_neg (by omega)]) <;> first | rfl | omega) | ((repeat' split) <;> first | rfl | (exfalso; omega) | omega)), rfl⟩)
        · have c_43 : ¬ (¬ (nI (hasN (by2 f b0) 2048)) = 0) := of_decide_eq_false c_43
          have n_43 : hasN (by2 f b0) 2048 = 0 := (eq_nI (p := hasN (by2 f b0) 2048) (n := 0) (Nat.lt_trans (le1_has _ _) (by decide)) (by decide)).mp (Decidable.not_not.mp c_43)
          refine ps_st (S' := (47, [], [.int 1], M)) rfl rfl rfl ?_
          refine ps_st (S' := (51, [], [.int 1], M)) rfl rfl rfl ?_
          exact ps_ret rfl rfl (⟨congrArg (fun x => some (Value.int (nI x))) (show 1 = absN mj (by2 f b0) from by
              unfold absN
              first | ((repeat first | rw [if_pos (by omega)] | rw [if_neg (by omega)]) <;> first | rfl | omega) | ((repeat' split) <;> first | rfl | (exfalso; omega) | omega)), rfl⟩)
  · have c_7 : ¬ ((nI (hasN (by2 f b0) 314)) = 0) := of_decide_eq_false c_7
    have n_7 : ¬ (hasN (by2 f b0) 314 = 0) := fun h9 => c_7 ((eq_nI (p := hasN (by2 f b0) 314) (n := 0) (Nat.lt_trans (le1_has _ _) (by decide)) (by decide)).mpr h9)
    refine ps_st (S' := (11, [(0, .ref o), (1, .ref a)], [.int 0], M)) rfl rfl rfl ?_
    exact ps_ret rfl rfl (⟨congrArg (fun x => some (Value.int (nI x))) (show 0 = absN mj (by2 f b0) from by
        unfold absN
        first | ((repeat first | rw [if_pos (by omega)] | rw [if_neg (by omega)]) <;> first | rfl | omega) | ((repeat' split) <;> first | rfl | (exfalso; omega) | omega)), rfl⟩)
set_option maxHeartbeats 1000000 in
theorem dk_interfaceMethodHolds {g : xe_G} {M : mi_H} {f : Nat → Int32} {n N q : Nat} {E : List (Nat × Nat)} {o c b da vd ac fr mr fa ic mj na pa : Nat} {mi ru wa k1 k2 k3 k4 k5 k6 k7 : Int32} {a b0 : Nat} {kn co ap ex : Int32} {cd : Value} (h_o : M.1 o = some (ob 2 [.ref c, .ref b, .ref q, .ref vd, .ref ac])) (h_c : M.1 c = some (ob 3 [.ref b, .ref q, .int mi, .int (nI mj), .int (nI fa), .int (nI ic), .ref fr, .ref mr, .int (nI na), .int (nI pa), .int k1, .int k2, .int k3, .int k4, .int k5, .int k6, .int k7])) (h_b : M.1 b = some (ob 1 [.ref da])) (h_da : M.1 da = some (ar .byte n f)) (h_a : M.1 a = some (ob 6 [.int (nI b0), .int (nI (by2 f b0)), .int (nI (by2 f (b0 + 2))), .int (nI (by2 f (b0 + 4))), .int (nI (by2 f (b0 + 6))), .int (nI (b0 + 8)), .int kn, .int co, .int ap, .int ex, cd])) (hn : n ≤ 65540) (hmj : mj < 65536) (hfa : fa + 8 ≤ n) (hV : PV g f n N E q M) : pt (mT g) 61 [.ref o, .ref a] M (fun v M' => (v = some (.int (nI (imhN mj (by2 f b0)))) ∧ M = M')) := by
  refine pt_in (b := mb_61 g) rfl (fun kf => ?_)
  show pl (mT g) kf (mb_61 g).2 (0, [(0, .ref o), (1, .ref a)], [], M) _
  have hu9 := by2_lt f b0
  have ha_x : ∀ m, aN (by2 f b0) m < 65536 := fun m => Nat.lt_of_le_of_lt Nat.and_le_left hu9
  refine ps_st (S' := (1, [(0, .ref o), (1, .ref a)], [.ref a], M)) rfl rfl rfl ?_
  refine ps_st (S' := (4, [(0, .ref o), (1, .ref a)], [.int 308, .ref a], M)) rfl rfl rfl ?_
  refine pl_call (a := [.ref a, .int 308]) (rest := []) rfl rfl rfl (dk_mhas (f := f) (a := a) (b0 := b0) (kn := kn) (co := co) (ap := ap) (ex := ex) (cd := cd) (x := 308) h_a) (fun v1 M2 q3 => ?_)
  obtain ⟨rfl, rfl⟩ := q3
  show pl _ _ _ (7, [(0, .ref o), (1, .ref a)], [.int (nI (hasN (by2 f b0) 308))], M) _
  refine ps_if (S1 := (12, [(0, .ref o), (1, .ref a)], [], M)) (S2 := (10, [(0, .ref o), (1, .ref a)], [], M)) rfl rfl rfl (fun c_7 => ?_) (fun c_7 => ?_)
  · have c_7 : (nI (hasN (by2 f b0) 308)) = 0 := of_decide_eq_true c_7
    have n_7 : hasN (by2 f b0) 308 = 0 := (eq_nI (p := hasN (by2 f b0) 308) (n := 0) (Nat.lt_trans (le1_has _ _) (by decide)) (by decide)).mp c_7
    refine ps_st (S' := (13, [(0, .ref o), (1, .ref a)], [.ref o], M)) rfl rfl rfl ?_
    refine ps_get (S' := (16, [(0, .ref o), (1, .ref a)], [.ref c], M)) rfl h_o rfl rfl ?_
    refine ps_get (S' := (19, [(0, .ref o), (1, .ref a)], [.int (nI mj)], M)) rfl h_c rfl rfl ?_
    refine ps_st (S' := (21, [(0, .ref o), (1, .ref a)], [.int 52, .int (nI mj)], M)) rfl rfl rfl ?_
    refine ps_if2 (S1 := (52, [(0, .ref o), (1, .ref a)], [], M)) (S2 := (24, [(0, .ref o), (1, .ref a)], [], M)) rfl rfl rfl (fun c_21 => ?_) (fun c_21 => ?_)
    · have c_21 : 52 ≤ (nI mj) := of_decide_eq_true c_21
      have n_21 : 52 ≤ mj := (le_nI (p := 52) (n := mj) (by decide) (by omega)).mp c_21
      refine ps_st (S' := (53, [(0, .ref o), (1, .ref a)], [.ref a], M)) rfl rfl rfl ?_
      refine ps_st (S' := (54, [(0, .ref o), (1, .ref a)], [.int 1, .ref a], M)) rfl rfl rfl ?_
      refine pl_call (a := [.ref a, .int 1]) (rest := []) rfl rfl rfl (dk_mhas (f := f) (a := a) (b0 := b0) (kn := kn) (co := co) (ap := ap) (ex := ex) (cd := cd) (x := 1) h_a) (fun v4 M5 q6 => ?_)
      obtain ⟨rfl, rfl⟩ := q6
      show pl _ _ _ (57, [(0, .ref o), (1, .ref a)], [.int (nI (hasN (by2 f b0) 1))], M) _
      refine ps_st (S' := (58, [(0, .ref o), (1, .ref a)], [.ref a, .int (nI (hasN (by2 f b0) 1))], M)) rfl rfl rfl ?_
      refine ps_st (S' := (59, [(0, .ref o), (1, .ref a)], [.int 2, .ref a, .int (nI (hasN (by2 f b0) 1))], M)) rfl rfl rfl ?_
      refine pl_call (a := [.ref a, .int 2]) (rest := [.int (nI (hasN (by2 f b0) 1))]) rfl rfl rfl (dk_mhas (f := f) (a := a) (b0 := b0) (kn := kn) (co := co) (ap := ap) (ex := ex) (cd := cd) (x := 2) h_a) (fun v7 M8 q9 => ?_)
      obtain ⟨rfl, rfl⟩ := q9
      show pl _ _ _ (62, [(0, .ref o), (1, .ref a)], [.int (nI (hasN (by2 f b0) 2)), .int (nI (hasN (by2 f b0) 1))], M) _
      refine ps_if2 (S1 := (69, [(0, .ref o), (1, .ref a)], [], M)) (S2 := (65, [(0, .ref o), (1, .ref a)], [], M)) rfl rfl rfl (fun c_62 => ?_) (fun c_62 => ?_)
      · have c_62 : (nI (hasN (by2 f b0) 1)) = (nI (hasN (by2 f b0) 2)) := of_decide_eq_true c_62
        have n_62 : hasN (by2 f b0) 1 = hasN (by2 f b0) 2 := (eq_nI (p := hasN (by2 f b0) 1) (n := hasN (by2 f b0) 2) (Nat.lt_trans (le1_has _ _) (by decide)) (Nat.lt_trans (le1_has _ _) (by decide))).mp c_62
        refine ps_st (S' := (70, [], [.int 0], M)) rfl rfl rfl ?_
        exact ps_ret rfl rfl (⟨congrArg (fun x => some (Value.int (nI x))) (show 0 = imhN mj (by2 f b0) from by
            unfold imhN
            first | ((repeat first | rw [if_pos (by omega)] | rw [if_neg (by omega)]) <;> first | rfl | omega) | ((repeat' split) <;> first | rfl | (exfalso; omega) | omega)), rfl⟩)
      · have c_62 : ¬ ((nI (hasN (by2 f b0) 1)) = (nI (hasN (by2 f b0) 2))) := of_decide_eq_false c_62
        have n_62 : ¬ (hasN (by2 f b0) 1 = hasN (by2 f b0) 2) := fun h9 => c_62 ((eq_nI (p := hasN (by2 f b0) 1) (n := hasN (by2 f b0) 2) (Nat.lt_trans (le1_has _ _) (by decide)) (Nat.lt_trans (le1_has _ _) (by decide))).mpr h9)
        refine ps_st (S' := (66, [(0, .ref o), (1, .ref a)], [.int 1], M)) rfl rfl rfl ?_
        refine ps_st (S' := (70, [], [.int 1], M)) rfl rfl rfl ?_
        exact ps_ret rfl rfl (⟨congrArg (fun x => some (Value.int (nI x))) (show 1 = imhN mj (by2 f b0) from by
            unfold imhN
            first | ((repeat first | rw [if_pos (by omega)] | rw [if_neg (by omega)]) <;> first | rfl | omega) | ((repeat' split) <;> first | rfl | (exfalso; omega) | omega)), rfl⟩)
    · have c_21 : ¬ (52 ≤ (nI mj)) := of_decide_eq_false c_21
      have n_21 : ¬ (52 ≤ mj) := fun h9 => c_21 ((le_nI (p := 52) (n := mj) (by decide) (by omega)).mpr h9)
      refine ps_st (S' := (25, [(0, .ref o), (1, .ref a)], [.ref a], M)) rfl rfl rfl ?_
      refine ps_get (S' := (28, [(0, .ref o), (1, .ref a)], [.int (nI (by2 f b0))], M)) rfl h_a rfl rfl ?_
      refine ps_st (S' := (31, [(0, .ref o), (1, .ref a)], [.int 1025, .int (nI (by2 f b0))], M)) rfl rfl rfl ?_
      refine pl_call (a := [.int (nI (by2 f b0)), .int 1025]) (rest := []) rfl rfl rfl (dk_hasAll (x := (by2 f b0)) (w := 1025) (by2_lt _ _) (by decide)) (fun v10 M11 q12 => ?_)
      obtain ⟨rfl, rfl⟩ := q12
      show pl _ _ _ (34, [(0, .ref o), (1, .ref a)], [.int (nI (hallN (by2 f b0) 1025))], M) _
      refine ps_if (S1 := (50, [], [], M)) (S2 := (37, [(0, .ref o), (1, .ref a)], [], M)) rfl rfl rfl (fun c_34 => ?_) (fun c_34 => ?_)
      · have c_34 : (nI (hallN (by2 f b0) 1025)) = 0 := of_decide_eq_true c_34
        have n_34 : hallN (by2 f b0) 1025 = 0 := (eq_nI (p := hallN (by2 f b0) 1025) (n := 0) (Nat.lt_trans (le1_hall _ _) (by decide)) (by decide)).mp c_34
        refine ps_st (S' := (51, [], [.int 0], M)) rfl rfl rfl ?_
        exact ps_ret rfl rfl (⟨congrArg (fun x => some (Value.int (nI x))) (show 0 = imhN mj (by2 f b0) from by
            unfold imhN
            first | ((repeat first | rw [if_pos (by omega)] | rw [if_neg (by omega)]) <;> first | rfl | omega) | ((repeat' split) <;> first | rfl | (exfalso; omega) | omega)), rfl⟩)
      · have c_34 : ¬ ((nI (hallN (by2 f b0) 1025)) = 0) := of_decide_eq_false c_34
        have n_34 : ¬ (hallN (by2 f b0) 1025 = 0) := fun h9 => c_34 ((eq_nI (p := hallN (by2 f b0) 1025) (n := 0) (Nat.lt_trans (le1_hall _ _) (by decide)) (by decide)).mpr h9)
        refine ps_st (S' := (38, [(0, .ref o), (1, .ref a)], [.ref a], M)) rfl rfl rfl ?_
        refine ps_st (S' := (40, [(0, .ref o), (1, .ref a)], [.int 8, .ref a], M)) rfl rfl rfl ?_
        refine pl_call (a := [.ref a, .int 8]) (rest := []) rfl rfl rfl (dk_mhas (f := f) (a := a) (b0 := b0) (kn := kn) (co := co) (ap := ap) (ex := ex) (cd := cd) (x := 8) h_a) (fun v13 M14 q15 => ?_)
        obtain ⟨rfl, rfl⟩ := q15
        show pl _ _ _ (43, [(0, .ref o), (1, .ref a)], [.int (nI (hasN (by2 f b0) 8))], M) _
        refine ps_if (S1 := (50, [], [], M)) (S2 := (46, [(0, .ref o), (1, .ref a)], [], M)) rfl rfl rfl (fun c_43 => ?_) (fun c_43 => ?_)
        · have c_43 : ¬ (nI (hasN (by2 f b0) 8)) = 0 := of_decide_eq_true c_43
          have n_43 : ¬ (hasN (by2 f b0) 8 = 0) := fun h9 => c_43 ((eq_nI (p := hasN (by2 f b0) 8) (n := 0) (Nat.lt_trans (le1_has _ _) (by decide)) (by decide)).mpr h9)
          refine ps_st (S' := (51, [], [.int 0], M)) rfl rfl rfl ?_
          exact ps_ret rfl rfl (⟨congrArg (fun x => some (Value.int (nI x))) (show 0 = imhN mj (by2 f b0) from by
              unfold imhN
              first | ((repeat first | rw [if_pos (by omega)] | rw [if_neg (by omega)]) <;> first | rfl | omega) | ((repeat' split) <;> first | rfl | (exfalso; omega) | omega)), rfl⟩)
        · have c_43 : ¬ (¬ (nI (hasN (by2 f b0) 8)) = 0) := of_decide_eq_false c_43
          have n_43 : hasN (by2 f b0) 8 = 0 := (eq_nI (p := hasN (by2 f b0) 8) (n := 0) (Nat.lt_trans (le1_has _ _) (by decide)) (by decide)).mp (Decidable.not_not.mp c_43)
          refine ps_st (S' := (47, [(0, .ref o), (1, .ref a)], [.int 1], M)) rfl rfl rfl ?_
          refine ps_st (S' := (51, [], [.int 1], M)) rfl rfl rfl ?_
          exact ps_ret rfl rfl (⟨congrArg (fun x => some (Value.int (nI x))) (show 1 = imhN mj (by2 f b0) from by
              unfold imhN
              first | ((repeat first | rw [if_pos (by omega)] | rw [if_neg (by omega)]) <;> first | rfl | omega) | ((repeat' split) <;> first | rfl | (exfalso; omega) | omega)), rfl⟩)
  · have c_7 : ¬ ((nI (hasN (by2 f b0) 308)) = 0) := of_decide_eq_false c_7
    have n_7 : ¬ (hasN (by2 f b0) 308 = 0) := fun h9 => c_7 ((eq_nI (p := hasN (by2 f b0) 308) (n := 0) (Nat.lt_trans (le1_has _ _) (by decide)) (by decide)).mpr h9)
    refine ps_st (S' := (11, [(0, .ref o), (1, .ref a)], [.int 0], M)) rfl rfl rfl ?_
    exact ps_ret rfl rfl (⟨congrArg (fun x => some (Value.int (nI x))) (show 0 = imhN mj (by2 f b0) from by
        unfold imhN
        first | ((repeat first | rw [if_pos (by omega)] | rw [if_neg (by omega)]) <;> first | rfl | omega) | ((repeat' split) <;> first | rfl | (exfalso; omega) | omega)), rfl⟩)
set_option maxHeartbeats 1000000 in
theorem dk_methodFlagsHold {g : xe_G} {M : mi_H} {f : Nat → Int32} {n N q : Nat} {E : List (Nat × Nat)} {o c b da vd ac fr mr fa ic mj na pa : Nat} {mi ru wa k1 k2 k3 k4 k5 k6 k7 : Int32} {a b0 : Nat} {kn co ap ex : Int32} {cd : Value} (h_o : M.1 o = some (ob 2 [.ref c, .ref b, .ref q, .ref vd, .ref ac])) (h_c : M.1 c = some (ob 3 [.ref b, .ref q, .int mi, .int (nI mj), .int (nI fa), .int (nI ic), .ref fr, .ref mr, .int (nI na), .int (nI pa), .int k1, .int k2, .int k3, .int k4, .int k5, .int k6, .int k7])) (h_b : M.1 b = some (ob 1 [.ref da])) (h_da : M.1 da = some (ar .byte n f)) (h_a : M.1 a = some (ob 6 [.int (nI b0), .int (nI (by2 f b0)), .int (nI (by2 f (b0 + 2))), .int (nI (by2 f (b0 + 4))), .int (nI (by2 f (b0 + 6))), .int (nI (b0 + 8)), .int kn, .int co, .int ap, .int ex, cd])) (hn : n ≤ 65540) (hmj : mj < 65536) (hfa : fa + 8 ≤ n) (hV : PV g f n N E q M) : pt (mT g) 64 [.ref o, .ref a] M (fun v M' => (v = some (.int (nI (mflN f n E (by2 f fa) mj (by2 f b0) (by2 f (b0 + 2))))) ∧ M = M')) := by
  refine pt_in (b := mb_64 g) rfl (fun kf => ?_)
  show pl (mT g) kf (mb_64 g).2 (0, [(0, .ref o), (1, .ref a)], [], M) _
  have hu9 := by2_lt f b0
  have ha_x : ∀ m, aN (by2 f b0) m < 65536 := fun m => Nat.lt_of_le_of_lt Nat.and_le_left hu9
  refine ps_st (S' := (1, [(0, .ref o), (1, .ref a)], [.ref o], M)) rfl rfl rfl ?_
  refine ps_get (S' := (4, [(0, .ref o), (1, .ref a)], [.ref q], M)) rfl h_o rfl rfl ?_
  refine ps_st (S' := (5, [(0, .ref o), (1, .ref a)], [.ref a, .ref q], M)) rfl rfl rfl ?_
  refine ps_get (S' := (8, [(0, .ref o), (1, .ref a)], [.int (nI (by2 f (b0 + 2))), .ref q], M)) rfl h_a rfl rfl ?_
  refine ps_st (S' := (10, [(0, .ref o), (1, .ref a)], [.ref (g.2.1 13), .int (nI (by2 f (b0 + 2))), .ref q], M)) rfl rfl rfl ?_
  refine pl_call (a := [.ref q, .int (nI (by2 f (b0 + 2))), .ref (g.2.1 13)]) (rest := []) rfl rfl rfl (dy_textIs (f := f) (n := n) (N := N) (q := q) (E := E) (j := (by2 f (b0 + 2))) (k := 13) (hV) (by2_lt _ _) (by decide)) (fun v1 M2 q3 => ?_)
  obtain ⟨rfl, rfl⟩ := q3
  show pl _ _ _ (13, [(0, .ref o), (1, .ref a)], [.int (nI (eqN (tX f n E (by2 f (b0 + 2))) (ltx 13)))], M) _
  refine ps_if (S1 := (18, [(0, .ref o), (1, .ref a)], [], M)) (S2 := (16, [(0, .ref o), (1, .ref a)], [], M)) rfl rfl rfl (fun c_13 => ?_) (fun c_13 => ?_)
  · have c_13 : (nI (eqN (tX f n E (by2 f (b0 + 2))) (ltx 13))) = 0 := of_decide_eq_true c_13
    have n_13 : eqN (tX f n E (by2 f (b0 + 2))) (ltx 13) = 0 := (eq_nI (p := eqN (tX f n E (by2 f (b0 + 2))) (ltx 13)) (n := 0) (Nat.lt_trans (le1_eq _ _) (by decide)) (by decide)).mp c_13
    refine ps_st (S' := (19, [(0, .ref o), (1, .ref a)], [.ref o], M)) rfl rfl rfl ?_
    refine ps_get (S' := (22, [(0, .ref o), (1, .ref a)], [.ref q], M)) rfl h_o rfl rfl ?_
    refine ps_st (S' := (23, [(0, .ref o), (1, .ref a)], [.ref a, .ref q], M)) rfl rfl rfl ?_
    refine ps_get (S' := (26, [(0, .ref o), (1, .ref a)], [.int (nI (by2 f (b0 + 2))), .ref q], M)) rfl h_a rfl rfl ?_
    refine ps_st (S' := (28, [(0, .ref o), (1, .ref a)], [.ref (g.2.1 12), .int (nI (by2 f (b0 + 2))), .ref q], M)) rfl rfl rfl ?_
    refine pl_call (a := [.ref q, .int (nI (by2 f (b0 + 2))), .ref (g.2.1 12)]) (rest := []) rfl rfl rfl (dy_textIs (f := f) (n := n) (N := N) (q := q) (E := E) (j := (by2 f (b0 + 2))) (k := 12) (hV) (by2_lt _ _) (by decide)) (fun v4 M5 q6 => ?_)
    obtain ⟨rfl, rfl⟩ := q6
    show pl _ _ _ (31, [(0, .ref o), (1, .ref a)], [.int (nI (eqN (tX f n E (by2 f (b0 + 2))) (ltx 12)))], M) _
    refine ps_if (S1 := (62, [(0, .ref o), (1, .ref a)], [], M)) (S2 := (34, [(0, .ref o), (1, .ref a)], [], M)) rfl rfl rfl (fun c_31 => ?_) (fun c_31 => ?_)
    · have c_31 : (nI (eqN (tX f n E (by2 f (b0 + 2))) (ltx 12))) = 0 := of_decide_eq_true c_31
      have n_31 : eqN (tX f n E (by2 f (b0 + 2))) (ltx 12) = 0 := (eq_nI (p := eqN (tX f n E (by2 f (b0 + 2))) (ltx 12)) (n := 0) (Nat.lt_trans (le1_eq _ _) (by decide)) (by decide)).mp c_31
      refine ps_st (S' := (63, [(0, .ref o), (1, .ref a)], [.ref a], M)) rfl rfl rfl ?_
      refine ps_st (S' := (66, [(0, .ref o), (1, .ref a)], [.int 1024, .ref a], M)) rfl rfl rfl ?_
      refine pl_call (a := [.ref a, .int 1024]) (rest := []) rfl rfl rfl (dk_mhas (f := f) (a := a) (b0 := b0) (kn := kn) (co := co) (ap := ap) (ex := ex) (cd := cd) (x := 1024) h_a) (fun v7 M8 q9 => ?_)
      obtain ⟨rfl, rfl⟩ := q9
      show pl _ _ _ (69, [(0, .ref o), (1, .ref a)], [.int (nI (hasN (by2 f b0) 1024))], M) _
      refine ps_if (S1 := (82, [(0, .ref o), (1, .ref a)], [], M)) (S2 := (72, [(0, .ref o), (1, .ref a)], [], M)) rfl rfl rfl (fun c_69 => ?_) (fun c_69 => ?_)
      · have c_69 : (nI (hasN (by2 f b0) 1024)) = 0 := of_decide_eq_true c_69
        have n_69 : hasN (by2 f b0) 1024 = 0 := (eq_nI (p := hasN (by2 f b0) 1024) (n := 0) (Nat.lt_trans (le1_has _ _) (by decide)) (by decide)).mp c_69
        refine ps_st (S' := (83, [(0, .ref o), (1, .ref a)], [.ref o], M)) rfl rfl rfl ?_
        refine ps_get (S' := (86, [(0, .ref o), (1, .ref a)], [.ref c], M)) rfl h_o rfl rfl ?_
        refine ps_st (S' := (89, [(0, .ref o), (1, .ref a)], [.int 512, .ref c], M)) rfl rfl rfl ?_
        refine pl_call (a := [.ref c, .int 512]) (rest := []) rfl rfl rfl (dk_fhas (f := f) (n := n) (q := q) (c := c) (b := b) (da := da) (fr := fr) (mr := mr) (fa := fa) (ic := ic) (mj := mj) (na := na) (pa := pa) (mi := mi) (k1 := k1) (k2 := k2) (k3 := k3) (k4 := k4) (k5 := k5) (k6 := k6) (k7 := k7) (x := 512) h_c h_b h_da (hn) (hfa)) (fun v10 M11 q12 => ?_)
        obtain ⟨rfl, rfl⟩ := q12
        show pl _ _ _ (92, [(0, .ref o), (1, .ref a)], [.int (nI (hasN (by2 f fa) 512))], M) _
        refine ps_if (S1 := (103, [(0, .ref o), (1, .ref a)], [], M)) (S2 := (95, [(0, .ref o), (1, .ref a)], [], M)) rfl rfl rfl (fun c_92 => ?_) (fun c_92 => ?_)
        · have c_92 : (nI (hasN (by2 f fa) 512)) = 0 := of_decide_eq_true c_92
          have n_92 : hasN (by2 f fa) 512 = 0 := (eq_nI (p := hasN (by2 f fa) 512) (n := 0) (Nat.lt_trans (le1_has _ _) (by decide)) (by decide)).mp c_92
          refine ps_st (S' := (104, [(0, .ref o), (1, .ref a)], [.ref a], M)) rfl rfl rfl ?_
          refine ps_get (S' := (107, [(0, .ref o), (1, .ref a)], [.int (nI (by2 f b0))], M)) rfl h_a rfl rfl ?_
          refine pl_call (a := [.int (nI (by2 f b0))]) (rest := []) rfl rfl rfl (dk_hasOneAccessAtMost (x := (by2 f b0)) (by2_lt _ _)) (fun v13 M14 q15 => ?_)
          obtain ⟨rfl, rfl⟩ := q15
          show pl _ _ _ (110, [], [.int (nI (oneN (by2 f b0)))], M) _
          exact ps_reti rfl (⟨congrArg (fun x => some (Value.int (nI x))) (show oneN (by2 f b0) = mflN f n E (by2 f fa) mj (by2 f b0) (by2 f (b0 + 2)) from by
              unfold mflN
              first | ((repeat first | rw [if_pos (by omega)] | rw [if_neg (by omega)]) <;> first | rfl | omega) | ((repeat' split) <;> first | rfl | (exfalso; omega) | omega)), rfl⟩)
        · have c_92 : ¬ ((nI (hasN (by2 f fa) 512)) = 0) := of_decide_eq_false c_92
          have n_92 : ¬ (hasN (by2 f fa) 512 = 0) := fun h9 => c_92 ((eq_nI (p := hasN (by2 f fa) 512) (n := 0) (Nat.lt_trans (le1_has _ _) (by decide)) (by decide)).mpr h9)
          refine ps_st (S' := (96, [(0, .ref o), (1, .ref a)], [.ref o], M)) rfl rfl rfl ?_
          refine ps_st (S' := (97, [(0, .ref o), (1, .ref a)], [.ref a, .ref o], M)) rfl rfl rfl ?_
          refine pl_call (a := [.ref o, .ref a]) (rest := []) rfl rfl rfl (dk_interfaceMethodHolds (f := f) (n := n) (N := N) (q := q) (E := E) (o := o) (c := c) (b := b) (da := da) (vd := vd) (ac := ac) (fr := fr) (mr := mr) (fa := fa) (ic := ic) (mj := mj) (na := na) (pa := pa) (mi := mi) (ru := ru) (wa := wa) (k1 := k1) (k2 := k2) (k3 := k3) (k4 := k4) (k5 := k5) (k6 := k6) (k7 := k7) (a := a) (b0 := b0) (kn := kn) (co := co) (ap := ap) (ex := ex) (cd := cd) h_o h_c h_b h_da h_a (hn) (hmj) (hfa) (hV)) (fun v16 M17 q18 => ?_)
          obtain ⟨rfl, rfl⟩ := q18
          show pl _ _ _ (100, [(0, .ref o), (1, .ref a)], [.int (nI (imhN mj (by2 f b0)))], M) _
          refine ps_st (S' := (110, [], [.int (nI (imhN mj (by2 f b0)))], M)) rfl rfl rfl ?_
          exact ps_reti rfl (⟨congrArg (fun x => some (Value.int (nI x))) (show imhN mj (by2 f b0) = mflN f n E (by2 f fa) mj (by2 f b0) (by2 f (b0 + 2)) from by
              unfold mflN
              first | ((repeat first | rw [if_pos (by omega)] | rw [if_neg (by omega)]) <;> first | rfl | omega) | ((repeat' split) <;> first | rfl | (exfalso; omega) | omega)), rfl⟩)
      · have c_69 : ¬ ((nI (hasN (by2 f b0) 1024)) = 0) := of_decide_eq_false c_69
        have n_69 : ¬ (hasN (by2 f b0) 1024 = 0) := fun h9 => c_69 ((eq_nI (p := hasN (by2 f b0) 1024) (n := 0) (Nat.lt_trans (le1_has _ _) (by decide)) (by decide)).mpr h9)
        refine ps_st (S' := (73, [(0, .ref o), (1, .ref a)], [.ref o], M)) rfl rfl rfl ?_
        refine ps_st (S' := (74, [(0, .ref o), (1, .ref a)], [.ref a, .ref o], M)) rfl rfl rfl ?_
        refine pl_call (a := [.ref o, .ref a]) (rest := []) rfl rfl rfl (dk_abstractHolds (f := f) (n := n) (N := N) (q := q) (E := E) (o := o) (c := c) (b := b) (da := da) (vd := vd) (ac := ac) (fr := fr) (mr := mr) (fa := fa) (ic := ic) (mj := mj) (na := na) (pa := pa) (mi := mi) (ru := ru) (wa := wa) (k1 := k1) (k2 := k2) (k3 := k3) (k4 := k4) (k5 := k5) (k6 := k6) (k7 := k7) (a := a) (b0 := b0) (kn := kn) (co := co) (ap := ap) (ex := ex) (cd := cd) h_o h_c h_b h_da h_a (hn) (hmj) (hfa) (hV)) (fun v19 M20 q21 => ?_)
        obtain ⟨rfl, rfl⟩ := q21
        show pl _ _ _ (77, [(0, .ref o), (1, .ref a)], [.int (nI (absN mj (by2 f b0)))], M) _
        refine ps_if (S1 := (82, [(0, .ref o), (1, .ref a)], [], M)) (S2 := (80, [(0, .ref o), (1, .ref a)], [], M)) rfl rfl rfl (fun c_77 => ?_) (fun c_77 => ?_)
        · have c_77 : ¬ (nI (absN mj (by2 f b0))) = 0 := of_decide_eq_true c_77
          have n_77 : ¬ (absN mj (by2 f b0) = 0) := fun h9 => c_77 ((eq_nI (p := absN mj (by2 f b0)) (n := 0) (Nat.lt_trans (le1_abs _ _) (by decide)) (by decide)).mpr h9)
          refine ps_st (S' := (83, [(0, .ref o), (1, .ref a)], [.ref o], M)) rfl rfl rfl ?_
          refine ps_get (S' := (86, [(0, .ref o), (1, .ref a)], [.ref c], M)) rfl h_o rfl rfl ?_
          refine ps_st (S' := (89, [(0, .ref o), (1, .ref a)], [.int 512, .ref c], M)) rfl rfl rfl ?_
          refine pl_call (a := [.ref c, .int 512]) (rest := []) rfl rfl rfl (dk_fhas (f := f) (n := n) (q := q) (c := c) (b := b) (da := da) (fr := fr) (mr := mr) (fa := fa) (ic := ic) (mj := mj) (na := na) (pa := pa) (mi := mi) (k1 := k1) (k2 := k2) (k3 := k3) (k4 := k4) (k5 := k5) (k6 := k6) (k7 := k7) (x := 512) h_c h_b h_da (hn) (hfa)) (fun v22 M23 q24 => ?_)
          obtain ⟨rfl, rfl⟩ := q24
          show pl _ _ _ (92, [(0, .ref o), (1, .ref a)], [.int (nI (hasN (by2 f fa) 512))], M) _
          refine ps_if (S1 := (103, [(0, .ref o), (1, .ref a)], [], M)) (S2 := (95, [(0, .ref o), (1, .ref a)], [], M)) rfl rfl rfl (fun c_92 => ?_) (fun c_92 => ?_)
          · have c_92 : (nI (hasN (by2 f fa) 512)) = 0 := of_decide_eq_true c_92
            have n_92 : hasN (by2 f fa) 512 = 0 := (eq_nI (p := hasN (by2 f fa) 512) (n := 0) (Nat.lt_trans (le1_has _ _) (by decide)) (by decide)).mp c_92
            refine ps_st (S' := (104, [(0, .ref o), (1, .ref a)], [.ref a], M)) rfl rfl rfl ?_
            refine ps_get (S' := (107, [(0, .ref o), (1, .ref a)], [.int (nI (by2 f b0))], M)) rfl h_a rfl rfl ?_
            refine pl_call (a := [.int (nI (by2 f b0))]) (rest := []) rfl rfl rfl (dk_hasOneAccessAtMost (x := (by2 f b0)) (by2_lt _ _)) (fun v25 M26 q27 => ?_)
            obtain ⟨rfl, rfl⟩ := q27
            show pl _ _ _ (110, [], [.int (nI (oneN (by2 f b0)))], M) _
            exact ps_reti rfl (⟨congrArg (fun x => some (Value.int (nI x))) (show oneN (by2 f b0) = mflN f n E (by2 f fa) mj (by2 f b0) (by2 f (b0 + 2)) from by
                unfold mflN
                first | ((repeat first | rw [if_pos (by omega)] | rw [if_neg (by omega)]) <;> first | rfl | omega) | ((repeat' split) <;> first | rfl | (exfalso; omega) | omega)), rfl⟩)
          · have c_92 : ¬ ((nI (hasN (by2 f fa) 512)) = 0) := of_decide_eq_false c_92
            have n_92 : ¬ (hasN (by2 f fa) 512 = 0) := fun h9 => c_92 ((eq_nI (p := hasN (by2 f fa) 512) (n := 0) (Nat.lt_trans (le1_has _ _) (by decide)) (by decide)).mpr h9)
            refine ps_st (S' := (96, [(0, .ref o), (1, .ref a)], [.ref o], M)) rfl rfl rfl ?_
            refine ps_st (S' := (97, [(0, .ref o), (1, .ref a)], [.ref a, .ref o], M)) rfl rfl rfl ?_
            refine pl_call (a := [.ref o, .ref a]) (rest := []) rfl rfl rfl (dk_interfaceMethodHolds (f := f) (n := n) (N := N) (q := q) (E := E) (o := o) (c := c) (b := b) (da := da) (vd := vd) (ac := ac) (fr := fr) (mr := mr) (fa := fa) (ic := ic) (mj := mj) (na := na) (pa := pa) (mi := mi) (ru := ru) (wa := wa) (k1 := k1) (k2 := k2) (k3 := k3) (k4 := k4) (k5 := k5) (k6 := k6) (k7 := k7) (a := a) (b0 := b0) (kn := kn) (co := co) (ap := ap) (ex := ex) (cd := cd) h_o h_c h_b h_da h_a (hn) (hmj) (hfa) (hV)) (fun v28 M29 q30 => ?_)
            obtain ⟨rfl, rfl⟩ := q30
            show pl _ _ _ (100, [(0, .ref o), (1, .ref a)], [.int (nI (imhN mj (by2 f b0)))], M) _
            refine ps_st (S' := (110, [], [.int (nI (imhN mj (by2 f b0)))], M)) rfl rfl rfl ?_
            exact ps_reti rfl (⟨congrArg (fun x => some (Value.int (nI x))) (show imhN mj (by2 f b0) = mflN f n E (by2 f fa) mj (by2 f b0) (by2 f (b0 + 2)) from by
                unfold mflN
                first | ((repeat first | rw [if_pos (by omega)] | rw [if_neg (by omega)]) <;> first | rfl | omega) | ((repeat' split) <;> first | rfl | (exfalso; omega) | omega)), rfl⟩)
        · have c_77 : ¬ (¬ (nI (absN mj (by2 f b0))) = 0) := of_decide_eq_false c_77
          have n_77 : absN mj (by2 f b0) = 0 := (eq_nI (p := absN mj (by2 f b0)) (n := 0) (Nat.lt_trans (le1_abs _ _) (by decide)) (by decide)).mp (Decidable.not_not.mp c_77)
          refine ps_st (S' := (81, [(0, .ref o), (1, .ref a)], [.int 0], M)) rfl rfl rfl ?_
          exact ps_ret rfl rfl (⟨congrArg (fun x => some (Value.int (nI x))) (show 0 = mflN f n E (by2 f fa) mj (by2 f b0) (by2 f (b0 + 2)) from by
              unfold mflN
              first | ((repeat first | rw [if_pos (by omega)] | rw [if_neg (by omega)]) <;> first | rfl | omega) | ((repeat' split) <;> first | rfl | (exfalso; omega) | omega)), rfl⟩)
    · have c_31 : ¬ ((nI (eqN (tX f n E (by2 f (b0 + 2))) (ltx 12))) = 0) := of_decide_eq_false c_31
      have n_31 : ¬ (eqN (tX f n E (by2 f (b0 + 2))) (ltx 12) = 0) := fun h9 => c_31 ((eq_nI (p := eqN (tX f n E (by2 f (b0 + 2))) (ltx 12)) (n := 0) (Nat.lt_trans (le1_eq _ _) (by decide)) (by decide)).mpr h9)
      refine ps_st (S' := (37, [(0, .ref o), (1, .ref a)], [.int 1400], M)) rfl rfl rfl ?_
      refine ps_st (S' := (38, [(2, .int 1400), (0, .ref o), (1, .ref a)], [], M)) rfl rfl rfl ?_
      refine ps_st (S' := (39, [(2, .int 1400), (0, .ref o), (1, .ref a)], [.ref a], M)) rfl rfl rfl ?_
      refine ps_get (S' := (42, [(2, .int 1400), (0, .ref o), (1, .ref a)], [.int (nI (by2 f b0))], M)) rfl h_a rfl rfl ?_
      refine pl_call (a := [.int (nI (by2 f b0))]) (rest := []) rfl rfl rfl (dk_hasOneAccessAtMost (x := (by2 f b0)) (by2_lt _ _)) (fun v31 M32 q33 => ?_)
      obtain ⟨rfl, rfl⟩ := q33
      show pl _ _ _ (45, [(2, .int 1400), (0, .ref o), (1, .ref a)], [.int (nI (oneN (by2 f b0)))], M) _
      refine ps_if (S1 := (60, [], [], M)) (S2 := (48, [(2, .int 1400), (0, .ref o), (1, .ref a)], [], M)) rfl rfl rfl (fun c_45 => ?_) (fun c_45 => ?_)
      · have c_45 : (nI (oneN (by2 f b0))) = 0 := of_decide_eq_true c_45
        have n_45 : oneN (by2 f b0) = 0 := (eq_nI (p := oneN (by2 f b0)) (n := 0) (Nat.lt_trans (le1_one _) (by decide)) (by decide)).mp c_45
        refine ps_st (S' := (61, [], [.int 0], M)) rfl rfl rfl ?_
        exact ps_ret rfl rfl (⟨congrArg (fun x => some (Value.int (nI x))) (show 0 = mflN f n E (by2 f fa) mj (by2 f b0) (by2 f (b0 + 2)) from by
            unfold mflN
            first | ((repeat first | rw [if_pos (by omega)] | rw [if_neg (by omega)]) <;> first | rfl | omega) | ((repeat' split) <;> first | rfl | (exfalso; omega) | omega)), rfl⟩)
      · have c_45 : ¬ ((nI (oneN (by2 f b0))) = 0) := of_decide_eq_false c_45
        have n_45 : ¬ (oneN (by2 f b0) = 0) := fun h9 => c_45 ((eq_nI (p := oneN (by2 f b0)) (n := 0) (Nat.lt_trans (le1_one _) (by decide)) (by decide)).mpr h9)
        refine ps_st (S' := (49, [(2, .int 1400), (0, .ref o), (1, .ref a)], [.ref a], M)) rfl rfl rfl ?_
        refine ps_st (S' := (50, [(2, .int 1400), (0, .ref o), (1, .ref a)], [.int 1400, .ref a], M)) rfl rfl rfl ?_
        refine pl_call (a := [.ref a, .int 1400]) (rest := []) rfl rfl rfl (dk_mhas (f := f) (a := a) (b0 := b0) (kn := kn) (co := co) (ap := ap) (ex := ex) (cd := cd) (x := 1400) h_a) (fun v34 M35 q36 => ?_)
        obtain ⟨rfl, rfl⟩ := q36
        show pl _ _ _ (53, [(2, .int 1400), (0, .ref o), (1, .ref a)], [.int (nI (hasN (by2 f b0) 1400))], M) _
        refine ps_if (S1 := (60, [], [], M)) (S2 := (56, [(2, .int 1400), (0, .ref o), (1, .ref a)], [], M)) rfl rfl rfl (fun c_53 => ?_) (fun c_53 => ?_)
        · have c_53 : ¬ (nI (hasN (by2 f b0) 1400)) = 0 := of_decide_eq_true c_53
          have n_53 : ¬ (hasN (by2 f b0) 1400 = 0) := fun h9 => c_53 ((eq_nI (p := hasN (by2 f b0) 1400) (n := 0) (Nat.lt_trans (le1_has _ _) (by decide)) (by decide)).mpr h9)
          refine ps_st (S' := (61, [], [.int 0], M)) rfl rfl rfl ?_
          exact ps_ret rfl rfl (⟨congrArg (fun x => some (Value.int (nI x))) (show 0 = mflN f n E (by2 f fa) mj (by2 f b0) (by2 f (b0 + 2)) from by
              unfold mflN
              first | ((repeat first | rw [if_pos (by omega)] | rw [if_neg (by omega)]) <;> first | rfl | omega) | ((repeat' split) <;> first | rfl | (exfalso; omega) | omega)), rfl⟩)
        · have c_53 : ¬ (¬ (nI (hasN (by2 f b0) 1400)) = 0) := of_decide_eq_false c_53
          have n_53 : hasN (by2 f b0) 1400 = 0 := (eq_nI (p := hasN (by2 f b0) 1400) (n := 0) (Nat.lt_trans (le1_has _ _) (by decide)) (by decide)).mp (Decidable.not_not.mp c_53)
          refine ps_st (S' := (57, [(2, .int 1400), (0, .ref o), (1, .ref a)], [.int 1], M)) rfl rfl rfl ?_
          refine ps_st (S' := (61, [], [.int 1], M)) rfl rfl rfl ?_
          exact ps_ret rfl rfl (⟨congrArg (fun x => some (Value.int (nI x))) (show 1 = mflN f n E (by2 f fa) mj (by2 f b0) (by2 f (b0 + 2)) from by
              unfold mflN
              first | ((repeat first | rw [if_pos (by omega)] | rw [if_neg (by omega)]) <;> first | rfl | omega) | ((repeat' split) <;> first | rfl | (exfalso; omega) | omega)), rfl⟩)
  · have c_13 : ¬ ((nI (eqN (tX f n E (by2 f (b0 + 2))) (ltx 13))) = 0) := of_decide_eq_false c_13
    have n_13 : ¬ (eqN (tX f n E (by2 f (b0 + 2))) (ltx 13) = 0) := fun h9 => c_13 ((eq_nI (p := eqN (tX f n E (by2 f (b0 + 2))) (ltx 13)) (n := 0) (Nat.lt_trans (le1_eq _ _) (by decide)) (by decide)).mpr h9)
    refine ps_st (S' := (17, [(0, .ref o), (1, .ref a)], [.int 1], M)) rfl rfl rfl ?_
    exact ps_ret rfl rfl (⟨congrArg (fun x => some (Value.int (nI x))) (show 1 = mflN f n E (by2 f fa) mj (by2 f b0) (by2 f (b0 + 2)) from by
        unfold mflN
        first | ((repeat first | rw [if_pos (by omega)] | rw [if_neg (by omega)]) <;> first | rfl | omega) | ((repeat' split) <;> first | rfl | (exfalso; omega) | omega)), rfl⟩)
set_option maxHeartbeats 1000000 in
theorem dk_methodDescriptorHolds {g : xe_G} {M : mi_H} {f : Nat → Int32} {n N q : Nat} {E : List (Nat × Nat)} {o c b da vd ac fr mr fa ic mj na pa : Nat} {mi ru wa k1 k2 k3 k4 k5 k6 k7 : Int32} {a b0 : Nat} {kn co ap ex : Int32} {cd : Value} {w : Nat} (h_o : M.1 o = some (ob 2 [.ref c, .ref b, .ref q, .ref vd, .ref ac])) (h_c : M.1 c = some (ob 3 [.ref b, .ref q, .int mi, .int (nI mj), .int (nI fa), .int (nI ic), .ref fr, .ref mr, .int (nI na), .int (nI pa), .int k1, .int k2, .int k3, .int k4, .int k5, .int k6, .int k7])) (h_b : M.1 b = some (ob 1 [.ref da])) (h_da : M.1 da = some (ar .byte n f)) (h_a : M.1 a = some (ob 6 [.int (nI b0), .int (nI (by2 f b0)), .int (nI (by2 f (b0 + 2))), .int (nI (by2 f (b0 + 4))), .int (nI (by2 f (b0 + 6))), .int (nI (b0 + 8)), .int kn, .int co, .int (nI w), .int ex, cd])) (hn : n ≤ 65540) (hmj : mj < 65536) (hfa : fa + 8 ≤ n) (hw : w < 100000) (hV : PV g f n N E q M) : pt (mT g) 63 [.ref o, .ref a] M (fun v M' => (v = some (.int (nI (mdsN f n E (by2 f (b0 + 2)) (by2 f (b0 + 4)) w))) ∧ M = M')) := by
  refine pt_in (b := mb_63 g) rfl (fun kf => ?_)
  show pl (mT g) kf (mb_63 g).2 (0, [(0, .ref o), (1, .ref a)], [], M) _
  have hu9 := by2_lt f b0
  have ha_x : ∀ m, aN (by2 f b0) m < 65536 := fun m => Nat.lt_of_le_of_lt Nat.and_le_left hu9
  refine ps_st (S' := (1, [(0, .ref o), (1, .ref a)], [.ref o], M)) rfl rfl rfl ?_
  refine ps_get (S' := (4, [(0, .ref o), (1, .ref a)], [.ref q], M)) rfl h_o rfl rfl ?_
  refine ps_st (S' := (5, [(0, .ref o), (1, .ref a)], [.ref a, .ref q], M)) rfl rfl rfl ?_
  refine ps_get (S' := (8, [(0, .ref o), (1, .ref a)], [.int (nI (by2 f (b0 + 4))), .ref q], M)) rfl h_a rfl rfl ?_
  refine pl_call (a := [.ref q, .int (nI (by2 f (b0 + 4)))]) (rest := []) rfl rfl rfl (dy_isMethodDescriptor (f := f) (n := n) (N := N) (q := q) (E := E) (j := (by2 f (b0 + 4))) (hV) (by2_lt _ _)) (fun v1 M2 q3 => ?_)
  obtain ⟨rfl, rfl⟩ := q3
  show pl _ _ _ (11, [(0, .ref o), (1, .ref a)], [.int (nI (mthN (tX f n E (by2 f (b0 + 4)))))], M) _
  refine ps_if (S1 := (24, [], [], M)) (S2 := (14, [(0, .ref o), (1, .ref a)], [], M)) rfl rfl rfl (fun c_11 => ?_) (fun c_11 => ?_)
  · have c_11 : (nI (mthN (tX f n E (by2 f (b0 + 4))))) = 0 := of_decide_eq_true c_11
    have n_11 : mthN (tX f n E (by2 f (b0 + 4))) = 0 := (eq_nI (p := mthN (tX f n E (by2 f (b0 + 4)))) (n := 0) (Nat.lt_trans (le1_mth _) (by decide)) (by decide)).mp c_11
    refine ps_st (S' := (25, [], [.int 0], M)) rfl rfl rfl ?_
    exact ps_ret rfl rfl (⟨congrArg (fun x => some (Value.int (nI x))) (show 0 = mdsN f n E (by2 f (b0 + 2)) (by2 f (b0 + 4)) w from by
        unfold mdsN
        first | ((repeat first | rw [if_pos (by omega)] | rw [if_neg (by omega)]) <;> first | rfl | omega) | ((repeat' split) <;> first | rfl | (exfalso; omega) | omega)), rfl⟩)
  · have c_11 : ¬ ((nI (mthN (tX f n E (by2 f (b0 + 4))))) = 0) := of_decide_eq_false c_11
    have n_11 : ¬ (mthN (tX f n E (by2 f (b0 + 4))) = 0) := fun h9 => c_11 ((eq_nI (p := mthN (tX f n E (by2 f (b0 + 4)))) (n := 0) (Nat.lt_trans (le1_mth _) (by decide)) (by decide)).mpr h9)
    refine ps_st (S' := (15, [(0, .ref o), (1, .ref a)], [.ref a], M)) rfl rfl rfl ?_
    refine ps_get (S' := (18, [(0, .ref o), (1, .ref a)], [.int (nI w)], M)) rfl h_a rfl rfl ?_
    refine ps_st (S' := (21, [(0, .ref o), (1, .ref a)], [.int 255, .int (nI w)], M)) rfl rfl rfl ?_
    refine ps_if2 (S1 := (26, [(0, .ref o), (1, .ref a)], [], M)) (S2 := (24, [], [], M)) rfl rfl rfl (fun c_21 => ?_) (fun c_21 => ?_)
    · have c_21 : (nI w) ≤ 255 := of_decide_eq_true c_21
      have n_21 : w ≤ 255 := (le_nI (p := w) (n := 255) (by omega) (by decide)).mp c_21
      refine ps_st (S' := (27, [(0, .ref o), (1, .ref a)], [.ref o], M)) rfl rfl rfl ?_
      refine ps_get (S' := (30, [(0, .ref o), (1, .ref a)], [.ref q], M)) rfl h_o rfl rfl ?_
      refine ps_st (S' := (31, [(0, .ref o), (1, .ref a)], [.ref a, .ref q], M)) rfl rfl rfl ?_
      refine ps_get (S' := (34, [(0, .ref o), (1, .ref a)], [.int (nI (by2 f (b0 + 2))), .ref q], M)) rfl h_a rfl rfl ?_
      refine ps_st (S' := (36, [(0, .ref o), (1, .ref a)], [.ref (g.2.1 12), .int (nI (by2 f (b0 + 2))), .ref q], M)) rfl rfl rfl ?_
      refine pl_call (a := [.ref q, .int (nI (by2 f (b0 + 2))), .ref (g.2.1 12)]) (rest := []) rfl rfl rfl (dy_textIs (f := f) (n := n) (N := N) (q := q) (E := E) (j := (by2 f (b0 + 2))) (k := 12) (hV) (by2_lt _ _) (by decide)) (fun v4 M5 q6 => ?_)
      obtain ⟨rfl, rfl⟩ := q6
      show pl _ _ _ (39, [(0, .ref o), (1, .ref a)], [.int (nI (eqN (tX f n E (by2 f (b0 + 2))) (ltx 12)))], M) _
      refine ps_if (S1 := (56, [], [], M)) (S2 := (42, [(0, .ref o), (1, .ref a)], [], M)) rfl rfl rfl (fun c_39 => ?_) (fun c_39 => ?_)
      · have c_39 : (nI (eqN (tX f n E (by2 f (b0 + 2))) (ltx 12))) = 0 := of_decide_eq_true c_39
        have n_39 : eqN (tX f n E (by2 f (b0 + 2))) (ltx 12) = 0 := (eq_nI (p := eqN (tX f n E (by2 f (b0 + 2))) (ltx 12)) (n := 0) (Nat.lt_trans (le1_eq _ _) (by decide)) (by decide)).mp c_39
        refine ps_st (S' := (57, [], [.int 1], M)) rfl rfl rfl ?_
        refine ps_st (S' := (61, [], [.int 1], M)) rfl rfl rfl ?_
        exact ps_ret rfl rfl (⟨congrArg (fun x => some (Value.int (nI x))) (show 1 = mdsN f n E (by2 f (b0 + 2)) (by2 f (b0 + 4)) w from by
            unfold mdsN
            first | ((repeat first | rw [if_pos (by omega)] | rw [if_neg (by omega)]) <;> first | rfl | omega) | ((repeat' split) <;> first | rfl | (exfalso; omega) | omega)), rfl⟩)
      · have c_39 : ¬ ((nI (eqN (tX f n E (by2 f (b0 + 2))) (ltx 12))) = 0) := of_decide_eq_false c_39
        have n_39 : ¬ (eqN (tX f n E (by2 f (b0 + 2))) (ltx 12) = 0) := fun h9 => c_39 ((eq_nI (p := eqN (tX f n E (by2 f (b0 + 2))) (ltx 12)) (n := 0) (Nat.lt_trans (le1_eq _ _) (by decide)) (by decide)).mpr h9)
        refine ps_st (S' := (43, [(0, .ref o), (1, .ref a)], [.ref o], M)) rfl rfl rfl ?_
        refine ps_get (S' := (46, [(0, .ref o), (1, .ref a)], [.ref q], M)) rfl h_o rfl rfl ?_
        refine ps_st (S' := (47, [(0, .ref o), (1, .ref a)], [.ref a, .ref q], M)) rfl rfl rfl ?_
        refine ps_get (S' := (50, [(0, .ref o), (1, .ref a)], [.int (nI (by2 f (b0 + 4))), .ref q], M)) rfl h_a rfl rfl ?_
        refine pl_call (a := [.ref q, .int (nI (by2 f (b0 + 4)))]) (rest := []) rfl rfl rfl (dy_hasNoResult (f := f) (n := n) (N := N) (q := q) (E := E) (j := (by2 f (b0 + 4))) (hV) (by2_lt _ _)) (fun v7 M8 q9 => ?_)
        obtain ⟨rfl, rfl⟩ := q9
        show pl _ _ _ (53, [(0, .ref o), (1, .ref a)], [.int (nI (nresN (tX f n E (by2 f (b0 + 4)))))], M) _
        refine ps_if (S1 := (60, [(0, .ref o), (1, .ref a)], [], M)) (S2 := (56, [], [], M)) rfl rfl rfl (fun c_53 => ?_) (fun c_53 => ?_)
        · have c_53 : (nI (nresN (tX f n E (by2 f (b0 + 4))))) = 0 := of_decide_eq_true c_53
          have n_53 : nresN (tX f n E (by2 f (b0 + 4))) = 0 := (eq_nI (p := nresN (tX f n E (by2 f (b0 + 4)))) (n := 0) (Nat.lt_trans (le1_nres _) (by decide)) (by decide)).mp c_53
          refine ps_st (S' := (61, [], [.int 0], M)) rfl rfl rfl ?_
          exact ps_ret rfl rfl (⟨congrArg (fun x => some (Value.int (nI x))) (show 0 = mdsN f n E (by2 f (b0 + 2)) (by2 f (b0 + 4)) w from by
              unfold mdsN
              first | ((repeat first | rw [if_pos (by omega)] | rw [if_neg (by omega)]) <;> first | rfl | omega) | ((repeat' split) <;> first | rfl | (exfalso; omega) | omega)), rfl⟩)
        · have c_53 : ¬ ((nI (nresN (tX f n E (by2 f (b0 + 4))))) = 0) := of_decide_eq_false c_53
          have n_53 : ¬ (nresN (tX f n E (by2 f (b0 + 4))) = 0) := fun h9 => c_53 ((eq_nI (p := nresN (tX f n E (by2 f (b0 + 4)))) (n := 0) (Nat.lt_trans (le1_nres _) (by decide)) (by decide)).mpr h9)
          refine ps_st (S' := (57, [], [.int 1], M)) rfl rfl rfl ?_
          refine ps_st (S' := (61, [], [.int 1], M)) rfl rfl rfl ?_
          exact ps_ret rfl rfl (⟨congrArg (fun x => some (Value.int (nI x))) (show 1 = mdsN f n E (by2 f (b0 + 2)) (by2 f (b0 + 4)) w from by
              unfold mdsN
              first | ((repeat first | rw [if_pos (by omega)] | rw [if_neg (by omega)]) <;> first | rfl | omega) | ((repeat' split) <;> first | rfl | (exfalso; omega) | omega)), rfl⟩)
    · have c_21 : ¬ ((nI w) ≤ 255) := of_decide_eq_false c_21
      have n_21 : ¬ (w ≤ 255) := fun h9 => c_21 ((le_nI (p := w) (n := 255) (by omega) (by decide)).mpr h9)
      refine ps_st (S' := (25, [], [.int 0], M)) rfl rfl rfl ?_
      exact ps_ret rfl rfl (⟨congrArg (fun x => some (Value.int (nI x))) (show 0 = mdsN f n E (by2 f (b0 + 2)) (by2 f (b0 + 4)) w from by
          unfold mdsN
          first | ((repeat first | rw [if_pos (by omega)] | rw [if_neg (by omega)]) <;> first | rfl | omega) | ((repeat' split) <;> first | rfl | (exfalso; omega) | omega)), rfl⟩)
set_option maxHeartbeats 1000000 in
theorem dk_fieldHolds {g : xe_G} {M : mi_H} {f : Nat → Int32} {n N q : Nat} {E : List (Nat × Nat)} {o c b da vd ac mr fa ic mj na pa : Nat} {mi ru wa k1 k2 k3 k4 k5 k6 k7 : Int32} {a b0 : Nat} {kn co ap ex : Int32} {cd : Value} {B : List Nat} {G : Nat → Nat} {mm kk i0 : Nat} (h_o : M.1 o = some (ob 2 [.ref c, .ref b, .ref q, .ref vd, .ref ac])) (h_c : M.1 c = some (ob 3 [.ref b, .ref q, .int mi, .int (nI mj), .int (nI fa), .int (nI ic), .ref mm, .ref mr, .int (nI na), .int (nI pa), .int k1, .int k2, .int k3, .int k4, .int k5, .int k6, .int k7])) (h_b : M.1 b = some (ob 1 [.ref da])) (h_da : M.1 da = some (ar .byte n f)) (h_vd : M.1 vd = some (ob 10 [.int ru, .int wa])) (h_a : M.1 a = some (ob 6 [.int (nI b0), .int (nI (by2 f b0)), .int (nI (by2 f (b0 + 2))), .int (nI (by2 f (b0 + 4))), .int (nI (by2 f (b0 + 6))), .int (nI (b0 + 8)), .int kn, .int co, .int ap, .int ex, cd])) (hn : n ≤ 65540) (hmj : mj < 65536) (hfa : fa + 8 ≤ n) (hA : G i0 = a ∧ i0 < B.length ∧ i0 < kk) (hb0 : b0 = B.getD i0 0) (hB9 : B.length < 65536) (hb1 : b0 + 8 ≤ n) (hV : PV g f n N E q M) (hM : MV f B mm G kk M) : pt (mT g) 56 [.ref o, .ref a, .int (nI i0)] M (fun v M' => ((fhS f n E (by2 f fa) B i0 b0 = none) ∧ v = some (.int 1) ∧ M'.1 vd = some (ob 10 [.int ru, .int wa]) ∧ fm [vd] M M') ∨ (∃ (e : Nat × Nat), (fhS f n E (by2 f fa) B i0 b0 = some e) ∧ v = some (.int 0) ∧ M'.1 vd = some (ob 10 [.int (nI e.1), .int (nI e.2)]) ∧ fm [vd] M M')) := by
  refine pt_in (b := mb_56 g) rfl (fun kf => ?_)
  show pl (mT g) kf (mb_56 g).2 (0, [(0, .ref o), (1, .ref a), (2, .int (nI i0))], [], M) _
  have hF : fm [vd] M M := fm.rf
  have hu9 := by2_lt f b0
  refine ps_st (S' := (1, [(0, .ref o), (1, .ref a), (2, .int (nI i0))], [.ref o], M)) rfl rfl rfl ?_
  refine ps_st (S' := (2, [(0, .ref o), (1, .ref a), (2, .int (nI i0))], [.ref a, .ref o], M)) rfl rfl rfl ?_
  refine ps_get (S' := (5, [(0, .ref o), (1, .ref a), (2, .int (nI i0))], [.int (nI (by2 f b0)), .ref o], M)) rfl h_a rfl rfl ?_
  refine pl_call (a := [.ref o, .int (nI (by2 f b0))]) (rest := []) rfl rfl rfl (dk_fieldFlagsHold (f := f) (n := n) (N := N) (q := q) (E := E) (o := o) (c := c) (b := b) (da := da) (vd := vd) (ac := ac) (fr := mm) (mr := mr) (fa := fa) (ic := ic) (mj := mj) (na := na) (pa := pa) (mi := mi) (ru := ru) (wa := wa) (k1 := k1) (k2 := k2) (k3 := k3) (k4 := k4) (k5 := k5) (k6 := k6) (k7 := k7) (x := (by2 f b0)) h_o h_c h_b h_da (hn) (hmj) (hfa) (by2_lt _ _)) (fun v1 M2 q3 => ?_)
  obtain ⟨rfl, rfl⟩ := q3
  show pl _ _ _ (8, [(0, .ref o), (1, .ref a), (2, .int (nI i0))], [.int (nI (fflN (by2 f fa) (by2 f b0)))], M) _
  refine ps_if (S1 := (25, [(0, .ref o), (1, .ref a), (2, .int (nI i0))], [], M)) (S2 := (11, [(0, .ref o), (1, .ref a), (2, .int (nI i0))], [], M)) rfl rfl rfl (fun c_8 => ?_) (fun c_8 => ?_)
  · have c_8 : ¬ (nI (fflN (by2 f fa) (by2 f b0))) = 0 := of_decide_eq_true c_8
    have n_8 : ¬ (fflN (by2 f fa) (by2 f b0) = 0) := fun h9 => c_8 ((eq_nI (p := fflN (by2 f fa) (by2 f b0)) (n := 0) (Nat.lt_trans (le1_ffl _ _) (by decide)) (by decide)).mpr h9)
    refine ps_st (S' := (26, [(0, .ref o), (1, .ref a), (2, .int (nI i0))], [.ref o], M)) rfl rfl rfl ?_
    refine ps_get (S' := (29, [(0, .ref o), (1, .ref a), (2, .int (nI i0))], [.ref q], M)) rfl h_o rfl rfl ?_
    refine ps_st (S' := (30, [(0, .ref o), (1, .ref a), (2, .int (nI i0))], [.ref a, .ref q], M)) rfl rfl rfl ?_
    refine ps_get (S' := (33, [(0, .ref o), (1, .ref a), (2, .int (nI i0))], [.int (nI (by2 f (b0 + 2))), .ref q], M)) rfl h_a rfl rfl ?_
    refine pl_call (a := [.ref q, .int (nI (by2 f (b0 + 2)))]) (rest := []) rfl rfl rfl (dy_isUnqualifiedName (f := f) (n := n) (N := N) (q := q) (E := E) (j := (by2 f (b0 + 2))) (hV) (by2_lt _ _)) (fun v4 M5 q6 => ?_)
    obtain ⟨rfl, rfl⟩ := q6
    show pl _ _ _ (36, [(0, .ref o), (1, .ref a), (2, .int (nI i0))], [.int (nI (unqN (tX f n E (by2 f (b0 + 2)))))], M) _
    refine ps_if (S1 := (55, [(0, .ref o), (1, .ref a), (2, .int (nI i0))], [], M)) (S2 := (39, [(0, .ref o), (1, .ref a), (2, .int (nI i0))], [], M)) rfl rfl rfl (fun c_36 => ?_) (fun c_36 => ?_)
    · have c_36 : ¬ (nI (unqN (tX f n E (by2 f (b0 + 2))))) = 0 := of_decide_eq_true c_36
      have n_36 : ¬ (unqN (tX f n E (by2 f (b0 + 2))) = 0) := fun h9 => c_36 ((eq_nI (p := unqN (tX f n E (by2 f (b0 + 2)))) (n := 0) (Nat.lt_trans (le1_unq _) (by decide)) (by decide)).mpr h9)
      refine ps_st (S' := (56, [(0, .ref o), (1, .ref a), (2, .int (nI i0))], [.ref o], M)) rfl rfl rfl ?_
      refine ps_get (S' := (59, [(0, .ref o), (1, .ref a), (2, .int (nI i0))], [.ref q], M)) rfl h_o rfl rfl ?_
      refine ps_st (S' := (60, [(0, .ref o), (1, .ref a), (2, .int (nI i0))], [.ref a, .ref q], M)) rfl rfl rfl ?_
      refine ps_get (S' := (63, [(0, .ref o), (1, .ref a), (2, .int (nI i0))], [.int (nI (by2 f (b0 + 4))), .ref q], M)) rfl h_a rfl rfl ?_
      refine pl_call (a := [.ref q, .int (nI (by2 f (b0 + 4)))]) (rest := []) rfl rfl rfl (dy_isFieldDescriptor (f := f) (n := n) (N := N) (q := q) (E := E) (j := (by2 f (b0 + 4))) (hV) (by2_lt _ _)) (fun v7 M8 q9 => ?_)
      obtain ⟨rfl, rfl⟩ := q9
      show pl _ _ _ (66, [(0, .ref o), (1, .ref a), (2, .int (nI i0))], [.int (nI (fldN (tX f n E (by2 f (b0 + 4)))))], M) _
      refine ps_if (S1 := (85, [(0, .ref o), (1, .ref a), (2, .int (nI i0))], [], M)) (S2 := (69, [(0, .ref o), (1, .ref a), (2, .int (nI i0))], [], M)) rfl rfl rfl (fun c_66 => ?_) (fun c_66 => ?_)
      · have c_66 : ¬ (nI (fldN (tX f n E (by2 f (b0 + 4))))) = 0 := of_decide_eq_true c_66
        have n_66 : ¬ (fldN (tX f n E (by2 f (b0 + 4))) = 0) := fun h9 => c_66 ((eq_nI (p := fldN (tX f n E (by2 f (b0 + 4)))) (n := 0) (Nat.lt_trans (le1_fld _) (by decide)) (by decide)).mpr h9)
        refine ps_st (S' := (86, [(0, .ref o), (1, .ref a), (2, .int (nI i0))], [.ref o], M)) rfl rfl rfl ?_
        refine ps_get (S' := (89, [(0, .ref o), (1, .ref a), (2, .int (nI i0))], [.ref q], M)) rfl h_o rfl rfl ?_
        refine ps_st (S' := (90, [(0, .ref o), (1, .ref a), (2, .int (nI i0))], [.ref o, .ref q], M)) rfl rfl rfl ?_
        refine ps_get (S' := (93, [(0, .ref o), (1, .ref a), (2, .int (nI i0))], [.ref c, .ref q], M)) rfl h_o rfl rfl ?_
        refine ps_get (S' := (96, [(0, .ref o), (1, .ref a), (2, .int (nI i0))], [.ref mm, .ref q], M)) rfl h_c rfl rfl ?_
        refine ps_st (S' := (97, [(0, .ref o), (1, .ref a), (2, .int (nI i0))], [.int (nI i0), .ref mm, .ref q], M)) rfl rfl rfl ?_
        refine ps_st (S' := (98, [(0, .ref o), (1, .ref a), (2, .int (nI i0))], [.ref a, .int (nI i0), .ref mm, .ref q], M)) rfl rfl rfl ?_
        refine ps_get (S' := (101, [(0, .ref o), (1, .ref a), (2, .int (nI i0))], [.int (nI (by2 f (b0 + 2))), .int (nI i0), .ref mm, .ref q], M)) rfl h_a rfl rfl ?_
        refine ps_st (S' := (102, [(0, .ref o), (1, .ref a), (2, .int (nI i0))], [.ref a, .int (nI (by2 f (b0 + 2))), .int (nI i0), .ref mm, .ref q], M)) rfl rfl rfl ?_
        refine ps_get (S' := (105, [(0, .ref o), (1, .ref a), (2, .int (nI i0))], [.int (nI (by2 f (b0 + 4))), .int (nI (by2 f (b0 + 2))), .int (nI i0), .ref mm, .ref q], M)) rfl h_a rfl rfl ?_
        refine pl_call (a := [.ref q, .ref mm, .int (nI i0), .int (nI (by2 f (b0 + 2))), .int (nI (by2 f (b0 + 4)))]) (rest := []) rfl rfl rfl (dk_sameMember (f := f) (n := n) (N := N) (q := q) (E := E) (B := B) (G := G) (mm := mm) (kk := kk) (c0 := i0) (x := (by2 f (b0 + 2))) (y := (by2 f (b0 + 4))) (hV) (hM) (by omega) (by2_lt _ _) (by2_lt _ _)) (fun v10 M11 q12 => ?_)
        rcases q12 with q12 | q12
        · skip
          obtain ⟨q105_s, rfl, rfl⟩ := q12
          show pl _ _ _ (108, [(0, .ref o), (1, .ref a), (2, .int (nI i0))], [.int (-1)], M) _
          refine ps_if (S1 := (125, [(0, .ref o), (1, .ref a), (2, .int (nI i0))], [], M)) (S2 := (111, [(0, .ref o), (1, .ref a), (2, .int (nI i0))], [], M)) rfl rfl rfl (fun c_108 => ?_) (fun c_108 => ?_)
          rotate_left
          · exact absurd (by decide) (of_decide_eq_false c_108)
          refine ps_st (S' := (126, [(0, .ref o), (1, .ref a), (2, .int (nI i0))], [.int 1], M)) rfl rfl rfl ?_
          exact ps_ret rfl rfl (Or.inl ⟨by
              unfold fhS
              rw [q105_s]
              repeat' split
              all_goals first | rfl | (exfalso; omega) | (exfalso; simp_all; done), rfl, h_vd, hF⟩)
        · skip
          obtain ⟨k13, q105_s, q105_k, rfl, rfl⟩ := q12
          show pl _ _ _ (108, [(0, .ref o), (1, .ref a), (2, .int (nI i0))], [.int (nI k13)], M) _
          refine ps_if (S1 := (125, [(0, .ref o), (1, .ref a), (2, .int (nI i0))], [], M)) (S2 := (111, [(0, .ref o), (1, .ref a), (2, .int (nI i0))], [], M)) rfl rfl rfl (fun c_108 => ?_) (fun c_108 => ?_)
          · exact absurd (of_decide_eq_true c_108) (nI_n0 (by omega))
          refine ps_st (S' := (112, [(0, .ref o), (1, .ref a), (2, .int (nI i0))], [.ref o], M)) rfl rfl rfl ?_
          refine ps_get (S' := (115, [(0, .ref o), (1, .ref a), (2, .int (nI i0))], [.ref vd], M)) rfl h_o rfl rfl ?_
          refine ps_st (S' := (117, [(0, .ref o), (1, .ref a), (2, .int (nI i0))], [.int 22, .ref vd], M)) rfl rfl rfl ?_
          refine ps_st (S' := (118, [(0, .ref o), (1, .ref a), (2, .int (nI i0))], [.ref a, .int 22, .ref vd], M)) rfl rfl rfl ?_
          refine ps_get (S' := (121, [(0, .ref o), (1, .ref a), (2, .int (nI i0))], [.int (nI b0), .int 22, .ref vd], M)) rfl h_a rfl rfl ?_
          refine pl_call (a := [.ref vd, .int 22, .int (nI b0)]) (rest := []) rfl rfl rfl (dk_wrong (vd := vd) (ru := ru) (wa := wa) (x1 := 22) (x2 := (nI b0)) h_vd) (fun v14 M15 q16 => ?_)
          obtain ⟨rfl, h17, f18⟩ := q16
          have h20 := (f18.1 o (nin1 (ob_ne h_o h_vd (by decide)))).trans h_o
          have h21 := (f18.1 c (nin1 (ob_ne h_c h_vd (by decide)))).trans h_c
          have h22 := (f18.1 b (nin1 (ob_ne h_b h_vd (by decide)))).trans h_b
          have h23 := (f18.1 da (nin1 (Ne.symm (ob_ar h_vd h_da)))).trans h_da
          have h24 := (f18.1 a (nin1 (ob_ne h_a h_vd (by decide)))).trans h_a
          have hF25 := hF.tr f18 (by simp)
          have hV26 := hV.keep f18.gm (n7c h_vd (by decide) (n7nil))
          have hV27 := hM.keep f18.gm (n6o h_vd (by decide) (n6on))
          show pl _ _ _ (124, [(0, .ref o), (1, .ref a), (2, .int (nI i0))], [.int 0], M15) _
          exact ps_ret rfl rfl (Or.inr ⟨(22, b0), by
              unfold fhS
              rw [q105_s]
              repeat' split
              all_goals first | rfl | (exfalso; omega) | (exfalso; simp_all; done), rfl, h17, hF25⟩)
      · have c_66 : ¬ (¬ (nI (fldN (tX f n E (by2 f (b0 + 4))))) = 0) := of_decide_eq_false c_66
        have n_66 : fldN (tX f n E (by2 f (b0 + 4))) = 0 := (eq_nI (p := fldN (tX f n E (by2 f (b0 + 4)))) (n := 0) (Nat.lt_trans (le1_fld _) (by decide)) (by decide)).mp (Decidable.not_not.mp c_66)
        refine ps_st (S' := (70, [(0, .ref o), (1, .ref a), (2, .int (nI i0))], [.ref o], M)) rfl rfl rfl ?_
        refine ps_get (S' := (73, [(0, .ref o), (1, .ref a), (2, .int (nI i0))], [.ref vd], M)) rfl h_o rfl rfl ?_
        refine ps_st (S' := (75, [(0, .ref o), (1, .ref a), (2, .int (nI i0))], [.int 21, .ref vd], M)) rfl rfl rfl ?_
        refine ps_st (S' := (76, [(0, .ref o), (1, .ref a), (2, .int (nI i0))], [.ref a, .int 21, .ref vd], M)) rfl rfl rfl ?_
        refine ps_get (S' := (79, [(0, .ref o), (1, .ref a), (2, .int (nI i0))], [.int (nI b0), .int 21, .ref vd], M)) rfl h_a rfl rfl ?_
        refine ps_st (S' := (80, [(0, .ref o), (1, .ref a), (2, .int (nI i0))], [.int 4, .int (nI b0), .int 21, .ref vd], M)) rfl rfl rfl ?_
        refine ps_st (S' := (81, [(0, .ref o), (1, .ref a), (2, .int (nI i0))], [.int ((nI b0) + 4), .int 21, .ref vd], M)) rfl rfl rfl ?_
        rw [nI_add1 (p := b0) (k := 4) (x := 4) rfl (by omega)]
        show pl _ _ _ (_, [(0, .ref o), (1, .ref a), (2, .int (nI i0))], [.int (nI (b0 + 4)), .int 21, .ref vd], M) _
        refine pl_call (a := [.ref vd, .int 21, .int (nI (b0 + 4))]) (rest := []) rfl rfl rfl (dk_wrong (vd := vd) (ru := ru) (wa := wa) (x1 := 21) (x2 := (nI (b0 + 4))) h_vd) (fun v28 M29 q30 => ?_)
        obtain ⟨rfl, h31, f32⟩ := q30
        have h34 := (f32.1 o (nin1 (ob_ne h_o h_vd (by decide)))).trans h_o
        have h35 := (f32.1 c (nin1 (ob_ne h_c h_vd (by decide)))).trans h_c
        have h36 := (f32.1 b (nin1 (ob_ne h_b h_vd (by decide)))).trans h_b
        have h37 := (f32.1 da (nin1 (Ne.symm (ob_ar h_vd h_da)))).trans h_da
        have h38 := (f32.1 a (nin1 (ob_ne h_a h_vd (by decide)))).trans h_a
        have hF39 := hF.tr f32 (by simp)
        have hV40 := hV.keep f32.gm (n7c h_vd (by decide) (n7nil))
        have hV41 := hM.keep f32.gm (n6o h_vd (by decide) (n6on))
        show pl _ _ _ (84, [(0, .ref o), (1, .ref a), (2, .int (nI i0))], [.int 0], M29) _
        exact ps_ret rfl rfl (Or.inr ⟨(21, b0 + 4), by
            unfold fhS
            repeat' split
            all_goals first | rfl | (exfalso; omega) | (exfalso; simp_all; done), rfl, h31, hF39⟩)
    · have c_36 : ¬ (¬ (nI (unqN (tX f n E (by2 f (b0 + 2))))) = 0) := of_decide_eq_false c_36
      have n_36 : unqN (tX f n E (by2 f (b0 + 2))) = 0 := (eq_nI (p := unqN (tX f n E (by2 f (b0 + 2)))) (n := 0) (Nat.lt_trans (le1_unq _) (by decide)) (by decide)).mp (Decidable.not_not.mp c_36)
      refine ps_st (S' := (40, [(0, .ref o), (1, .ref a), (2, .int (nI i0))], [.ref o], M)) rfl rfl rfl ?_
      refine ps_get (S' := (43, [(0, .ref o), (1, .ref a), (2, .int (nI i0))], [.ref vd], M)) rfl h_o rfl rfl ?_
      refine ps_st (S' := (45, [(0, .ref o), (1, .ref a), (2, .int (nI i0))], [.int 20, .ref vd], M)) rfl rfl rfl ?_
      refine ps_st (S' := (46, [(0, .ref o), (1, .ref a), (2, .int (nI i0))], [.ref a, .int 20, .ref vd], M)) rfl rfl rfl ?_
      refine ps_get (S' := (49, [(0, .ref o), (1, .ref a), (2, .int (nI i0))], [.int (nI b0), .int 20, .ref vd], M)) rfl h_a rfl rfl ?_
      refine ps_st (S' := (50, [(0, .ref o), (1, .ref a), (2, .int (nI i0))], [.int 2, .int (nI b0), .int 20, .ref vd], M)) rfl rfl rfl ?_
      refine ps_st (S' := (51, [(0, .ref o), (1, .ref a), (2, .int (nI i0))], [.int ((nI b0) + 2), .int 20, .ref vd], M)) rfl rfl rfl ?_
      rw [nI_add1 (p := b0) (k := 2) (x := 2) rfl (by omega)]
      show pl _ _ _ (_, [(0, .ref o), (1, .ref a), (2, .int (nI i0))], [.int (nI (b0 + 2)), .int 20, .ref vd], M) _
      refine pl_call (a := [.ref vd, .int 20, .int (nI (b0 + 2))]) (rest := []) rfl rfl rfl (dk_wrong (vd := vd) (ru := ru) (wa := wa) (x1 := 20) (x2 := (nI (b0 + 2))) h_vd) (fun v42 M43 q44 => ?_)
      obtain ⟨rfl, h45, f46⟩ := q44
      have h48 := (f46.1 o (nin1 (ob_ne h_o h_vd (by decide)))).trans h_o
      have h49 := (f46.1 c (nin1 (ob_ne h_c h_vd (by decide)))).trans h_c
      have h50 := (f46.1 b (nin1 (ob_ne h_b h_vd (by decide)))).trans h_b
      have h51 := (f46.1 da (nin1 (Ne.symm (ob_ar h_vd h_da)))).trans h_da
      have h52 := (f46.1 a (nin1 (ob_ne h_a h_vd (by decide)))).trans h_a
      have hF53 := hF.tr f46 (by simp)
      have hV54 := hV.keep f46.gm (n7c h_vd (by decide) (n7nil))
      have hV55 := hM.keep f46.gm (n6o h_vd (by decide) (n6on))
      show pl _ _ _ (54, [(0, .ref o), (1, .ref a), (2, .int (nI i0))], [.int 0], M43) _
      exact ps_ret rfl rfl (Or.inr ⟨(20, b0 + 2), by
          unfold fhS
          repeat' split
          all_goals first | rfl | (exfalso; omega) | (exfalso; simp_all; done), rfl, h45, hF53⟩)
  · have c_8 : ¬ (¬ (nI (fflN (by2 f fa) (by2 f b0))) = 0) := of_decide_eq_false c_8
    have n_8 : fflN (by2 f fa) (by2 f b0) = 0 := (eq_nI (p := fflN (by2 f fa) (by2 f b0)) (n := 0) (Nat.lt_trans (le1_ffl _ _) (by decide)) (by decide)).mp (Decidable.not_not.mp c_8)
    refine ps_st (S' := (12, [(0, .ref o), (1, .ref a), (2, .int (nI i0))], [.ref o], M)) rfl rfl rfl ?_
    refine ps_get (S' := (15, [(0, .ref o), (1, .ref a), (2, .int (nI i0))], [.ref vd], M)) rfl h_o rfl rfl ?_
    refine ps_st (S' := (17, [(0, .ref o), (1, .ref a), (2, .int (nI i0))], [.int 19, .ref vd], M)) rfl rfl rfl ?_
    refine ps_st (S' := (18, [(0, .ref o), (1, .ref a), (2, .int (nI i0))], [.ref a, .int 19, .ref vd], M)) rfl rfl rfl ?_
    refine ps_get (S' := (21, [(0, .ref o), (1, .ref a), (2, .int (nI i0))], [.int (nI b0), .int 19, .ref vd], M)) rfl h_a rfl rfl ?_
    refine pl_call (a := [.ref vd, .int 19, .int (nI b0)]) (rest := []) rfl rfl rfl (dk_wrong (vd := vd) (ru := ru) (wa := wa) (x1 := 19) (x2 := (nI b0)) h_vd) (fun v56 M57 q58 => ?_)
    obtain ⟨rfl, h59, f60⟩ := q58
    have h62 := (f60.1 o (nin1 (ob_ne h_o h_vd (by decide)))).trans h_o
    have h63 := (f60.1 c (nin1 (ob_ne h_c h_vd (by decide)))).trans h_c
    have h64 := (f60.1 b (nin1 (ob_ne h_b h_vd (by decide)))).trans h_b
    have h65 := (f60.1 da (nin1 (Ne.symm (ob_ar h_vd h_da)))).trans h_da
    have h66 := (f60.1 a (nin1 (ob_ne h_a h_vd (by decide)))).trans h_a
    have hF67 := hF.tr f60 (by simp)
    have hV68 := hV.keep f60.gm (n7c h_vd (by decide) (n7nil))
    have hV69 := hM.keep f60.gm (n6o h_vd (by decide) (n6on))
    show pl _ _ _ (24, [(0, .ref o), (1, .ref a), (2, .int (nI i0))], [.int 0], M57) _
    exact ps_ret rfl rfl (Or.inr ⟨(19, b0), by
        unfold fhS
        repeat' split
        all_goals first | rfl | (exfalso; omega) | (exfalso; simp_all; done), rfl, h59, hF67⟩)
set_option maxHeartbeats 1000000 in
theorem dk_methodHolds {g : xe_G} {M : mi_H} {f : Nat → Int32} {n N q : Nat} {E : List (Nat × Nat)} {o c b da vd ac fr fa ic mj na pa : Nat} {mi ru wa k1 k2 k3 k4 k5 k6 k7 : Int32} {a b0 : Nat} {kn co ap ex : Int32} {cd : Value} {B : List Nat} {G : Nat → Nat} {mm kk i0 : Nat} (h_o : M.1 o = some (ob 2 [.ref c, .ref b, .ref q, .ref vd, .ref ac])) (h_c : M.1 c = some (ob 3 [.ref b, .ref q, .int mi, .int (nI mj), .int (nI fa), .int (nI ic), .ref fr, .ref mm, .int (nI na), .int (nI pa), .int k1, .int k2, .int k3, .int k4, .int k5, .int k6, .int k7])) (h_b : M.1 b = some (ob 1 [.ref da])) (h_da : M.1 da = some (ar .byte n f)) (h_vd : M.1 vd = some (ob 10 [.int ru, .int wa])) (h_a : M.1 a = some (ob 6 [.int (nI b0), .int (nI (by2 f b0)), .int (nI (by2 f (b0 + 2))), .int (nI (by2 f (b0 + 4))), .int (nI (by2 f (b0 + 6))), .int (nI (b0 + 8)), .int kn, .int co, .int ap, .int ex, cd])) (hn : n ≤ 65540) (hmj : mj < 65536) (hfa : fa + 8 ≤ n) (hA : G i0 = a ∧ i0 < B.length ∧ i0 < kk) (hb0 : b0 = B.getD i0 0) (hB9 : B.length < 65536) (hb1 : b0 + 8 ≤ n) (hV : PV g f n N E q M) (hM : MV f B mm G kk M) : pt (mT g) 65 [.ref o, .ref a, .int (nI i0)] M (fun v M' => ((mhS f n E (by2 f fa) mj B i0 b0 = none) ∧ v = some (.int 1) ∧ M'.1 vd = some (ob 10 [.int ru, .int wa]) ∧ M'.1 a = some (ob 6 [.int (nI b0), .int (nI (by2 f b0)), .int (nI (by2 f (b0 + 2))), .int (nI (by2 f (b0 + 4))), .int (nI (by2 f (b0 + 6))), .int (nI (b0 + 8)), .int kn, .int co, .int (nI (apN f n E b0)), .int ex, cd]) ∧ fm [vd, a] M M') ∨ (∃ (e : Nat × Nat), (mhS f n E (by2 f fa) mj B i0 b0 = some e) ∧ v = some (.int 0) ∧ M'.1 vd = some (ob 10 [.int (nI e.1), .int (nI e.2)]) ∧ fm [vd, a] M M')) := by
  refine pt_in (b := mb_65 g) rfl (fun kf => ?_)
  show pl (mT g) kf (mb_65 g).2 (0, [(0, .ref o), (1, .ref a), (2, .int (nI i0))], [], M) _
  have hF : fm [vd, a] M M := fm.rf
  have hu9 := by2_lt f b0
  have hap := argN_lt (tX f n E (by2 f (b0 + 4)))
  have hap2 := apN_lt f n E b0
  refine ps_st (S' := (1, [(0, .ref o), (1, .ref a), (2, .int (nI i0))], [.ref o], M)) rfl rfl rfl ?_
  refine ps_st (S' := (2, [(0, .ref o), (1, .ref a), (2, .int (nI i0))], [.ref a, .ref o], M)) rfl rfl rfl ?_
  refine ps_get (S' := (5, [(0, .ref o), (1, .ref a), (2, .int (nI i0))], [.int (nI (by2 f (b0 + 2))), .ref o], M)) rfl h_a rfl rfl ?_
  refine pl_call (a := [.ref o, .int (nI (by2 f (b0 + 2)))]) (rest := []) rfl rfl rfl (dk_methodNameHolds (f := f) (n := n) (N := N) (q := q) (E := E) (o := o) (c := c) (b := b) (da := da) (vd := vd) (ac := ac) (fr := fr) (mr := mm) (fa := fa) (ic := ic) (mj := mj) (na := na) (pa := pa) (mi := mi) (ru := ru) (wa := wa) (k1 := k1) (k2 := k2) (k3 := k3) (k4 := k4) (k5 := k5) (k6 := k6) (k7 := k7) (x := (by2 f (b0 + 2))) h_o h_c h_b h_da (hn) (hmj) (hfa) (by2_lt _ _) (hV)) (fun v1 M2 q3 => ?_)
  obtain ⟨rfl, rfl⟩ := q3
  show pl _ _ _ (8, [(0, .ref o), (1, .ref a), (2, .int (nI i0))], [.int (nI (mnmN f n E (by2 f fa) (by2 f (b0 + 2))))], M) _
  refine ps_if (S1 := (27, [(0, .ref o), (1, .ref a), (2, .int (nI i0))], [], M)) (S2 := (11, [(0, .ref o), (1, .ref a), (2, .int (nI i0))], [], M)) rfl rfl rfl (fun c_8 => ?_) (fun c_8 => ?_)
  · have c_8 : ¬ (nI (mnmN f n E (by2 f fa) (by2 f (b0 + 2)))) = 0 := of_decide_eq_true c_8
    have n_8 : ¬ (mnmN f n E (by2 f fa) (by2 f (b0 + 2)) = 0) := fun h9 => c_8 ((eq_nI (p := mnmN f n E (by2 f fa) (by2 f (b0 + 2))) (n := 0) (Nat.lt_trans (le1_mnm _ _ _ _ _) (by decide)) (by decide)).mpr h9)
    refine ps_st (S' := (28, [(0, .ref o), (1, .ref a), (2, .int (nI i0))], [.ref o], M)) rfl rfl rfl ?_
    refine ps_st (S' := (29, [(0, .ref o), (1, .ref a), (2, .int (nI i0))], [.ref a, .ref o], M)) rfl rfl rfl ?_
    refine pl_call (a := [.ref o, .ref a]) (rest := []) rfl rfl rfl (dk_methodFlagsHold (f := f) (n := n) (N := N) (q := q) (E := E) (o := o) (c := c) (b := b) (da := da) (vd := vd) (ac := ac) (fr := fr) (mr := mm) (fa := fa) (ic := ic) (mj := mj) (na := na) (pa := pa) (mi := mi) (ru := ru) (wa := wa) (k1 := k1) (k2 := k2) (k3 := k3) (k4 := k4) (k5 := k5) (k6 := k6) (k7 := k7) (a := a) (b0 := b0) (kn := kn) (co := co) (ap := ap) (ex := ex) (cd := cd) h_o h_c h_b h_da h_a (hn) (hmj) (hfa) (hV)) (fun v4 M5 q6 => ?_)
    obtain ⟨rfl, rfl⟩ := q6
    show pl _ _ _ (32, [(0, .ref o), (1, .ref a), (2, .int (nI i0))], [.int (nI (mflN f n E (by2 f fa) mj (by2 f b0) (by2 f (b0 + 2))))], M) _
    refine ps_if (S1 := (49, [(0, .ref o), (1, .ref a), (2, .int (nI i0))], [], M)) (S2 := (35, [(0, .ref o), (1, .ref a), (2, .int (nI i0))], [], M)) rfl rfl rfl (fun c_32 => ?_) (fun c_32 => ?_)
    · have c_32 : ¬ (nI (mflN f n E (by2 f fa) mj (by2 f b0) (by2 f (b0 + 2)))) = 0 := of_decide_eq_true c_32
      have n_32 : ¬ (mflN f n E (by2 f fa) mj (by2 f b0) (by2 f (b0 + 2)) = 0) := fun h9 => c_32 ((eq_nI (p := mflN f n E (by2 f fa) mj (by2 f b0) (by2 f (b0 + 2))) (n := 0) (Nat.lt_trans (le1_mfl _ _ _ _ _ _ _) (by decide)) (by decide)).mpr h9)
      refine ps_st (S' := (50, [(0, .ref o), (1, .ref a), (2, .int (nI i0))], [.ref a], M)) rfl rfl rfl ?_
      refine ps_st (S' := (51, [(0, .ref o), (1, .ref a), (2, .int (nI i0))], [.ref o, .ref a], M)) rfl rfl rfl ?_
      refine ps_get (S' := (54, [(0, .ref o), (1, .ref a), (2, .int (nI i0))], [.ref q, .ref a], M)) rfl h_o rfl rfl ?_
      refine ps_st (S' := (55, [(0, .ref o), (1, .ref a), (2, .int (nI i0))], [.ref a, .ref q, .ref a], M)) rfl rfl rfl ?_
      refine ps_get (S' := (58, [(0, .ref o), (1, .ref a), (2, .int (nI i0))], [.int (nI (by2 f (b0 + 4))), .ref q, .ref a], M)) rfl h_a rfl rfl ?_
      refine pl_call (a := [.ref q, .int (nI (by2 f (b0 + 4)))]) (rest := [.ref a]) rfl rfl rfl (dy_argumentPlaces (f := f) (n := n) (N := N) (q := q) (E := E) (j := (by2 f (b0 + 4))) (hV) (by2_lt _ _)) (fun v7 M8 q9 => ?_)
      obtain ⟨rfl, rfl⟩ := q9
      show pl _ _ _ (61, [(0, .ref o), (1, .ref a), (2, .int (nI i0))], [.int (nI (argN (tX f n E (by2 f (b0 + 4))))), .ref a], M) _
      refine ps_st (S' := (62, [(0, .ref o), (1, .ref a), (2, .int (nI i0))], [.ref a, .int (nI (argN (tX f n E (by2 f (b0 + 4))))), .ref a], M)) rfl rfl rfl ?_
      refine ps_st (S' := (64, [(0, .ref o), (1, .ref a), (2, .int (nI i0))], [.int 8, .ref a, .int (nI (argN (tX f n E (by2 f (b0 + 4))))), .ref a], M)) rfl rfl rfl ?_
      refine pl_call (a := [.ref a, .int 8]) (rest := [.int (nI (argN (tX f n E (by2 f (b0 + 4))))), .ref a]) rfl rfl rfl (dk_mhas (f := f) (a := a) (b0 := b0) (kn := kn) (co := co) (ap := ap) (ex := ex) (cd := cd) (x := 8) h_a) (fun v10 M11 q12 => ?_)
      obtain ⟨rfl, rfl⟩ := q12
      show pl _ _ _ (67, [(0, .ref o), (1, .ref a), (2, .int (nI i0))], [.int (nI (hasN (by2 f b0) 8)), .int (nI (argN (tX f n E (by2 f (b0 + 4))))), .ref a], M) _
      refine ps_if (S1 := (74, [(0, .ref o), (1, .ref a), (2, .int (nI i0))], [.int (nI (argN (tX f n E (by2 f (b0 + 4))))), .ref a], M)) (S2 := (70, [(0, .ref o), (1, .ref a), (2, .int (nI i0))], [.int (nI (argN (tX f n E (by2 f (b0 + 4))))), .ref a], M)) rfl rfl rfl (fun c_67 => ?_) (fun c_67 => ?_)
      · have c_67 : (nI (hasN (by2 f b0) 8)) = 0 := of_decide_eq_true c_67
        have n_67 : hasN (by2 f b0) 8 = 0 := (eq_nI (p := hasN (by2 f b0) 8) (n := 0) (Nat.lt_trans (le1_has _ _) (by decide)) (by decide)).mp c_67
        refine ps_st (S' := (75, [(0, .ref o), (1, .ref a), (2, .int (nI i0))], [.int 1, .int (nI (argN (tX f n E (by2 f (b0 + 4))))), .ref a], M)) rfl rfl rfl ?_
        refine ps_st (S' := (76, [(0, .ref o), (1, .ref a), (2, .int (nI i0))], [.int ((nI (argN (tX f n E (by2 f (b0 + 4))))) + 1), .ref a], M)) rfl rfl rfl ?_
        rw [nI_add1 (p := argN (tX f n E (by2 f (b0 + 4)))) (k := 1) (x := 1) rfl (by omega)]
        show pl _ _ _ (_, [(0, .ref o), (1, .ref a), (2, .int (nI i0))], [.int (nI (argN (tX f n E (by2 f (b0 + 4))) + 1)), .ref a], M) _
        rw [show nI (argN (tX f n E (by2 f (b0 + 4))) + 1) = nI (apN f n E b0) from congrArg nI (by unfold apN; first | rw [if_pos (by omega)] | rw [if_neg (by omega)])]
        refine ps_put (l' := [.int (nI b0), .int (nI (by2 f b0)), .int (nI (by2 f (b0 + 2))), .int (nI (by2 f (b0 + 4))), .int (nI (by2 f (b0 + 6))), .int (nI (b0 + 8)), .int kn, .int co, .int (nI (apN f n E b0)), .int ex, cd]) rfl h_a rfl rfl (fun M13 h14 f15 z16 => ?_)
        have h17 := (f15 o (ob_ne h_o h_a (by decide))).trans h_o
        have h18 := (f15 c (ob_ne h_c h_a (by decide))).trans h_c
        have h19 := (f15 b (ob_ne h_b h_a (by decide))).trans h_b
        have h20 := (f15 da (Ne.symm (ob_ar h_a h_da))).trans h_da
        have h21 := (f15 vd (ob_ne h_vd h_a (by decide))).trans h_vd
        have hV22 := hV.put h_a (by decide) f15 z16
        have hV23 := hM.putA hA h14 f15 z16 hb0
        have hF24 := hF.up (by simp) f15 z16
        show pl _ _ _ (79, [(0, .ref o), (1, .ref a), (2, .int (nI i0))], [], M13) _
        refine ps_st (S' := (80, [(0, .ref o), (1, .ref a), (2, .int (nI i0))], [.ref o], M13)) rfl rfl rfl ?_
        refine ps_st (S' := (81, [(0, .ref o), (1, .ref a), (2, .int (nI i0))], [.ref a, .ref o], M13)) rfl rfl rfl ?_
        refine pl_call (a := [.ref o, .ref a]) (rest := []) rfl rfl rfl (dk_methodDescriptorHolds (f := f) (n := n) (N := N) (q := q) (E := E) (o := o) (c := c) (b := b) (da := da) (vd := vd) (ac := ac) (fr := fr) (mr := mm) (fa := fa) (ic := ic) (mj := mj) (na := na) (pa := pa) (mi := mi) (ru := ru) (wa := wa) (k1 := k1) (k2 := k2) (k3 := k3) (k4 := k4) (k5 := k5) (k6 := k6) (k7 := k7) (a := a) (b0 := b0) (kn := kn) (co := co) (ap := (nI (apN f n E b0))) (ex := ex) (cd := cd) (w := (apN f n E b0)) h17 h18 h19 h20 h14 (hn) (hmj) (hfa) (by omega) (hV22)) (fun v25 M26 q27 => ?_)
        obtain ⟨rfl, rfl⟩ := q27
        show pl _ _ _ (84, [(0, .ref o), (1, .ref a), (2, .int (nI i0))], [.int (nI (mdsN f n E (by2 f (b0 + 2)) (by2 f (b0 + 4)) (apN f n E b0)))], M13) _
        refine ps_if (S1 := (103, [(0, .ref o), (1, .ref a), (2, .int (nI i0))], [], M13)) (S2 := (87, [(0, .ref o), (1, .ref a), (2, .int (nI i0))], [], M13)) rfl rfl rfl (fun c_84 => ?_) (fun c_84 => ?_)
        · have c_84 : ¬ (nI (mdsN f n E (by2 f (b0 + 2)) (by2 f (b0 + 4)) (apN f n E b0))) = 0 := of_decide_eq_true c_84
          have n_84 : ¬ (mdsN f n E (by2 f (b0 + 2)) (by2 f (b0 + 4)) (apN f n E b0) = 0) := fun h9 => c_84 ((eq_nI (p := mdsN f n E (by2 f (b0 + 2)) (by2 f (b0 + 4)) (apN f n E b0)) (n := 0) (Nat.lt_trans (le1_mds _ _ _ _ _ _) (by decide)) (by decide)).mpr h9)
          refine ps_st (S' := (104, [(0, .ref o), (1, .ref a), (2, .int (nI i0))], [.ref o], M13)) rfl rfl rfl ?_
          refine ps_get (S' := (107, [(0, .ref o), (1, .ref a), (2, .int (nI i0))], [.ref q], M13)) rfl h17 rfl rfl ?_
          refine ps_st (S' := (108, [(0, .ref o), (1, .ref a), (2, .int (nI i0))], [.ref o, .ref q], M13)) rfl rfl rfl ?_
          refine ps_get (S' := (111, [(0, .ref o), (1, .ref a), (2, .int (nI i0))], [.ref c, .ref q], M13)) rfl h17 rfl rfl ?_
          refine ps_get (S' := (114, [(0, .ref o), (1, .ref a), (2, .int (nI i0))], [.ref mm, .ref q], M13)) rfl h18 rfl rfl ?_
          refine ps_st (S' := (115, [(0, .ref o), (1, .ref a), (2, .int (nI i0))], [.int (nI i0), .ref mm, .ref q], M13)) rfl rfl rfl ?_
          refine ps_st (S' := (116, [(0, .ref o), (1, .ref a), (2, .int (nI i0))], [.ref a, .int (nI i0), .ref mm, .ref q], M13)) rfl rfl rfl ?_
          refine ps_get (S' := (119, [(0, .ref o), (1, .ref a), (2, .int (nI i0))], [.int (nI (by2 f (b0 + 2))), .int (nI i0), .ref mm, .ref q], M13)) rfl h14 rfl rfl ?_
          refine ps_st (S' := (120, [(0, .ref o), (1, .ref a), (2, .int (nI i0))], [.ref a, .int (nI (by2 f (b0 + 2))), .int (nI i0), .ref mm, .ref q], M13)) rfl rfl rfl ?_
          refine ps_get (S' := (123, [(0, .ref o), (1, .ref a), (2, .int (nI i0))], [.int (nI (by2 f (b0 + 4))), .int (nI (by2 f (b0 + 2))), .int (nI i0), .ref mm, .ref q], M13)) rfl h14 rfl rfl ?_
          refine pl_call (a := [.ref q, .ref mm, .int (nI i0), .int (nI (by2 f (b0 + 2))), .int (nI (by2 f (b0 + 4)))]) (rest := []) rfl rfl rfl (dk_sameMember (f := f) (n := n) (N := N) (q := q) (E := E) (B := B) (G := G) (mm := mm) (kk := kk) (c0 := i0) (x := (by2 f (b0 + 2))) (y := (by2 f (b0 + 4))) (hV22) (hV23) (by omega) (by2_lt _ _) (by2_lt _ _)) (fun v28 M29 q30 => ?_)
          rcases q30 with q30 | q30
          · skip
            obtain ⟨q123_s, rfl, rfl⟩ := q30
            show pl _ _ _ (126, [(0, .ref o), (1, .ref a), (2, .int (nI i0))], [.int (-1)], M13) _
            refine ps_if (S1 := (143, [(0, .ref o), (1, .ref a), (2, .int (nI i0))], [], M13)) (S2 := (129, [(0, .ref o), (1, .ref a), (2, .int (nI i0))], [], M13)) rfl rfl rfl (fun c_126 => ?_) (fun c_126 => ?_)
            rotate_left
            · exact absurd (by decide) (of_decide_eq_false c_126)
            refine ps_st (S' := (144, [(0, .ref o), (1, .ref a), (2, .int (nI i0))], [.int 1], M13)) rfl rfl rfl ?_
            exact ps_ret rfl rfl (Or.inl ⟨by
                unfold mhS
                rw [q123_s]
                repeat' split
                all_goals first | rfl | (exfalso; omega) | (exfalso; simp_all; done), rfl, h21, h14, hF24⟩)
          · skip
            obtain ⟨k31, q123_s, q123_k, rfl, rfl⟩ := q30
            show pl _ _ _ (126, [(0, .ref o), (1, .ref a), (2, .int (nI i0))], [.int (nI k31)], M13) _
            refine ps_if (S1 := (143, [(0, .ref o), (1, .ref a), (2, .int (nI i0))], [], M13)) (S2 := (129, [(0, .ref o), (1, .ref a), (2, .int (nI i0))], [], M13)) rfl rfl rfl (fun c_126 => ?_) (fun c_126 => ?_)
            · exact absurd (of_decide_eq_true c_126) (nI_n0 (by omega))
            refine ps_st (S' := (130, [(0, .ref o), (1, .ref a), (2, .int (nI i0))], [.ref o], M13)) rfl rfl rfl ?_
            refine ps_get (S' := (133, [(0, .ref o), (1, .ref a), (2, .int (nI i0))], [.ref vd], M13)) rfl h17 rfl rfl ?_
            refine ps_st (S' := (135, [(0, .ref o), (1, .ref a), (2, .int (nI i0))], [.int 26, .ref vd], M13)) rfl rfl rfl ?_
            refine ps_st (S' := (136, [(0, .ref o), (1, .ref a), (2, .int (nI i0))], [.ref a, .int 26, .ref vd], M13)) rfl rfl rfl ?_
            refine ps_get (S' := (139, [(0, .ref o), (1, .ref a), (2, .int (nI i0))], [.int (nI b0), .int 26, .ref vd], M13)) rfl h14 rfl rfl ?_
            refine pl_call (a := [.ref vd, .int 26, .int (nI b0)]) (rest := []) rfl rfl rfl (dk_wrong (vd := vd) (ru := ru) (wa := wa) (x1 := 26) (x2 := (nI b0)) h21) (fun v32 M33 q34 => ?_)
            obtain ⟨rfl, h35, f36⟩ := q34
            have h38 := (f36.1 o (nin1 (ob_ne h17 h21 (by decide)))).trans h17
            have h39 := (f36.1 c (nin1 (ob_ne h18 h21 (by decide)))).trans h18
            have h40 := (f36.1 b (nin1 (ob_ne h19 h21 (by decide)))).trans h19
            have h41 := (f36.1 da (nin1 (Ne.symm (ob_ar h21 h20)))).trans h20
            have h42 := (f36.1 a (nin1 (ob_ne h14 h21 (by decide)))).trans h14
            have hF43 := hF24.tr f36 (by simp)
            have hV44 := hV22.keep f36.gm (n7c h21 (by decide) (n7nil))
            have hV45 := hV23.keep f36.gm (n6o h21 (by decide) (n6on))
            show pl _ _ _ (142, [(0, .ref o), (1, .ref a), (2, .int (nI i0))], [.int 0], M33) _
            exact ps_ret rfl rfl (Or.inr ⟨(26, b0), by
                unfold mhS
                rw [q123_s]
                repeat' split
                all_goals first | rfl | (exfalso; omega) | (exfalso; simp_all; done), rfl, h35, hF43⟩)
        · have c_84 : ¬ (¬ (nI (mdsN f n E (by2 f (b0 + 2)) (by2 f (b0 + 4)) (apN f n E b0))) = 0) := of_decide_eq_false c_84
          have n_84 : mdsN f n E (by2 f (b0 + 2)) (by2 f (b0 + 4)) (apN f n E b0) = 0 := (eq_nI (p := mdsN f n E (by2 f (b0 + 2)) (by2 f (b0 + 4)) (apN f n E b0)) (n := 0) (Nat.lt_trans (le1_mds _ _ _ _ _ _) (by decide)) (by decide)).mp (Decidable.not_not.mp c_84)
          refine ps_st (S' := (88, [(0, .ref o), (1, .ref a), (2, .int (nI i0))], [.ref o], M13)) rfl rfl rfl ?_
          refine ps_get (S' := (91, [(0, .ref o), (1, .ref a), (2, .int (nI i0))], [.ref vd], M13)) rfl h17 rfl rfl ?_
          refine ps_st (S' := (93, [(0, .ref o), (1, .ref a), (2, .int (nI i0))], [.int 25, .ref vd], M13)) rfl rfl rfl ?_
          refine ps_st (S' := (94, [(0, .ref o), (1, .ref a), (2, .int (nI i0))], [.ref a, .int 25, .ref vd], M13)) rfl rfl rfl ?_
          refine ps_get (S' := (97, [(0, .ref o), (1, .ref a), (2, .int (nI i0))], [.int (nI b0), .int 25, .ref vd], M13)) rfl h14 rfl rfl ?_
          refine ps_st (S' := (98, [(0, .ref o), (1, .ref a), (2, .int (nI i0))], [.int 4, .int (nI b0), .int 25, .ref vd], M13)) rfl rfl rfl ?_
          refine ps_st (S' := (99, [(0, .ref o), (1, .ref a), (2, .int (nI i0))], [.int ((nI b0) + 4), .int 25, .ref vd], M13)) rfl rfl rfl ?_
          rw [nI_add1 (p := b0) (k := 4) (x := 4) rfl (by omega)]
          show pl _ _ _ (_, [(0, .ref o), (1, .ref a), (2, .int (nI i0))], [.int (nI (b0 + 4)), .int 25, .ref vd], M13) _
          refine pl_call (a := [.ref vd, .int 25, .int (nI (b0 + 4))]) (rest := []) rfl rfl rfl (dk_wrong (vd := vd) (ru := ru) (wa := wa) (x1 := 25) (x2 := (nI (b0 + 4))) h21) (fun v46 M47 q48 => ?_)
          obtain ⟨rfl, h49, f50⟩ := q48
          have h52 := (f50.1 o (nin1 (ob_ne h17 h21 (by decide)))).trans h17
          have h53 := (f50.1 c (nin1 (ob_ne h18 h21 (by decide)))).trans h18
          have h54 := (f50.1 b (nin1 (ob_ne h19 h21 (by decide)))).trans h19
          have h55 := (f50.1 da (nin1 (Ne.symm (ob_ar h21 h20)))).trans h20
          have h56 := (f50.1 a (nin1 (ob_ne h14 h21 (by decide)))).trans h14
          have hF57 := hF24.tr f50 (by simp)
          have hV58 := hV22.keep f50.gm (n7c h21 (by decide) (n7nil))
          have hV59 := hV23.keep f50.gm (n6o h21 (by decide) (n6on))
          show pl _ _ _ (102, [(0, .ref o), (1, .ref a), (2, .int (nI i0))], [.int 0], M47) _
          exact ps_ret rfl rfl (Or.inr ⟨(25, b0 + 4), by
              unfold mhS
              repeat' split
              all_goals first | rfl | (exfalso; omega) | (exfalso; simp_all; done), rfl, h49, hF57⟩)
      · have c_67 : ¬ ((nI (hasN (by2 f b0) 8)) = 0) := of_decide_eq_false c_67
        have n_67 : ¬ (hasN (by2 f b0) 8 = 0) := fun h9 => c_67 ((eq_nI (p := hasN (by2 f b0) 8) (n := 0) (Nat.lt_trans (le1_has _ _) (by decide)) (by decide)).mpr h9)
        refine ps_st (S' := (71, [(0, .ref o), (1, .ref a), (2, .int (nI i0))], [.int 0, .int (nI (argN (tX f n E (by2 f (b0 + 4))))), .ref a], M)) rfl rfl rfl ?_
        refine ps_st (S' := (75, [(0, .ref o), (1, .ref a), (2, .int (nI i0))], [.int 0, .int (nI (argN (tX f n E (by2 f (b0 + 4))))), .ref a], M)) rfl rfl rfl ?_
        refine ps_st (S' := (76, [(0, .ref o), (1, .ref a), (2, .int (nI i0))], [.int ((nI (argN (tX f n E (by2 f (b0 + 4))))) + 0), .ref a], M)) rfl rfl rfl ?_
        rw [nI_add1 (p := argN (tX f n E (by2 f (b0 + 4)))) (k := 0) (x := 0) rfl (by omega)]
        show pl _ _ _ (_, [(0, .ref o), (1, .ref a), (2, .int (nI i0))], [.int (nI (argN (tX f n E (by2 f (b0 + 4))) + 0)), .ref a], M) _
        rw [show nI (argN (tX f n E (by2 f (b0 + 4))) + 0) = nI (apN f n E b0) from congrArg nI (by unfold apN; first | rw [if_pos (by omega)] | rw [if_neg (by omega)])]
        refine ps_put (l' := [.int (nI b0), .int (nI (by2 f b0)), .int (nI (by2 f (b0 + 2))), .int (nI (by2 f (b0 + 4))), .int (nI (by2 f (b0 + 6))), .int (nI (b0 + 8)), .int kn, .int co, .int (nI (apN f n E b0)), .int ex, cd]) rfl h_a rfl rfl (fun M60 h61 f62 z63 => ?_)
        have h64 := (f62 o (ob_ne h_o h_a (by decide))).trans h_o
        have h65 := (f62 c (ob_ne h_c h_a (by decide))).trans h_c
        have h66 := (f62 b (ob_ne h_b h_a (by decide))).trans h_b
        have h67 := (f62 da (Ne.symm (ob_ar h_a h_da))).trans h_da
        have h68 := (f62 vd (ob_ne h_vd h_a (by decide))).trans h_vd
        have hV69 := hV.put h_a (by decide) f62 z63
        have hV70 := hM.putA hA h61 f62 z63 hb0
        have hF71 := hF.up (by simp) f62 z63
        show pl _ _ _ (79, [(0, .ref o), (1, .ref a), (2, .int (nI i0))], [], M60) _
        refine ps_st (S' := (80, [(0, .ref o), (1, .ref a), (2, .int (nI i0))], [.ref o], M60)) rfl rfl rfl ?_
        refine ps_st (S' := (81, [(0, .ref o), (1, .ref a), (2, .int (nI i0))], [.ref a, .ref o], M60)) rfl rfl rfl ?_
        refine pl_call (a := [.ref o, .ref a]) (rest := []) rfl rfl rfl (dk_methodDescriptorHolds (f := f) (n := n) (N := N) (q := q) (E := E) (o := o) (c := c) (b := b) (da := da) (vd := vd) (ac := ac) (fr := fr) (mr := mm) (fa := fa) (ic := ic) (mj := mj) (na := na) (pa := pa) (mi := mi) (ru := ru) (wa := wa) (k1 := k1) (k2 := k2) (k3 := k3) (k4 := k4) (k5 := k5) (k6 := k6) (k7 := k7) (a := a) (b0 := b0) (kn := kn) (co := co) (ap := (nI (apN f n E b0))) (ex := ex) (cd := cd) (w := (apN f n E b0)) h64 h65 h66 h67 h61 (hn) (hmj) (hfa) (by omega) (hV69)) (fun v72 M73 q74 => ?_)
        obtain ⟨rfl, rfl⟩ := q74
        show pl _ _ _ (84, [(0, .ref o), (1, .ref a), (2, .int (nI i0))], [.int (nI (mdsN f n E (by2 f (b0 + 2)) (by2 f (b0 + 4)) (apN f n E b0)))], M60) _
        refine ps_if (S1 := (103, [(0, .ref o), (1, .ref a), (2, .int (nI i0))], [], M60)) (S2 := (87, [(0, .ref o), (1, .ref a), (2, .int (nI i0))], [], M60)) rfl rfl rfl (fun c_84 => ?_) (fun c_84 => ?_)
        · have c_84 : ¬ (nI (mdsN f n E (by2 f (b0 + 2)) (by2 f (b0 + 4)) (apN f n E b0))) = 0 := of_decide_eq_true c_84
          have n_84 : ¬ (mdsN f n E (by2 f (b0 + 2)) (by2 f (b0 + 4)) (apN f n E b0) = 0) := fun h9 => c_84 ((eq_nI (p := mdsN f n E (by2 f (b0 + 2)) (by2 f (b0 + 4)) (apN f n E b0)) (n := 0) (Nat.lt_trans (le1_mds _ _ _ _ _ _) (by decide)) (by decide)).mpr h9)
          refine ps_st (S' := (104, [(0, .ref o), (1, .ref a), (2, .int (nI i0))], [.ref o], M60)) rfl rfl rfl ?_
          refine ps_get (S' := (107, [(0, .ref o), (1, .ref a), (2, .int (nI i0))], [.ref q], M60)) rfl h64 rfl rfl ?_
          refine ps_st (S' := (108, [(0, .ref o), (1, .ref a), (2, .int (nI i0))], [.ref o, .ref q], M60)) rfl rfl rfl ?_
          refine ps_get (S' := (111, [(0, .ref o), (1, .ref a), (2, .int (nI i0))], [.ref c, .ref q], M60)) rfl h64 rfl rfl ?_
          refine ps_get (S' := (114, [(0, .ref o), (1, .ref a), (2, .int (nI i0))], [.ref mm, .ref q], M60)) rfl h65 rfl rfl ?_
          refine ps_st (S' := (115, [(0, .ref o), (1, .ref a), (2, .int (nI i0))], [.int (nI i0), .ref mm, .ref q], M60)) rfl rfl rfl ?_
          refine ps_st (S' := (116, [(0, .ref o), (1, .ref a), (2, .int (nI i0))], [.ref a, .int (nI i0), .ref mm, .ref q], M60)) rfl rfl rfl ?_
          refine ps_get (S' := (119, [(0, .ref o), (1, .ref a), (2, .int (nI i0))], [.int (nI (by2 f (b0 + 2))), .int (nI i0), .ref mm, .ref q], M60)) rfl h61 rfl rfl ?_
          refine ps_st (S' := (120, [(0, .ref o), (1, .ref a), (2, .int (nI i0))], [.ref a, .int (nI (by2 f (b0 + 2))), .int (nI i0), .ref mm, .ref q], M60)) rfl rfl rfl ?_
          refine ps_get (S' := (123, [(0, .ref o), (1, .ref a), (2, .int (nI i0))], [.int (nI (by2 f (b0 + 4))), .int (nI (by2 f (b0 + 2))), .int (nI i0), .ref mm, .ref q], M60)) rfl h61 rfl rfl ?_
          refine pl_call (a := [.ref q, .ref mm, .int (nI i0), .int (nI (by2 f (b0 + 2))), .int (nI (by2 f (b0 + 4)))]) (rest := []) rfl rfl rfl (dk_sameMember (f := f) (n := n) (N := N) (q := q) (E := E) (B := B) (G := G) (mm := mm) (kk := kk) (c0 := i0) (x := (by2 f (b0 + 2))) (y := (by2 f (b0 + 4))) (hV69) (hV70) (by omega) (by2_lt _ _) (by2_lt _ _)) (fun v75 M76 q77 => ?_)
          rcases q77 with q77 | q77
          · skip
            obtain ⟨q123_s, rfl, rfl⟩ := q77
            show pl _ _ _ (126, [(0, .ref o), (1, .ref a), (2, .int (nI i0))], [.int (-1)], M60) _
            refine ps_if (S1 := (143, [(0, .ref o), (1, .ref a), (2, .int (nI i0))], [], M60)) (S2 := (129, [(0, .ref o), (1, .ref a), (2, .int (nI i0))], [], M60)) rfl rfl rfl (fun c_126 => ?_) (fun c_126 => ?_)
            rotate_left
            · exact absurd (by decide) (of_decide_eq_false c_126)
            refine ps_st (S' := (144, [(0, .ref o), (1, .ref a), (2, .int (nI i0))], [.int 1], M60)) rfl rfl rfl ?_
            exact ps_ret rfl rfl (Or.inl ⟨by
                unfold mhS
                rw [q123_s]
                repeat' split
                all_goals first | rfl | (exfalso; omega) | (exfalso; simp_all; done), rfl, h68, h61, hF71⟩)
          · skip
            obtain ⟨k78, q123_s, q123_k, rfl, rfl⟩ := q77
            show pl _ _ _ (126, [(0, .ref o), (1, .ref a), (2, .int (nI i0))], [.int (nI k78)], M60) _
            refine ps_if (S1 := (143, [(0, .ref o), (1, .ref a), (2, .int (nI i0))], [], M60)) (S2 := (129, [(0, .ref o), (1, .ref a), (2, .int (nI i0))], [], M60)) rfl rfl rfl (fun c_126 => ?_) (fun c_126 => ?_)
            · exact absurd (of_decide_eq_true c_126) (nI_n0 (by omega))
            refine ps_st (S' := (130, [(0, .ref o), (1, .ref a), (2, .int (nI i0))], [.ref o], M60)) rfl rfl rfl ?_
            refine ps_get (S' := (133, [(0, .ref o), (1, .ref a), (2, .int (nI i0))], [.ref vd], M60)) rfl h64 rfl rfl ?_
            refine ps_st (S' := (135, [(0, .ref o), (1, .ref a), (2, .int (nI i0))], [.int 26, .ref vd], M60)) rfl rfl rfl ?_
            refine ps_st (S' := (136, [(0, .ref o), (1, .ref a), (2, .int (nI i0))], [.ref a, .int 26, .ref vd], M60)) rfl rfl rfl ?_
            refine ps_get (S' := (139, [(0, .ref o), (1, .ref a), (2, .int (nI i0))], [.int (nI b0), .int 26, .ref vd], M60)) rfl h61 rfl rfl ?_
            refine pl_call (a := [.ref vd, .int 26, .int (nI b0)]) (rest := []) rfl rfl rfl (dk_wrong (vd := vd) (ru := ru) (wa := wa) (x1 := 26) (x2 := (nI b0)) h68) (fun v79 M80 q81 => ?_)
            obtain ⟨rfl, h82, f83⟩ := q81
            have h85 := (f83.1 o (nin1 (ob_ne h64 h68 (by decide)))).trans h64
            have h86 := (f83.1 c (nin1 (ob_ne h65 h68 (by decide)))).trans h65
            have h87 := (f83.1 b (nin1 (ob_ne h66 h68 (by decide)))).trans h66
            have h88 := (f83.1 da (nin1 (Ne.symm (ob_ar h68 h67)))).trans h67
            have h89 := (f83.1 a (nin1 (ob_ne h61 h68 (by decide)))).trans h61
            have hF90 := hF71.tr f83 (by simp)
            have hV91 := hV69.keep f83.gm (n7c h68 (by decide) (n7nil))
            have hV92 := hV70.keep f83.gm (n6o h68 (by decide) (n6on))
            show pl _ _ _ (142, [(0, .ref o), (1, .ref a), (2, .int (nI i0))], [.int 0], M80) _
            exact ps_ret rfl rfl (Or.inr ⟨(26, b0), by
                unfold mhS
                rw [q123_s]
                repeat' split
                all_goals first | rfl | (exfalso; omega) | (exfalso; simp_all; done), rfl, h82, hF90⟩)
        · have c_84 : ¬ (¬ (nI (mdsN f n E (by2 f (b0 + 2)) (by2 f (b0 + 4)) (apN f n E b0))) = 0) := of_decide_eq_false c_84
          have n_84 : mdsN f n E (by2 f (b0 + 2)) (by2 f (b0 + 4)) (apN f n E b0) = 0 := (eq_nI (p := mdsN f n E (by2 f (b0 + 2)) (by2 f (b0 + 4)) (apN f n E b0)) (n := 0) (Nat.lt_trans (le1_mds _ _ _ _ _ _) (by decide)) (by decide)).mp (Decidable.not_not.mp c_84)
          refine ps_st (S' := (88, [(0, .ref o), (1, .ref a), (2, .int (nI i0))], [.ref o], M60)) rfl rfl rfl ?_
          refine ps_get (S' := (91, [(0, .ref o), (1, .ref a), (2, .int (nI i0))], [.ref vd], M60)) rfl h64 rfl rfl ?_
          refine ps_st (S' := (93, [(0, .ref o), (1, .ref a), (2, .int (nI i0))], [.int 25, .ref vd], M60)) rfl rfl rfl ?_
          refine ps_st (S' := (94, [(0, .ref o), (1, .ref a), (2, .int (nI i0))], [.ref a, .int 25, .ref vd], M60)) rfl rfl rfl ?_
          refine ps_get (S' := (97, [(0, .ref o), (1, .ref a), (2, .int (nI i0))], [.int (nI b0), .int 25, .ref vd], M60)) rfl h61 rfl rfl ?_
          refine ps_st (S' := (98, [(0, .ref o), (1, .ref a), (2, .int (nI i0))], [.int 4, .int (nI b0), .int 25, .ref vd], M60)) rfl rfl rfl ?_
          refine ps_st (S' := (99, [(0, .ref o), (1, .ref a), (2, .int (nI i0))], [.int ((nI b0) + 4), .int 25, .ref vd], M60)) rfl rfl rfl ?_
          rw [nI_add1 (p := b0) (k := 4) (x := 4) rfl (by omega)]
          show pl _ _ _ (_, [(0, .ref o), (1, .ref a), (2, .int (nI i0))], [.int (nI (b0 + 4)), .int 25, .ref vd], M60) _
          refine pl_call (a := [.ref vd, .int 25, .int (nI (b0 + 4))]) (rest := []) rfl rfl rfl (dk_wrong (vd := vd) (ru := ru) (wa := wa) (x1 := 25) (x2 := (nI (b0 + 4))) h68) (fun v93 M94 q95 => ?_)
          obtain ⟨rfl, h96, f97⟩ := q95
          have h99 := (f97.1 o (nin1 (ob_ne h64 h68 (by decide)))).trans h64
          have h100 := (f97.1 c (nin1 (ob_ne h65 h68 (by decide)))).trans h65
          have h101 := (f97.1 b (nin1 (ob_ne h66 h68 (by decide)))).trans h66
          have h102 := (f97.1 da (nin1 (Ne.symm (ob_ar h68 h67)))).trans h67
          have h103 := (f97.1 a (nin1 (ob_ne h61 h68 (by decide)))).trans h61
          have hF104 := hF71.tr f97 (by simp)
          have hV105 := hV69.keep f97.gm (n7c h68 (by decide) (n7nil))
          have hV106 := hV70.keep f97.gm (n6o h68 (by decide) (n6on))
          show pl _ _ _ (102, [(0, .ref o), (1, .ref a), (2, .int (nI i0))], [.int 0], M94) _
          exact ps_ret rfl rfl (Or.inr ⟨(25, b0 + 4), by
              unfold mhS
              repeat' split
              all_goals first | rfl | (exfalso; omega) | (exfalso; simp_all; done), rfl, h96, hF104⟩)
    · have c_32 : ¬ (¬ (nI (mflN f n E (by2 f fa) mj (by2 f b0) (by2 f (b0 + 2)))) = 0) := of_decide_eq_false c_32
      have n_32 : mflN f n E (by2 f fa) mj (by2 f b0) (by2 f (b0 + 2)) = 0 := (eq_nI (p := mflN f n E (by2 f fa) mj (by2 f b0) (by2 f (b0 + 2))) (n := 0) (Nat.lt_trans (le1_mfl _ _ _ _ _ _ _) (by decide)) (by decide)).mp (Decidable.not_not.mp c_32)
      refine ps_st (S' := (36, [(0, .ref o), (1, .ref a), (2, .int (nI i0))], [.ref o], M)) rfl rfl rfl ?_
      refine ps_get (S' := (39, [(0, .ref o), (1, .ref a), (2, .int (nI i0))], [.ref vd], M)) rfl h_o rfl rfl ?_
      refine ps_st (S' := (41, [(0, .ref o), (1, .ref a), (2, .int (nI i0))], [.int 23, .ref vd], M)) rfl rfl rfl ?_
      refine ps_st (S' := (42, [(0, .ref o), (1, .ref a), (2, .int (nI i0))], [.ref a, .int 23, .ref vd], M)) rfl rfl rfl ?_
      refine ps_get (S' := (45, [(0, .ref o), (1, .ref a), (2, .int (nI i0))], [.int (nI b0), .int 23, .ref vd], M)) rfl h_a rfl rfl ?_
      refine pl_call (a := [.ref vd, .int 23, .int (nI b0)]) (rest := []) rfl rfl rfl (dk_wrong (vd := vd) (ru := ru) (wa := wa) (x1 := 23) (x2 := (nI b0)) h_vd) (fun v107 M108 q109 => ?_)
      obtain ⟨rfl, h110, f111⟩ := q109
      have h113 := (f111.1 o (nin1 (ob_ne h_o h_vd (by decide)))).trans h_o
      have h114 := (f111.1 c (nin1 (ob_ne h_c h_vd (by decide)))).trans h_c
      have h115 := (f111.1 b (nin1 (ob_ne h_b h_vd (by decide)))).trans h_b
      have h116 := (f111.1 da (nin1 (Ne.symm (ob_ar h_vd h_da)))).trans h_da
      have h117 := (f111.1 a (nin1 (ob_ne h_a h_vd (by decide)))).trans h_a
      have hF118 := hF.tr f111 (by simp)
      have hV119 := hV.keep f111.gm (n7c h_vd (by decide) (n7nil))
      have hV120 := hM.keep f111.gm (n6o h_vd (by decide) (n6on))
      show pl _ _ _ (48, [(0, .ref o), (1, .ref a), (2, .int (nI i0))], [.int 0], M108) _
      exact ps_ret rfl rfl (Or.inr ⟨(23, b0), by
          unfold mhS
          repeat' split
          all_goals first | rfl | (exfalso; omega) | (exfalso; simp_all; done), rfl, h110, hF118⟩)
  · have c_8 : ¬ (¬ (nI (mnmN f n E (by2 f fa) (by2 f (b0 + 2)))) = 0) := of_decide_eq_false c_8
    have n_8 : mnmN f n E (by2 f fa) (by2 f (b0 + 2)) = 0 := (eq_nI (p := mnmN f n E (by2 f fa) (by2 f (b0 + 2))) (n := 0) (Nat.lt_trans (le1_mnm _ _ _ _ _) (by decide)) (by decide)).mp (Decidable.not_not.mp c_8)
    refine ps_st (S' := (12, [(0, .ref o), (1, .ref a), (2, .int (nI i0))], [.ref o], M)) rfl rfl rfl ?_
    refine ps_get (S' := (15, [(0, .ref o), (1, .ref a), (2, .int (nI i0))], [.ref vd], M)) rfl h_o rfl rfl ?_
    refine ps_st (S' := (17, [(0, .ref o), (1, .ref a), (2, .int (nI i0))], [.int 24, .ref vd], M)) rfl rfl rfl ?_
    refine ps_st (S' := (18, [(0, .ref o), (1, .ref a), (2, .int (nI i0))], [.ref a, .int 24, .ref vd], M)) rfl rfl rfl ?_
    refine ps_get (S' := (21, [(0, .ref o), (1, .ref a), (2, .int (nI i0))], [.int (nI b0), .int 24, .ref vd], M)) rfl h_a rfl rfl ?_
    refine ps_st (S' := (22, [(0, .ref o), (1, .ref a), (2, .int (nI i0))], [.int 2, .int (nI b0), .int 24, .ref vd], M)) rfl rfl rfl ?_
    refine ps_st (S' := (23, [(0, .ref o), (1, .ref a), (2, .int (nI i0))], [.int ((nI b0) + 2), .int 24, .ref vd], M)) rfl rfl rfl ?_
    rw [nI_add1 (p := b0) (k := 2) (x := 2) rfl (by omega)]
    show pl _ _ _ (_, [(0, .ref o), (1, .ref a), (2, .int (nI i0))], [.int (nI (b0 + 2)), .int 24, .ref vd], M) _
    refine pl_call (a := [.ref vd, .int 24, .int (nI (b0 + 2))]) (rest := []) rfl rfl rfl (dk_wrong (vd := vd) (ru := ru) (wa := wa) (x1 := 24) (x2 := (nI (b0 + 2))) h_vd) (fun v121 M122 q123 => ?_)
    obtain ⟨rfl, h124, f125⟩ := q123
    have h127 := (f125.1 o (nin1 (ob_ne h_o h_vd (by decide)))).trans h_o
    have h128 := (f125.1 c (nin1 (ob_ne h_c h_vd (by decide)))).trans h_c
    have h129 := (f125.1 b (nin1 (ob_ne h_b h_vd (by decide)))).trans h_b
    have h130 := (f125.1 da (nin1 (Ne.symm (ob_ar h_vd h_da)))).trans h_da
    have h131 := (f125.1 a (nin1 (ob_ne h_a h_vd (by decide)))).trans h_a
    have hF132 := hF.tr f125 (by simp)
    have hV133 := hV.keep f125.gm (n7c h_vd (by decide) (n7nil))
    have hV134 := hM.keep f125.gm (n6o h_vd (by decide) (n6on))
    show pl _ _ _ (26, [(0, .ref o), (1, .ref a), (2, .int (nI i0))], [.int 0], M122) _
    exact ps_ret rfl rfl (Or.inr ⟨(24, b0 + 2), by
        unfold mhS
        repeat' split
        all_goals first | rfl | (exfalso; omega) | (exfalso; simp_all; done), rfl, h124, hF132⟩)
set_option maxHeartbeats 1000000 in
theorem dk_codeIsDue_n {g : xe_G} {M : mi_H} {f : Nat → Int32} {n N q : Nat} {E : List (Nat × Nat)} {o c b da vd ac fr mr fa ic mj na pa : Nat} {mi ru wa k1 k2 k3 k4 k5 k6 k7 : Int32} {a b0 : Nat} {kn co ap ex : Int32} (h_o : M.1 o = some (ob 2 [.ref c, .ref b, .ref q, .ref vd, .ref ac])) (h_c : M.1 c = some (ob 3 [.ref b, .ref q, .int mi, .int (nI mj), .int (nI fa), .int (nI ic), .ref fr, .ref mr, .int (nI na), .int (nI pa), .int k1, .int k2, .int k3, .int k4, .int k5, .int k6, .int k7])) (h_b : M.1 b = some (ob 1 [.ref da])) (h_da : M.1 da = some (ar .byte n f)) (h_vd : M.1 vd = some (ob 10 [.int ru, .int wa])) (h_a : M.1 a = some (ob 6 [.int (nI b0), .int (nI (by2 f b0)), .int (nI (by2 f (b0 + 2))), .int (nI (by2 f (b0 + 4))), .int (nI (by2 f (b0 + 6))), .int (nI (b0 + 8)), .int kn, .int co, .int ap, .int ex, .null])) (hn : n ≤ 65540) (hmj : mj < 65536) (hfa : fa + 8 ≤ n) (hV : PV g f n N E q M) : pt (mT g) 54 [.ref o, .ref a] M (fun v M' => ((cduS f n E b0 0 = none) ∧ v = some (.int 1) ∧ M'.1 vd = some (ob 10 [.int ru, .int wa]) ∧ fm [vd] M M') ∨ (∃ (e : Nat × Nat), (cduS f n E b0 0 = some e) ∧ v = some (.int 0) ∧ M'.1 vd = some (ob 10 [.int (nI e.1), .int (nI e.2)]) ∧ fm [vd] M M')) := by
  refine pt_in (b := mb_54 g) rfl (fun kf => ?_)
  show pl (mT g) kf (mb_54 g).2 (0, [(0, .ref o), (1, .ref a)], [], M) _
  have hF : fm [vd] M M := fm.rf
  refine ps_st (S' := (1, [(0, .ref o), (1, .ref a)], [.ref o], M)) rfl rfl rfl ?_
  refine ps_get (S' := (4, [(0, .ref o), (1, .ref a)], [.ref q], M)) rfl h_o rfl rfl ?_
  refine ps_st (S' := (5, [(0, .ref o), (1, .ref a)], [.ref a, .ref q], M)) rfl rfl rfl ?_
  refine ps_get (S' := (8, [(0, .ref o), (1, .ref a)], [.int (nI (by2 f (b0 + 2))), .ref q], M)) rfl h_a rfl rfl ?_
  refine ps_st (S' := (10, [(0, .ref o), (1, .ref a)], [.ref (g.2.1 13), .int (nI (by2 f (b0 + 2))), .ref q], M)) rfl rfl rfl ?_
  refine pl_call (a := [.ref q, .int (nI (by2 f (b0 + 2))), .ref (g.2.1 13)]) (rest := []) rfl rfl rfl (dy_textIs (f := f) (n := n) (N := N) (q := q) (E := E) (j := (by2 f (b0 + 2))) (k := 13) (hV) (by2_lt _ _) (by decide)) (fun v1 M2 q3 => ?_)
  obtain ⟨rfl, rfl⟩ := q3
  show pl _ _ _ (13, [(0, .ref o), (1, .ref a)], [.int (nI (eqN (tX f n E (by2 f (b0 + 2))) (ltx 13)))], M) _
  refine ps_if (S1 := (26, [(0, .ref o), (1, .ref a)], [], M)) (S2 := (16, [(0, .ref o), (1, .ref a)], [], M)) rfl rfl rfl (fun c_13 => ?_) (fun c_13 => ?_)
  · have c_13 : ¬ (nI (eqN (tX f n E (by2 f (b0 + 2))) (ltx 13))) = 0 := of_decide_eq_true c_13
    have n_13 : ¬ (eqN (tX f n E (by2 f (b0 + 2))) (ltx 13) = 0) := fun h9 => c_13 ((eq_nI (p := eqN (tX f n E (by2 f (b0 + 2))) (ltx 13)) (n := 0) (Nat.lt_trans (le1_eq _ _) (by decide)) (by decide)).mpr h9)
    refine ps_st (S' := (27, [(0, .ref o), (1, .ref a)], [.int 1], M)) rfl rfl rfl ?_
    refine ps_st (S' := (31, [(0, .ref o), (1, .ref a)], [.int 1], M)) rfl rfl rfl ?_
    refine ps_st (S' := (32, [(2, .int 1), (0, .ref o), (1, .ref a)], [], M)) rfl rfl rfl ?_
    refine ps_st (S' := (33, [(2, .int 1), (0, .ref o), (1, .ref a)], [.int 1], M)) rfl rfl rfl ?_
    refine ps_st (S' := (34, [(2, .int 1), (0, .ref o), (1, .ref a)], [.ref a, .int 1], M)) rfl rfl rfl ?_
    refine ps_get (S' := (37, [(2, .int 1), (0, .ref o), (1, .ref a)], [.null, .int 1], M)) rfl h_a rfl rfl ?_
    refine ps_st (S' := (44, [(2, .int 1), (0, .ref o), (1, .ref a)], [.int 1], M)) rfl rfl rfl ?_
    refine ps_st (S' := (45, [(0, .ref o), (1, .ref a)], [.int 0, .int 1], M)) rfl rfl rfl ?_
    refine ps_if2 (S1 := (64, [], [], M)) (S2 := (48, [(0, .ref o), (1, .ref a)], [], M)) rfl rfl rfl (fun c_45 => ?_) (fun c_45 => ?_)
    · exact absurd (of_decide_eq_true c_45) (by decide)
    refine ps_st (S' := (49, [(0, .ref o), (1, .ref a)], [.ref o], M)) rfl rfl rfl ?_
    refine ps_get (S' := (52, [(0, .ref o), (1, .ref a)], [.ref vd], M)) rfl h_o rfl rfl ?_
    refine ps_st (S' := (54, [(0, .ref o), (1, .ref a)], [.int 27, .ref vd], M)) rfl rfl rfl ?_
    refine ps_st (S' := (55, [(0, .ref o), (1, .ref a)], [.ref a, .int 27, .ref vd], M)) rfl rfl rfl ?_
    refine ps_get (S' := (58, [(0, .ref o), (1, .ref a)], [.int (nI b0), .int 27, .ref vd], M)) rfl h_a rfl rfl ?_
    refine pl_call (a := [.ref vd, .int 27, .int (nI b0)]) (rest := []) rfl rfl rfl (dk_wrong (vd := vd) (ru := ru) (wa := wa) (x1 := 27) (x2 := (nI b0)) h_vd) (fun v4 M5 q6 => ?_)
    obtain ⟨rfl, h7, f8⟩ := q6
    have h10 := (f8.1 o (nin1 (ob_ne h_o h_vd (by decide)))).trans h_o
    have h11 := (f8.1 c (nin1 (ob_ne h_c h_vd (by decide)))).trans h_c
    have h12 := (f8.1 b (nin1 (ob_ne h_b h_vd (by decide)))).trans h_b
    have h13 := (f8.1 da (nin1 (Ne.symm (ob_ar h_vd h_da)))).trans h_da
    have h14 := (f8.1 a (nin1 (ob_ne h_a h_vd (by decide)))).trans h_a
    have hF15 := hF.tr f8 (by simp)
    have hV16 := hV.keep f8.gm (n7c h_vd (by decide) (n7nil))
    show pl _ _ _ (61, [(0, .ref o), (1, .ref a)], [.int 0], M5) _
    refine ps_if (S1 := (68, [(0, .ref o), (1, .ref a)], [], M5)) (S2 := (64, [], [], M5)) rfl rfl rfl (fun c_61 => ?_) (fun c_61 => ?_)
    rotate_left
    · exact absurd (by decide) (of_decide_eq_false c_61)
    refine ps_st (S' := (69, [], [.int 0], M5)) rfl rfl rfl ?_
    exact ps_ret rfl rfl (Or.inr ⟨(27, b0), by
        unfold cduS
        first | ((repeat first | rw [if_pos (by omega)] | rw [if_neg (by omega)]) <;> first | rfl | omega) | ((repeat' split) <;> first | rfl | (exfalso; omega) | omega), rfl, h7, hF15⟩)
  · have c_13 : ¬ (¬ (nI (eqN (tX f n E (by2 f (b0 + 2))) (ltx 13))) = 0) := of_decide_eq_false c_13
    have n_13 : eqN (tX f n E (by2 f (b0 + 2))) (ltx 13) = 0 := (eq_nI (p := eqN (tX f n E (by2 f (b0 + 2))) (ltx 13)) (n := 0) (Nat.lt_trans (le1_eq _ _) (by decide)) (by decide)).mp (Decidable.not_not.mp c_13)
    refine ps_st (S' := (17, [(0, .ref o), (1, .ref a)], [.ref a], M)) rfl rfl rfl ?_
    refine ps_st (S' := (20, [(0, .ref o), (1, .ref a)], [.int 1280, .ref a], M)) rfl rfl rfl ?_
    refine pl_call (a := [.ref a, .int 1280]) (rest := []) rfl rfl rfl (dk_mhas (f := f) (a := a) (b0 := b0) (kn := kn) (co := co) (ap := ap) (ex := ex) (cd := .null) (x := 1280) h_a) (fun v17 M18 q19 => ?_)
    obtain ⟨rfl, rfl⟩ := q19
    show pl _ _ _ (23, [(0, .ref o), (1, .ref a)], [.int (nI (hasN (by2 f b0) 1280))], M) _
    refine ps_if (S1 := (30, [(0, .ref o), (1, .ref a)], [], M)) (S2 := (26, [(0, .ref o), (1, .ref a)], [], M)) rfl rfl rfl (fun c_23 => ?_) (fun c_23 => ?_)
    · have c_23 : ¬ (nI (hasN (by2 f b0) 1280)) = 0 := of_decide_eq_true c_23
      have n_23 : ¬ (hasN (by2 f b0) 1280 = 0) := fun h9 => c_23 ((eq_nI (p := hasN (by2 f b0) 1280) (n := 0) (Nat.lt_trans (le1_has _ _) (by decide)) (by decide)).mpr h9)
      refine ps_st (S' := (31, [(0, .ref o), (1, .ref a)], [.int 0], M)) rfl rfl rfl ?_
      refine ps_st (S' := (32, [(2, .int 0), (0, .ref o), (1, .ref a)], [], M)) rfl rfl rfl ?_
      refine ps_st (S' := (33, [(2, .int 0), (0, .ref o), (1, .ref a)], [.int 0], M)) rfl rfl rfl ?_
      refine ps_st (S' := (34, [(2, .int 0), (0, .ref o), (1, .ref a)], [.ref a, .int 0], M)) rfl rfl rfl ?_
      refine ps_get (S' := (37, [(2, .int 0), (0, .ref o), (1, .ref a)], [.null, .int 0], M)) rfl h_a rfl rfl ?_
      refine ps_st (S' := (44, [(2, .int 0), (0, .ref o), (1, .ref a)], [.int 0], M)) rfl rfl rfl ?_
      refine ps_st (S' := (45, [(0, .ref o), (1, .ref a)], [.int 0, .int 0], M)) rfl rfl rfl ?_
      refine ps_if2 (S1 := (64, [], [], M)) (S2 := (48, [(0, .ref o), (1, .ref a)], [], M)) rfl rfl rfl (fun c_45 => ?_) (fun c_45 => ?_)
      rotate_left
      · exact absurd (by decide) (of_decide_eq_false c_45)
      refine ps_st (S' := (65, [], [.int 1], M)) rfl rfl rfl ?_
      refine ps_st (S' := (69, [], [.int 1], M)) rfl rfl rfl ?_
      exact ps_ret rfl rfl (Or.inl ⟨by
          unfold cduS
          first | ((repeat first | rw [if_pos (by omega)] | rw [if_neg (by omega)]) <;> first | rfl | omega) | ((repeat' split) <;> first | rfl | (exfalso; omega) | omega), rfl, h_vd, hF⟩)
    · have c_23 : ¬ (¬ (nI (hasN (by2 f b0) 1280)) = 0) := of_decide_eq_false c_23
      have n_23 : hasN (by2 f b0) 1280 = 0 := (eq_nI (p := hasN (by2 f b0) 1280) (n := 0) (Nat.lt_trans (le1_has _ _) (by decide)) (by decide)).mp (Decidable.not_not.mp c_23)
      refine ps_st (S' := (27, [(0, .ref o), (1, .ref a)], [.int 1], M)) rfl rfl rfl ?_
      refine ps_st (S' := (31, [(0, .ref o), (1, .ref a)], [.int 1], M)) rfl rfl rfl ?_
      refine ps_st (S' := (32, [(2, .int 1), (0, .ref o), (1, .ref a)], [], M)) rfl rfl rfl ?_
      refine ps_st (S' := (33, [(2, .int 1), (0, .ref o), (1, .ref a)], [.int 1], M)) rfl rfl rfl ?_
      refine ps_st (S' := (34, [(2, .int 1), (0, .ref o), (1, .ref a)], [.ref a, .int 1], M)) rfl rfl rfl ?_
      refine ps_get (S' := (37, [(2, .int 1), (0, .ref o), (1, .ref a)], [.null, .int 1], M)) rfl h_a rfl rfl ?_
      refine ps_st (S' := (44, [(2, .int 1), (0, .ref o), (1, .ref a)], [.int 1], M)) rfl rfl rfl ?_
      refine ps_st (S' := (45, [(0, .ref o), (1, .ref a)], [.int 0, .int 1], M)) rfl rfl rfl ?_
      refine ps_if2 (S1 := (64, [], [], M)) (S2 := (48, [(0, .ref o), (1, .ref a)], [], M)) rfl rfl rfl (fun c_45 => ?_) (fun c_45 => ?_)
      · exact absurd (of_decide_eq_true c_45) (by decide)
      refine ps_st (S' := (49, [(0, .ref o), (1, .ref a)], [.ref o], M)) rfl rfl rfl ?_
      refine ps_get (S' := (52, [(0, .ref o), (1, .ref a)], [.ref vd], M)) rfl h_o rfl rfl ?_
      refine ps_st (S' := (54, [(0, .ref o), (1, .ref a)], [.int 27, .ref vd], M)) rfl rfl rfl ?_
      refine ps_st (S' := (55, [(0, .ref o), (1, .ref a)], [.ref a, .int 27, .ref vd], M)) rfl rfl rfl ?_
      refine ps_get (S' := (58, [(0, .ref o), (1, .ref a)], [.int (nI b0), .int 27, .ref vd], M)) rfl h_a rfl rfl ?_
      refine pl_call (a := [.ref vd, .int 27, .int (nI b0)]) (rest := []) rfl rfl rfl (dk_wrong (vd := vd) (ru := ru) (wa := wa) (x1 := 27) (x2 := (nI b0)) h_vd) (fun v20 M21 q22 => ?_)
      obtain ⟨rfl, h23, f24⟩ := q22
      have h26 := (f24.1 o (nin1 (ob_ne h_o h_vd (by decide)))).trans h_o
      have h27 := (f24.1 c (nin1 (ob_ne h_c h_vd (by decide)))).trans h_c
      have h28 := (f24.1 b (nin1 (ob_ne h_b h_vd (by decide)))).trans h_b
      have h29 := (f24.1 da (nin1 (Ne.symm (ob_ar h_vd h_da)))).trans h_da
      have h30 := (f24.1 a (nin1 (ob_ne h_a h_vd (by decide)))).trans h_a
      have hF31 := hF.tr f24 (by simp)
      have hV32 := hV.keep f24.gm (n7c h_vd (by decide) (n7nil))
      show pl _ _ _ (61, [(0, .ref o), (1, .ref a)], [.int 0], M21) _
      refine ps_if (S1 := (68, [(0, .ref o), (1, .ref a)], [], M21)) (S2 := (64, [], [], M21)) rfl rfl rfl (fun c_61 => ?_) (fun c_61 => ?_)
      rotate_left
      · exact absurd (by decide) (of_decide_eq_false c_61)
      refine ps_st (S' := (69, [], [.int 0], M21)) rfl rfl rfl ?_
      exact ps_ret rfl rfl (Or.inr ⟨(27, b0), by
          unfold cduS
          first | ((repeat first | rw [if_pos (by omega)] | rw [if_neg (by omega)]) <;> first | rfl | omega) | ((repeat' split) <;> first | rfl | (exfalso; omega) | omega), rfl, h23, hF31⟩)
set_option maxHeartbeats 1000000 in
theorem dk_codeIsDue_y {g : xe_G} {M : mi_H} {f : Nat → Int32} {n N q : Nat} {E : List (Nat × Nat)} {o c b da vd ac fr mr fa ic mj na pa : Nat} {mi ru wa k1 k2 k3 k4 k5 k6 k7 : Int32} {a b0 : Nat} {kn co ap ex : Int32} {z9 : Nat} (h_o : M.1 o = some (ob 2 [.ref c, .ref b, .ref q, .ref vd, .ref ac])) (h_c : M.1 c = some (ob 3 [.ref b, .ref q, .int mi, .int (nI mj), .int (nI fa), .int (nI ic), .ref fr, .ref mr, .int (nI na), .int (nI pa), .int k1, .int k2, .int k3, .int k4, .int k5, .int k6, .int k7])) (h_b : M.1 b = some (ob 1 [.ref da])) (h_da : M.1 da = some (ar .byte n f)) (h_vd : M.1 vd = some (ob 10 [.int ru, .int wa])) (h_a : M.1 a = some (ob 6 [.int (nI b0), .int (nI (by2 f b0)), .int (nI (by2 f (b0 + 2))), .int (nI (by2 f (b0 + 4))), .int (nI (by2 f (b0 + 6))), .int (nI (b0 + 8)), .int kn, .int co, .int ap, .int ex, .ref z9])) (hn : n ≤ 65540) (hmj : mj < 65536) (hfa : fa + 8 ≤ n) (hV : PV g f n N E q M) : pt (mT g) 54 [.ref o, .ref a] M (fun v M' => ((cduS f n E b0 1 = none) ∧ v = some (.int 1) ∧ M'.1 vd = some (ob 10 [.int ru, .int wa]) ∧ fm [vd] M M') ∨ (∃ (e : Nat × Nat), (cduS f n E b0 1 = some e) ∧ v = some (.int 0) ∧ M'.1 vd = some (ob 10 [.int (nI e.1), .int (nI e.2)]) ∧ fm [vd] M M')) := by
  refine pt_in (b := mb_54 g) rfl (fun kf => ?_)
  show pl (mT g) kf (mb_54 g).2 (0, [(0, .ref o), (1, .ref a)], [], M) _
  have hF : fm [vd] M M := fm.rf
  refine ps_st (S' := (1, [(0, .ref o), (1, .ref a)], [.ref o], M)) rfl rfl rfl ?_
  refine ps_get (S' := (4, [(0, .ref o), (1, .ref a)], [.ref q], M)) rfl h_o rfl rfl ?_
  refine ps_st (S' := (5, [(0, .ref o), (1, .ref a)], [.ref a, .ref q], M)) rfl rfl rfl ?_
  refine ps_get (S' := (8, [(0, .ref o), (1, .ref a)], [.int (nI (by2 f (b0 + 2))), .ref q], M)) rfl h_a rfl rfl ?_
  refine ps_st (S' := (10, [(0, .ref o), (1, .ref a)], [.ref (g.2.1 13), .int (nI (by2 f (b0 + 2))), .ref q], M)) rfl rfl rfl ?_
  refine pl_call (a := [.ref q, .int (nI (by2 f (b0 + 2))), .ref (g.2.1 13)]) (rest := []) rfl rfl rfl (dy_textIs (f := f) (n := n) (N := N) (q := q) (E := E) (j := (by2 f (b0 + 2))) (k := 13) (hV) (by2_lt _ _) (by decide)) (fun v1 M2 q3 => ?_)
  obtain ⟨rfl, rfl⟩ := q3
  show pl _ _ _ (13, [(0, .ref o), (1, .ref a)], [.int (nI (eqN (tX f n E (by2 f (b0 + 2))) (ltx 13)))], M) _
  refine ps_if (S1 := (26, [(0, .ref o), (1, .ref a)], [], M)) (S2 := (16, [(0, .ref o), (1, .ref a)], [], M)) rfl rfl rfl (fun c_13 => ?_) (fun c_13 => ?_)
  · have c_13 : ¬ (nI (eqN (tX f n E (by2 f (b0 + 2))) (ltx 13))) = 0 := of_decide_eq_true c_13
    have n_13 : ¬ (eqN (tX f n E (by2 f (b0 + 2))) (ltx 13) = 0) := fun h9 => c_13 ((eq_nI (p := eqN (tX f n E (by2 f (b0 + 2))) (ltx 13)) (n := 0) (Nat.lt_trans (le1_eq _ _) (by decide)) (by decide)).mpr h9)
    refine ps_st (S' := (27, [(0, .ref o), (1, .ref a)], [.int 1], M)) rfl rfl rfl ?_
    refine ps_st (S' := (31, [(0, .ref o), (1, .ref a)], [.int 1], M)) rfl rfl rfl ?_
    refine ps_st (S' := (32, [(2, .int 1), (0, .ref o), (1, .ref a)], [], M)) rfl rfl rfl ?_
    refine ps_st (S' := (33, [(2, .int 1), (0, .ref o), (1, .ref a)], [.int 1], M)) rfl rfl rfl ?_
    refine ps_st (S' := (34, [(2, .int 1), (0, .ref o), (1, .ref a)], [.ref a, .int 1], M)) rfl rfl rfl ?_
    refine ps_get (S' := (37, [(2, .int 1), (0, .ref o), (1, .ref a)], [.ref z9, .int 1], M)) rfl h_a rfl rfl ?_
    refine ps_st (S' := (40, [(2, .int 1), (0, .ref o), (1, .ref a)], [.int 1], M)) rfl rfl rfl ?_
    refine ps_st (S' := (41, [(2, .int 1), (0, .ref o), (1, .ref a)], [.int 1, .int 1], M)) rfl rfl rfl ?_
    refine ps_st (S' := (45, [(0, .ref o), (1, .ref a)], [.int 1, .int 1], M)) rfl rfl rfl ?_
    refine ps_if2 (S1 := (64, [], [], M)) (S2 := (48, [(0, .ref o), (1, .ref a)], [], M)) rfl rfl rfl (fun c_45 => ?_) (fun c_45 => ?_)
    rotate_left
    · exact absurd (by decide) (of_decide_eq_false c_45)
    refine ps_st (S' := (65, [], [.int 1], M)) rfl rfl rfl ?_
    refine ps_st (S' := (69, [], [.int 1], M)) rfl rfl rfl ?_
    exact ps_ret rfl rfl (Or.inl ⟨by
        unfold cduS
        first | ((repeat first | rw [if_pos (by omega)] | rw [if_neg (by omega)]) <;> first | rfl | omega) | ((repeat' split) <;> first | rfl | (exfalso; omega) | omega), rfl, h_vd, hF⟩)
  · have c_13 : ¬ (¬ (nI (eqN (tX f n E (by2 f (b0 + 2))) (ltx 13))) = 0) := of_decide_eq_false c_13
    have n_13 : eqN (tX f n E (by2 f (b0 + 2))) (ltx 13) = 0 := (eq_nI (p := eqN (tX f n E (by2 f (b0 + 2))) (ltx 13)) (n := 0) (Nat.lt_trans (le1_eq _ _) (by decide)) (by decide)).mp (Decidable.not_not.mp c_13)
    refine ps_st (S' := (17, [(0, .ref o), (1, .ref a)], [.ref a], M)) rfl rfl rfl ?_
    refine ps_st (S' := (20, [(0, .ref o), (1, .ref a)], [.int 1280, .ref a], M)) rfl rfl rfl ?_
    refine pl_call (a := [.ref a, .int 1280]) (rest := []) rfl rfl rfl (dk_mhas (f := f) (a := a) (b0 := b0) (kn := kn) (co := co) (ap := ap) (ex := ex) (cd := .ref z9) (x := 1280) h_a) (fun v4 M5 q6 => ?_)
    obtain ⟨rfl, rfl⟩ := q6
    show pl _ _ _ (23, [(0, .ref o), (1, .ref a)], [.int (nI (hasN (by2 f b0) 1280))], M) _
    refine ps_if (S1 := (30, [(0, .ref o), (1, .ref a)], [], M)) (S2 := (26, [(0, .ref o), (1, .ref a)], [], M)) rfl rfl rfl (fun c_23 => ?_) (fun c_23 => ?_)
    · have c_23 : ¬ (nI (hasN (by2 f b0) 1280)) = 0 := of_decide_eq_true c_23
      have n_23 : ¬ (hasN (by2 f b0) 1280 = 0) := fun h9 => c_23 ((eq_nI (p := hasN (by2 f b0) 1280) (n := 0) (Nat.lt_trans (le1_has _ _) (by decide)) (by decide)).mpr h9)
      refine ps_st (S' := (31, [(0, .ref o), (1, .ref a)], [.int 0], M)) rfl rfl rfl ?_
      refine ps_st (S' := (32, [(2, .int 0), (0, .ref o), (1, .ref a)], [], M)) rfl rfl rfl ?_
      refine ps_st (S' := (33, [(2, .int 0), (0, .ref o), (1, .ref a)], [.int 0], M)) rfl rfl rfl ?_
      refine ps_st (S' := (34, [(2, .int 0), (0, .ref o), (1, .ref a)], [.ref a, .int 0], M)) rfl rfl rfl ?_
      refine ps_get (S' := (37, [(2, .int 0), (0, .ref o), (1, .ref a)], [.ref z9, .int 0], M)) rfl h_a rfl rfl ?_
      refine ps_st (S' := (40, [(2, .int 0), (0, .ref o), (1, .ref a)], [.int 0], M)) rfl rfl rfl ?_
      refine ps_st (S' := (41, [(2, .int 0), (0, .ref o), (1, .ref a)], [.int 1, .int 0], M)) rfl rfl rfl ?_
      refine ps_st (S' := (45, [(0, .ref o), (1, .ref a)], [.int 1, .int 0], M)) rfl rfl rfl ?_
      refine ps_if2 (S1 := (64, [], [], M)) (S2 := (48, [(0, .ref o), (1, .ref a)], [], M)) rfl rfl rfl (fun c_45 => ?_) (fun c_45 => ?_)
      · exact absurd (of_decide_eq_true c_45) (by decide)
      refine ps_st (S' := (49, [(0, .ref o), (1, .ref a)], [.ref o], M)) rfl rfl rfl ?_
      refine ps_get (S' := (52, [(0, .ref o), (1, .ref a)], [.ref vd], M)) rfl h_o rfl rfl ?_
      refine ps_st (S' := (54, [(0, .ref o), (1, .ref a)], [.int 27, .ref vd], M)) rfl rfl rfl ?_
      refine ps_st (S' := (55, [(0, .ref o), (1, .ref a)], [.ref a, .int 27, .ref vd], M)) rfl rfl rfl ?_
      refine ps_get (S' := (58, [(0, .ref o), (1, .ref a)], [.int (nI b0), .int 27, .ref vd], M)) rfl h_a rfl rfl ?_
      refine pl_call (a := [.ref vd, .int 27, .int (nI b0)]) (rest := []) rfl rfl rfl (dk_wrong (vd := vd) (ru := ru) (wa := wa) (x1 := 27) (x2 := (nI b0)) h_vd) (fun v7 M8 q9 => ?_)
      obtain ⟨rfl, h10, f11⟩ := q9
      have h13 := (f11.1 o (nin1 (ob_ne h_o h_vd (by decide)))).trans h_o
      have h14 := (f11.1 c (nin1 (ob_ne h_c h_vd (by decide)))).trans h_c
      have h15 := (f11.1 b (nin1 (ob_ne h_b h_vd (by decide)))).trans h_b
      have h16 := (f11.1 da (nin1 (Ne.symm (ob_ar h_vd h_da)))).trans h_da
      have h17 := (f11.1 a (nin1 (ob_ne h_a h_vd (by decide)))).trans h_a
      have hF18 := hF.tr f11 (by simp)
      have hV19 := hV.keep f11.gm (n7c h_vd (by decide) (n7nil))
      show pl _ _ _ (61, [(0, .ref o), (1, .ref a)], [.int 0], M8) _
      refine ps_if (S1 := (68, [(0, .ref o), (1, .ref a)], [], M8)) (S2 := (64, [], [], M8)) rfl rfl rfl (fun c_61 => ?_) (fun c_61 => ?_)
      rotate_left
      · exact absurd (by decide) (of_decide_eq_false c_61)
      refine ps_st (S' := (69, [], [.int 0], M8)) rfl rfl rfl ?_
      exact ps_ret rfl rfl (Or.inr ⟨(27, b0), by
          unfold cduS
          first | ((repeat first | rw [if_pos (by omega)] | rw [if_neg (by omega)]) <;> first | rfl | omega) | ((repeat' split) <;> first | rfl | (exfalso; omega) | omega), rfl, h10, hF18⟩)
    · have c_23 : ¬ (¬ (nI (hasN (by2 f b0) 1280)) = 0) := of_decide_eq_false c_23
      have n_23 : hasN (by2 f b0) 1280 = 0 := (eq_nI (p := hasN (by2 f b0) 1280) (n := 0) (Nat.lt_trans (le1_has _ _) (by decide)) (by decide)).mp (Decidable.not_not.mp c_23)
      refine ps_st (S' := (27, [(0, .ref o), (1, .ref a)], [.int 1], M)) rfl rfl rfl ?_
      refine ps_st (S' := (31, [(0, .ref o), (1, .ref a)], [.int 1], M)) rfl rfl rfl ?_
      refine ps_st (S' := (32, [(2, .int 1), (0, .ref o), (1, .ref a)], [], M)) rfl rfl rfl ?_
      refine ps_st (S' := (33, [(2, .int 1), (0, .ref o), (1, .ref a)], [.int 1], M)) rfl rfl rfl ?_
      refine ps_st (S' := (34, [(2, .int 1), (0, .ref o), (1, .ref a)], [.ref a, .int 1], M)) rfl rfl rfl ?_
      refine ps_get (S' := (37, [(2, .int 1), (0, .ref o), (1, .ref a)], [.ref z9, .int 1], M)) rfl h_a rfl rfl ?_
      refine ps_st (S' := (40, [(2, .int 1), (0, .ref o), (1, .ref a)], [.int 1], M)) rfl rfl rfl ?_
      refine ps_st (S' := (41, [(2, .int 1), (0, .ref o), (1, .ref a)], [.int 1, .int 1], M)) rfl rfl rfl ?_
      refine ps_st (S' := (45, [(0, .ref o), (1, .ref a)], [.int 1, .int 1], M)) rfl rfl rfl ?_
      refine ps_if2 (S1 := (64, [], [], M)) (S2 := (48, [(0, .ref o), (1, .ref a)], [], M)) rfl rfl rfl (fun c_45 => ?_) (fun c_45 => ?_)
      rotate_left
      · exact absurd (by decide) (of_decide_eq_false c_45)
      refine ps_st (S' := (65, [], [.int 1], M)) rfl rfl rfl ?_
      refine ps_st (S' := (69, [], [.int 1], M)) rfl rfl rfl ?_
      exact ps_ret rfl rfl (Or.inl ⟨by
          unfold cduS
          first | ((repeat first | rw [if_pos (by omega)] | rw [if_neg (by omega)]) <;> first | rfl | omega) | ((repeat' split) <;> first | rfl | (exfalso; omega) | omega), rfl, h_vd, hF⟩)
end
section
/-! forms of attributes (laid by wip/p4/d11.py) -/
/-! forms of attributes (my own text) -/
section FMA
/-- where c attributes end that begin at p; none: beyond e -/
def s_atE (f : Nat → Int32) (e : Nat) : Nat → Nat → Option Nat
  | 0, p => some p
  | c + 1, p => if e < p + 6 then none else if e < p + 6 + by4 f (p + 2) then none else s_atE f e c (p + 6 + by4 f (p + 2))
def s_bsE (f : Nat → Int32) (e : Nat) : Nat → Nat → Option Nat
  | 0, p => some p
  | c + 1, p => if e < p + 4 then none else s_bsE f e c (p + 4 + 2 * by2 f (p + 2))
def s_rcE (f : Nat → Int32) (e : Nat) : Nat → Nat → Option Nat
  | 0, p => some p
  | c + 1, p => if e < p + 6 then none else match s_atE f e (by2 f (p + 4)) (p + 6) with
    | none => none
    | some p' => s_rcE f e c p'
def s_cdE (f : Nat → Int32) (e p : Nat) : Option Nat :=
  if e < p + 8 then none else if e < p + 8 + by4 f (p + 4) then none else if e < p + 8 + by4 f (p + 4) + 2 + 8 * by2 f (p + 8 + by4 f (p + 4)) + 2 then none else
  s_atE f e (by2 f (p + 8 + by4 f (p + 4) + 2 + 8 * by2 f (p + 8 + by4 f (p + 4)))) (p + 8 + by4 f (p + 4) + 2 + 8 * by2 f (p + 8 + by4 f (p + 4)) + 2)
/-- where the form of aN attribute of this kind ends -/
def s_fe (f : Nat → Int32) (k p e : Nat) : Option Nat :=
  if e < p + 2 then none else if k = 1 ∨ k = 7 then some (p + 2) else if k = 3 ∨ k = 8 ∨ k = 10 then some (p + 2 + 2 * by2 f p) else if k = 5 then some (p + 2 + 8 * by2 f p) else
  if k = 6 then s_bsE f e (by2 f p) (p + 2) else if k = 9 then s_rcE f e (by2 f p) (p + 2) else s_cdE f e p
theorem s_atE_st {f : Nat → Int32} {e c i p : Nat} (h : i < c) : s_atE f e (c - i) p = if e < p + 6 then none else if e < p + 6 + by4 f (p + 2) then none else s_atE f e (c - (i + 1)) (p + 6 + by4 f (p + 2)) := by
  rw [show c - i = (c - (i + 1)) + 1 by omega]
  rfl
theorem s_bsE_st {f : Nat → Int32} {e c i p : Nat} (h : i < c) : s_bsE f e (c - i) p = if e < p + 4 then none else s_bsE f e (c - (i + 1)) (p + 4 + 2 * by2 f (p + 2)) := by
  rw [show c - i = (c - (i + 1)) + 1 by omega]
  rfl
theorem s_rcE_st {f : Nat → Int32} {e c i p : Nat} (h : i < c) : s_rcE f e (c - i) p = if e < p + 6 then none else match s_atE f e (by2 f (p + 4)) (p + 6) with
    | none => none
    | some p' => s_rcE f e (c - (i + 1)) p' := by
  rw [show c - i = (c - (i + 1)) + 1 by omega]
  rfl
theorem s_atE_le {f : Nat → Int32} {e : Nat} : ∀ {c p x : Nat}, p ≤ e → s_atE f e c p = some x → p ≤ x ∧ x ≤ e := by
  intro c
  induction c with
  | zero => intro p x hp h; cases h; omega
  | succ c ih =>
    intro p x hp h
    unfold s_atE at h
    split at h
    · cases h
    · split at h
      · cases h
      · have := ih (by omega) h
        omega
end FMA
section FMB
/-- kinds that were seen, as bits -/
def sb (s k : Nat) : Nat := if s.testBit k then 1 else 0
def so (s k : Nat) : Nat := s ||| 2 ^ k
theorem sb_lt (s k : Nat) : sb s k < 2 := by unfold sb; split <;> decide
theorem sb_so {s k j : Nat} : sb (so s k) j = if j = k then 1 else sb s j := by
  unfold sb so
  rw [Nat.testBit_or, Nat.testBit_two_pow]
  by_cases h : j = k
  · subst h
    simp
  · rw [if_neg h]
    simp [Ne.symm h]
theorem so_lt {s k : Nat} (hs : s < 2048) (hk : k < 11) : so s k < 2048 := Nat.or_lt_two_pow (n := 11) hs (Nat.pow_lt_pow_right (by decide) hk)
theorem sb0 (k : Nat) : sb 0 k = 0 := by unfold sb; simp
theorem shr_k (s : Nat) (hs : s < 2048) : ∀ k, k < 11 → (nI s >>> (nI k &&& 31)) &&& 1 = nI (sb s k) := by
  intro k hk
  have h1 : (nI k &&& 31 : Int32) = nI k := by
    have : ∀ k, k < 11 → (nI k &&& 31 : Int32) = nI k := by decide +kernel
    exact this k hk
  rw [h1]
  apply Int32.toBitVec_inj.mp
  apply BitVec.eq_of_toNat_eq
  rw [Int32.toBitVec_and, BitVec.toNat_and]
  have e1 : (nI s >>> nI k).toBitVec.toNat = s >>> k := by
    rw [Int32.toBitVec_shiftRight, nI_bv, nI_bv]
    have e2 : (BitVec.ofNat 32 k).smod 32 = BitVec.ofNat 32 k := by
      have hsm : ∀ s, s < 32 → (BitVec.ofNat 32 s).smod 32 = BitVec.ofNat 32 s := by decide +kernel
      exact hsm k (by omega)
    rw [e2]
    have hm : (BitVec.ofNat 32 s).msb = false := by
      rw [BitVec.msb_eq_decide]
      simp only [BitVec.toNat_ofNat]
      rw [Nat.mod_eq_of_lt (by omega)]
      simp
      omega
    rw [BitVec.sshiftRight_eq', BitVec.sshiftRight_eq_of_msb_false hm]
    simp only [BitVec.toNat_ushiftRight, BitVec.toNat_ofNat]
    rw [Nat.mod_eq_of_lt (show s < 2 ^ 32 by omega), Nat.mod_eq_of_lt (show k < 2 ^ 32 by omega)]
  rw [e1]
  show s >>> k &&& 1 = sb s k % 2 ^ 32
  unfold sb
  rw [Nat.and_one_is_mod]
  rw [Nat.testBit_eq_decide_div_mod_eq]
  rw [Nat.shiftRight_eq_div_pow]
  have h3 : s / 2 ^ k % 2 = 0 ∨ s / 2 ^ k % 2 = 1 := by omega
  rcases h3 with h3 | h3
  · rw [h3]
    simp
  · rw [h3]
    simp
theorem or_k (s : Nat) : ∀ k, k < 11 → (nI s ||| ((1 : Int32) <<< (nI k &&& 31))) = nI (so s k) := by
  intro k hk
  have h1 : ((1 : Int32) <<< (nI k &&& 31)) = nI (2 ^ k) := by
    have : ∀ k, k < 11 → ((1 : Int32) <<< (nI k &&& 31)) = nI (2 ^ k) := by decide +kernel
    exact this k hk
  rw [h1, nI_or]
  rfl
end FMB
set_option maxHeartbeats 1000000 in
theorem dk_attributesEnd {g : xe_G} {M : mi_H} {f : Nat → Int32} {n b da : Nat} {p0 e t : Nat} (h_b : M.1 b = some (ob 1 [.ref da])) (h_da : M.1 da = some (ar .byte n f)) (hn : n ≤ 65540) (he : e ≤ n ∧ p0 ≤ e) (ht : t < 65536) : pt (mT g) 45 [.ref b, .int (nI p0), .int (nI t), .int (nI e)] M (fun v M' => ((s_atE f e t p0 = none) ∧ v = some (.int (-1)) ∧ M = M') ∨ (∃ (x : Nat), (s_atE f e t p0 = some x) ∧ (x < 1000000) ∧ v = some (.int (nI x)) ∧ M = M')) := by
  refine pt_in (b := mb_45 g) rfl (fun kf => ?_)
  show pl (mT g) kf (mb_45 g).2 (0, [(0, .ref b), (1, .int (nI p0)), (2, .int (nI t)), (3, .int (nI e))], [], M) _
  have LL : ∀ (kf : Nat), (∀ (i p : Nat), (i ≤ t) → (p0 ≤ p ∧ p ≤ e) → (s_atE f e (t - i) p = s_atE f e t p0) →  pl (mT g) kf (mb_45 g).2 (6, [(0, .ref b), (2, .int (nI t)), (3, .int (nI e)), (4, .int (nI p)), (5, .int (nI i))], [], M) (fun v M' => ((s_atE f e t p0 = none) ∧ v = some (.int (-1)) ∧ M = M') ∨ (∃ (x : Nat), (s_atE f e t p0 = some x) ∧ (x < 1000000) ∧ v = some (.int (nI x)) ∧ M = M'))) := by
    intro kf
    induction kf with
    | zero => exact (by intros; exact pl_0)
    | succ kf ih =>
      intro i p hi hp hs
      refine ps_st1 (S' := (8, [(0, .ref b), (2, .int (nI t)), (3, .int (nI e)), (4, .int (nI p)), (5, .int (nI i))], [.int (nI i)], M)) rfl rfl rfl ?_
      refine ps_st (S' := (9, [(0, .ref b), (2, .int (nI t)), (3, .int (nI e)), (4, .int (nI p)), (5, .int (nI i))], [.int (nI t), .int (nI i)], M)) rfl rfl rfl ?_
      refine ps_if2 (S1 := (68, [(0, .ref b), (2, .int (nI t)), (3, .int (nI e)), (4, .int (nI p)), (5, .int (nI i))], [], M)) (S2 := (12, [(0, .ref b), (2, .int (nI t)), (3, .int (nI e)), (4, .int (nI p)), (5, .int (nI i))], [], M)) rfl rfl rfl (fun c_9 => ?_) (fun c_9 => ?_)
      · have c_9 : (nI t) ≤ (nI i) := of_decide_eq_true c_9
        have n_9 : t ≤ i := (le_nI (p := t) (n := i) (by omega) (by omega)).mp c_9
        refine ps_st (S' := (70, [(0, .ref b), (2, .int (nI t)), (3, .int (nI e)), (4, .int (nI p)), (5, .int (nI i))], [.int (nI p)], M)) rfl rfl rfl ?_
        exact ps_reti rfl (Or.inr ⟨p, by
            rw [← hs]
            rw [show t - i = 0 by omega]
            rfl, by omega, rfl, rfl⟩)
      · have c_9 : ¬ ((nI t) ≤ (nI i)) := of_decide_eq_false c_9
        have n_9 : ¬ (t ≤ i) := fun h9 => c_9 ((le_nI (p := t) (n := i) (by omega) (by omega)).mpr h9)
        refine ps_st (S' := (13, [(0, .ref b), (2, .int (nI t)), (3, .int (nI e)), (4, .int (nI p)), (5, .int (nI i))], [.int (nI e)], M)) rfl rfl rfl ?_
        refine ps_st (S' := (15, [(0, .ref b), (2, .int (nI t)), (3, .int (nI e)), (4, .int (nI p)), (5, .int (nI i))], [.int (nI p), .int (nI e)], M)) rfl rfl rfl ?_
        refine ps_st (S' := (16, [(0, .ref b), (2, .int (nI t)), (3, .int (nI e)), (4, .int (nI p)), (5, .int (nI i))], [.int ((nI e) - (nI p))], M)) rfl rfl rfl ?_
        refine ps_st (S' := (18, [(0, .ref b), (2, .int (nI t)), (3, .int (nI e)), (4, .int (nI p)), (5, .int (nI i))], [.int 6, .int ((nI e) - (nI p))], M)) rfl rfl rfl ?_
        refine ps_if2 (S1 := (23, [(0, .ref b), (2, .int (nI t)), (3, .int (nI e)), (4, .int (nI p)), (5, .int (nI i))], [], M)) (S2 := (21, [(0, .ref b), (2, .int (nI t)), (3, .int (nI e)), (4, .int (nI p)), (5, .int (nI i))], [], M)) rfl rfl rfl (fun c_18 => ?_) (fun c_18 => ?_)
        · have c_18 : 6 ≤ ((nI e) - (nI p)) := of_decide_eq_true c_18
          have n_18 : 6 + p ≤ e := (le_sub1 (e := e) (p := p) (k := 6) (by omega) (by omega) (by omega)).mp c_18
          refine ps_st (S' := (24, [(0, .ref b), (2, .int (nI t)), (3, .int (nI e)), (4, .int (nI p)), (5, .int (nI i))], [.ref b], M)) rfl rfl rfl ?_
          refine ps_st (S' := (26, [(0, .ref b), (2, .int (nI t)), (3, .int (nI e)), (4, .int (nI p)), (5, .int (nI i))], [.int (nI p), .ref b], M)) rfl rfl rfl ?_
          refine ps_st (S' := (27, [(0, .ref b), (2, .int (nI t)), (3, .int (nI e)), (4, .int (nI p)), (5, .int (nI i))], [.int 2, .int (nI p), .ref b], M)) rfl rfl rfl ?_
          refine ps_st (S' := (28, [(0, .ref b), (2, .int (nI t)), (3, .int (nI e)), (4, .int (nI p)), (5, .int (nI i))], [.int ((nI p) + 2), .ref b], M)) rfl rfl rfl ?_
          rw [nI_add1 (p := p) (k := 2) (x := 2) rfl (by omega)]
          show pl _ _ _ (_, [(0, .ref b), (2, .int (nI t)), (3, .int (nI e)), (4, .int (nI p)), (5, .int (nI i))], [.int (nI (p + 2)), .ref b], M) _
          refine pl_call (a := [.ref b, .int (nI (p + 2))]) (rest := []) rfl rfl rfl (dk_u4 (f := f) (n := n) (b := b) (da := da) (p := (p + 2)) h_b h_da (hn) (by omega)) (fun v1 M2 q3 => ?_)
          obtain ⟨rfl, rfl⟩ := q3
          show pl _ _ _ (31, [(0, .ref b), (2, .int (nI t)), (3, .int (nI e)), (4, .int (nI p)), (5, .int (nI i))], [.int (nI (by4 f (p + 2)))], M) _
          have hu_28 := by4_lt f (p + 2)
          refine ps_st (S' := (33, [(6, .int (nI (by4 f (p + 2)))), (0, .ref b), (2, .int (nI t)), (3, .int (nI e)), (4, .int (nI p)), (5, .int (nI i))], [], M)) rfl rfl rfl ?_
          refine ps_st (S' := (35, [(6, .int (nI (by4 f (p + 2)))), (0, .ref b), (2, .int (nI t)), (3, .int (nI e)), (4, .int (nI p)), (5, .int (nI i))], [.int (nI (by4 f (p + 2)))], M)) rfl rfl rfl ?_
          refine ps_if (S1 := (50, [], [], M)) (S2 := (38, [(6, .int (nI (by4 f (p + 2)))), (0, .ref b), (2, .int (nI t)), (3, .int (nI e)), (4, .int (nI p)), (5, .int (nI i))], [], M)) rfl rfl rfl (fun c_35 => ?_) (fun c_35 => ?_)
          · have c_35 : (nI (by4 f (p + 2))) < 0 := of_decide_eq_true c_35
            have n_35 : 2147483648 ≤ by4 f (p + 2) := (neg_nI (by4_lt _ _)).mp c_35
            refine ps_st (S' := (51, [], [.int (-1)], M)) rfl rfl rfl ?_
            exact ps_ret rfl rfl (Or.inl ⟨by
                rw [← hs]
                rw [s_atE_st (i := i) (p := p) (by omega)]
                first | ((repeat first | rw [if_pos (by omega)] | rw [if_neg (by omega)]) <;> first | rfl | omega) | ((repeat' split) <;> first | rfl | (exfalso; omega) | omega), rfl, rfl⟩)
          · have c_35 : ¬ ((nI (by4 f (p + 2))) < 0) := of_decide_eq_false c_35
            have n_35 : ¬ (2147483648 ≤ by4 f (p + 2)) := fun h9 => c_35 ((neg_nI (by4_lt _ _)).mpr h9)
            refine ps_st (S' := (40, [(6, .int (nI (by4 f (p + 2)))), (0, .ref b), (2, .int (nI t)), (3, .int (nI e)), (4, .int (nI p)), (5, .int (nI i))], [.int (nI (by4 f (p + 2)))], M)) rfl rfl rfl ?_
            refine ps_st (S' := (41, [(6, .int (nI (by4 f (p + 2)))), (0, .ref b), (2, .int (nI t)), (3, .int (nI e)), (4, .int (nI p)), (5, .int (nI i))], [.int (nI e), .int (nI (by4 f (p + 2)))], M)) rfl rfl rfl ?_
            refine ps_st (S' := (43, [(6, .int (nI (by4 f (p + 2)))), (0, .ref b), (2, .int (nI t)), (3, .int (nI e)), (4, .int (nI p)), (5, .int (nI i))], [.int (nI p), .int (nI e), .int (nI (by4 f (p + 2)))], M)) rfl rfl rfl ?_
            refine ps_st (S' := (44, [(6, .int (nI (by4 f (p + 2)))), (0, .ref b), (2, .int (nI t)), (3, .int (nI e)), (4, .int (nI p)), (5, .int (nI i))], [.int ((nI e) - (nI p)), .int (nI (by4 f (p + 2)))], M)) rfl rfl rfl ?_
            refine ps_st (S' := (46, [(6, .int (nI (by4 f (p + 2)))), (0, .ref b), (2, .int (nI t)), (3, .int (nI e)), (4, .int (nI p)), (5, .int (nI i))], [.int 6, .int ((nI e) - (nI p)), .int (nI (by4 f (p + 2)))], M)) rfl rfl rfl ?_
            refine ps_st (S' := (47, [(6, .int (nI (by4 f (p + 2)))), (0, .ref b), (2, .int (nI t)), (3, .int (nI e)), (4, .int (nI p)), (5, .int (nI i))], [.int (((nI e) - (nI p)) - 6), .int (nI (by4 f (p + 2)))], M)) rfl rfl rfl ?_
            refine ps_if2 (S1 := (52, [(6, .int (nI (by4 f (p + 2)))), (0, .ref b), (2, .int (nI t)), (3, .int (nI e)), (4, .int (nI p)), (5, .int (nI i))], [], M)) (S2 := (50, [], [], M)) rfl rfl rfl (fun c_47 => ?_) (fun c_47 => ?_)
            · have c_47 : (nI (by4 f (p + 2))) ≤ (((nI e) - (nI p)) - 6) := of_decide_eq_true c_47
              have n_47 : (by4 f (p + 2)) + (p + 6) ≤ e := (le_sub2 (e := e) (p := p) (p2 := 6) (k := by4 f (p + 2)) (by omega) (by omega) (by omega)).mp c_47
              refine ps_st (S' := (54, [(6, .int (nI (by4 f (p + 2)))), (0, .ref b), (2, .int (nI t)), (3, .int (nI e)), (4, .int (nI p)), (5, .int (nI i))], [.int (nI p)], M)) rfl rfl rfl ?_
              refine ps_st (S' := (56, [(6, .int (nI (by4 f (p + 2)))), (0, .ref b), (2, .int (nI t)), (3, .int (nI e)), (4, .int (nI p)), (5, .int (nI i))], [.int 6, .int (nI p)], M)) rfl rfl rfl ?_
              refine ps_st (S' := (58, [(6, .int (nI (by4 f (p + 2)))), (0, .ref b), (2, .int (nI t)), (3, .int (nI e)), (4, .int (nI p)), (5, .int (nI i))], [.int (nI (by4 f (p + 2))), .int 6, .int (nI p)], M)) rfl rfl rfl ?_
              refine ps_st (S' := (59, [(6, .int (nI (by4 f (p + 2)))), (0, .ref b), (2, .int (nI t)), (3, .int (nI e)), (4, .int (nI p)), (5, .int (nI i))], [.int (6 + (nI (by4 f (p + 2)))), .int (nI p)], M)) rfl rfl rfl ?_
              rw [nI_add2 (p := 6) (k := by4 f (p + 2)) (x := 6) (y := (nI (by4 f (p + 2)))) rfl rfl (by omega)]
              show pl _ _ _ (_, [(6, .int (nI (by4 f (p + 2)))), (0, .ref b), (2, .int (nI t)), (3, .int (nI e)), (4, .int (nI p)), (5, .int (nI i))], [.int (nI (6 + by4 f (p + 2))), .int (nI p)], M) _
              refine ps_st (S' := (60, [(6, .int (nI (by4 f (p + 2)))), (0, .ref b), (2, .int (nI t)), (3, .int (nI e)), (4, .int (nI p)), (5, .int (nI i))], [.int ((nI p) + (nI (6 + by4 f (p + 2))))], M)) rfl rfl rfl ?_
              rw [nI_add1 (p := p) (k := 6 + by4 f (p + 2)) (x := (nI (6 + by4 f (p + 2)))) rfl (by omega)]
              rw [show nI (p + (6 + by4 f (p + 2))) = nI (p + 6 + by4 f (p + 2)) from congrArg nI (by omega)]
              show pl _ _ _ (_, [(6, .int (nI (by4 f (p + 2)))), (0, .ref b), (2, .int (nI t)), (3, .int (nI e)), (4, .int (nI p)), (5, .int (nI i))], [.int (nI (p + 6 + by4 f (p + 2)))], M) _
              refine ps_st (S' := (62, [(4, .int (nI (p + 6 + by4 f (p + 2)))), (6, .int (nI (by4 f (p + 2)))), (0, .ref b), (2, .int (nI t)), (3, .int (nI e)), (5, .int (nI i))], [], M)) rfl rfl rfl ?_
              refine ps_st (S' := (65, [(5, .int ((nI i) + 1)), (4, .int (nI (p + 6 + by4 f (p + 2)))), (6, .int (nI (by4 f (p + 2)))), (0, .ref b), (2, .int (nI t)), (3, .int (nI e))], [], M)) rfl rfl rfl ?_
              rw [nI_add1 (p := i) (k := 1) (x := 1) rfl (by omega)]
              show pl _ _ _ (_, [(5, .int (nI (i + 1))), (4, .int (nI (p + 6 + by4 f (p + 2)))), (6, .int (nI (by4 f (p + 2)))), (0, .ref b), (2, .int (nI t)), (3, .int (nI e))], [], M) _
              refine ps_st (S' := (6, [(0, .ref b), (2, .int (nI t)), (3, .int (nI e)), (4, .int (nI (p + 6 + by4 f (p + 2)))), (5, .int (nI (i + 1)))], [], M)) rfl rfl rfl ?_
              exact ih (i + 1) (p + 6 + by4 f (p + 2))  (by omega) (by omega) (by
                  rw [← hs, s_atE_st (i := i) (p := p) (by omega), if_neg (by omega), if_neg (by omega)])
            · have c_47 : ¬ ((nI (by4 f (p + 2))) ≤ (((nI e) - (nI p)) - 6)) := of_decide_eq_false c_47
              have n_47 : ¬ ((by4 f (p + 2)) + (p + 6) ≤ e) := fun h8 => c_47 ((le_sub2 (e := e) (p := p) (p2 := 6) (k := by4 f (p + 2)) (by omega) (by omega) (by omega)).mpr h8)
              refine ps_st (S' := (51, [], [.int (-1)], M)) rfl rfl rfl ?_
              exact ps_ret rfl rfl (Or.inl ⟨by
                  rw [← hs]
                  rw [s_atE_st (i := i) (p := p) (by omega)]
                  first | ((repeat first | rw [if_pos (by omega)] | rw [if_neg (by omega)]) <;> first | rfl | omega) | ((repeat' split) <;> first | rfl | (exfalso; omega) | omega), rfl, rfl⟩)
        · have c_18 : ¬ (6 ≤ ((nI e) - (nI p))) := of_decide_eq_false c_18
          have n_18 : ¬ (6 + p ≤ e) := fun h8 => c_18 ((le_sub1 (e := e) (p := p) (k := 6) (by omega) (by omega) (by omega)).mpr h8)
          refine ps_st (S' := (22, [(0, .ref b), (2, .int (nI t)), (3, .int (nI e)), (4, .int (nI p)), (5, .int (nI i))], [.int (-1)], M)) rfl rfl rfl ?_
          exact ps_ret rfl rfl (Or.inl ⟨by
              rw [← hs]
              rw [s_atE_st (i := i) (p := p) (by omega)]
              first | ((repeat first | rw [if_pos (by omega)] | rw [if_neg (by omega)]) <;> first | rfl | omega) | ((repeat' split) <;> first | rfl | (exfalso; omega) | omega), rfl, rfl⟩)
  refine ps_st (S' := (1, [(0, .ref b), (1, .int (nI p0)), (2, .int (nI t)), (3, .int (nI e))], [.int (nI p0)], M)) rfl rfl rfl ?_
  refine ps_st (S' := (3, [(4, .int (nI p0)), (0, .ref b), (1, .int (nI p0)), (2, .int (nI t)), (3, .int (nI e))], [], M)) rfl rfl rfl ?_
  refine ps_st (S' := (4, [(4, .int (nI p0)), (0, .ref b), (1, .int (nI p0)), (2, .int (nI t)), (3, .int (nI e))], [.int 0], M)) rfl rfl rfl ?_
  refine ps_st (S' := (6, [(0, .ref b), (2, .int (nI t)), (3, .int (nI e)), (4, .int (nI p0)), (5, .int 0)], [], M)) rfl rfl rfl ?_
  exact (LL kf) (0) (p0)  (by omega) (by omega) (rfl)
set_option maxHeartbeats 1000000 in
theorem dk_bootstrapsEnd {g : xe_G} {M : mi_H} {f : Nat → Int32} {n q ac c b da vd : Nat} {s1 : Int32} {p0 e : Nat} (h_ac : M.1 ac = some (ob 0 [.ref c, .ref b, .ref q, .ref vd, .int s1])) (h_b : M.1 b = some (ob 1 [.ref da])) (h_da : M.1 da = some (ar .byte n f)) (hn : n ≤ 65540) (he : e ≤ n ∧ p0 + 2 ≤ e) : pt (mT g) 24 [.ref ac, .int (nI p0), .int (nI e)] M (fun v M' => ((s_bsE f e (by2 f p0) (p0 + 2) = none) ∧ v = some (.int (-1)) ∧ M = M') ∨ (∃ (x : Nat), (s_bsE f e (by2 f p0) (p0 + 2) = some x) ∧ (x < 1000000) ∧ v = some (.int (nI x)) ∧ M = M')) := by
  refine pt_in (b := mb_24 g) rfl (fun kf => ?_)
  show pl (mT g) kf (mb_24 g).2 (0, [(0, .ref ac), (1, .int (nI p0)), (2, .int (nI e))], [], M) _
  have LL : ∀ (kf : Nat), (∀ (i p : Nat), (i ≤ by2 f p0) → (p0 ≤ p ∧ p ≤ n + 131080) → (s_bsE f e (by2 f p0 - i) p = s_bsE f e (by2 f p0) (p0 + 2)) →  pl (mT g) kf (mb_24 g).2 (17, [(0, .ref ac), (2, .int (nI e)), (3, .int (nI (by2 f p0))), (4, .int (nI p)), (5, .int (nI i))], [], M) (fun v M' => ((s_bsE f e (by2 f p0) (p0 + 2) = none) ∧ v = some (.int (-1)) ∧ M = M') ∨ (∃ (x : Nat), (s_bsE f e (by2 f p0) (p0 + 2) = some x) ∧ (x < 1000000) ∧ v = some (.int (nI x)) ∧ M = M'))) := by
    intro kf
    induction kf with
    | zero => exact (by intros; exact pl_0)
    | succ kf ih =>
      intro i p hi hp hs
      have hu9 := by2_lt f p0
      refine ps_st1 (S' := (19, [(0, .ref ac), (2, .int (nI e)), (3, .int (nI (by2 f p0))), (4, .int (nI p)), (5, .int (nI i))], [.int (nI i)], M)) rfl rfl rfl ?_
      refine ps_st (S' := (20, [(0, .ref ac), (2, .int (nI e)), (3, .int (nI (by2 f p0))), (4, .int (nI p)), (5, .int (nI i))], [.int (nI (by2 f p0)), .int (nI i)], M)) rfl rfl rfl ?_
      refine ps_if2 (S1 := (59, [(0, .ref ac), (2, .int (nI e)), (3, .int (nI (by2 f p0))), (4, .int (nI p)), (5, .int (nI i))], [], M)) (S2 := (23, [(0, .ref ac), (2, .int (nI e)), (3, .int (nI (by2 f p0))), (4, .int (nI p)), (5, .int (nI i))], [], M)) rfl rfl rfl (fun c_20 => ?_) (fun c_20 => ?_)
      · have c_20 : (nI (by2 f p0)) ≤ (nI i) := of_decide_eq_true c_20
        have n_20 : by2 f p0 ≤ i := (le_nI (p := by2 f p0) (n := i) (Nat.lt_trans (by2_lt _ _) (by decide)) (by omega)).mp c_20
        refine ps_st (S' := (61, [(0, .ref ac), (2, .int (nI e)), (3, .int (nI (by2 f p0))), (4, .int (nI p)), (5, .int (nI i))], [.int (nI p)], M)) rfl rfl rfl ?_
        exact ps_reti rfl (Or.inr ⟨p, by
            rw [← hs]
            rw [show by2 f p0 - i = 0 by omega]
            rfl, by omega, rfl, rfl⟩)
      · have c_20 : ¬ ((nI (by2 f p0)) ≤ (nI i)) := of_decide_eq_false c_20
        have n_20 : ¬ (by2 f p0 ≤ i) := fun h9 => c_20 ((le_nI (p := by2 f p0) (n := i) (Nat.lt_trans (by2_lt _ _) (by decide)) (by omega)).mpr h9)
        refine ps_st (S' := (24, [(0, .ref ac), (2, .int (nI e)), (3, .int (nI (by2 f p0))), (4, .int (nI p)), (5, .int (nI i))], [.int (nI e)], M)) rfl rfl rfl ?_
        refine ps_st (S' := (26, [(0, .ref ac), (2, .int (nI e)), (3, .int (nI (by2 f p0))), (4, .int (nI p)), (5, .int (nI i))], [.int (nI p), .int (nI e)], M)) rfl rfl rfl ?_
        refine ps_st (S' := (27, [(0, .ref ac), (2, .int (nI e)), (3, .int (nI (by2 f p0))), (4, .int (nI p)), (5, .int (nI i))], [.int ((nI e) - (nI p))], M)) rfl rfl rfl ?_
        refine ps_st (S' := (28, [(0, .ref ac), (2, .int (nI e)), (3, .int (nI (by2 f p0))), (4, .int (nI p)), (5, .int (nI i))], [.int 4, .int ((nI e) - (nI p))], M)) rfl rfl rfl ?_
        refine ps_if2 (S1 := (33, [(0, .ref ac), (2, .int (nI e)), (3, .int (nI (by2 f p0))), (4, .int (nI p)), (5, .int (nI i))], [], M)) (S2 := (31, [(0, .ref ac), (2, .int (nI e)), (3, .int (nI (by2 f p0))), (4, .int (nI p)), (5, .int (nI i))], [], M)) rfl rfl rfl (fun c_28 => ?_) (fun c_28 => ?_)
        · have c_28 : 4 ≤ ((nI e) - (nI p)) := of_decide_eq_true c_28
          have n_28 : 4 + p ≤ e := (le_sub1 (e := e) (p := p) (k := 4) (by omega) (by omega) (by omega)).mp c_28
          refine ps_st (S' := (35, [(0, .ref ac), (2, .int (nI e)), (3, .int (nI (by2 f p0))), (4, .int (nI p)), (5, .int (nI i))], [.int (nI p)], M)) rfl rfl rfl ?_
          refine ps_st (S' := (36, [(0, .ref ac), (2, .int (nI e)), (3, .int (nI (by2 f p0))), (4, .int (nI p)), (5, .int (nI i))], [.int 4, .int (nI p)], M)) rfl rfl rfl ?_
          refine ps_st (S' := (37, [(0, .ref ac), (2, .int (nI e)), (3, .int (nI (by2 f p0))), (4, .int (nI p)), (5, .int (nI i))], [.int 2, .int 4, .int (nI p)], M)) rfl rfl rfl ?_
          refine ps_st (S' := (38, [(0, .ref ac), (2, .int (nI e)), (3, .int (nI (by2 f p0))), (4, .int (nI p)), (5, .int (nI i))], [.ref ac, .int 2, .int 4, .int (nI p)], M)) rfl rfl rfl ?_
          refine ps_get (S' := (41, [(0, .ref ac), (2, .int (nI e)), (3, .int (nI (by2 f p0))), (4, .int (nI p)), (5, .int (nI i))], [.ref b, .int 2, .int 4, .int (nI p)], M)) rfl h_ac rfl rfl ?_
          refine ps_st (S' := (43, [(0, .ref ac), (2, .int (nI e)), (3, .int (nI (by2 f p0))), (4, .int (nI p)), (5, .int (nI i))], [.int (nI p), .ref b, .int 2, .int 4, .int (nI p)], M)) rfl rfl rfl ?_
          refine ps_st (S' := (44, [(0, .ref ac), (2, .int (nI e)), (3, .int (nI (by2 f p0))), (4, .int (nI p)), (5, .int (nI i))], [.int 2, .int (nI p), .ref b, .int 2, .int 4, .int (nI p)], M)) rfl rfl rfl ?_
          refine ps_st (S' := (45, [(0, .ref ac), (2, .int (nI e)), (3, .int (nI (by2 f p0))), (4, .int (nI p)), (5, .int (nI i))], [.int ((nI p) + 2), .ref b, .int 2, .int 4, .int (nI p)], M)) rfl rfl rfl ?_
          rw [nI_add1 (p := p) (k := 2) (x := 2) rfl (by omega)]
          show pl _ _ _ (_, [(0, .ref ac), (2, .int (nI e)), (3, .int (nI (by2 f p0))), (4, .int (nI p)), (5, .int (nI i))], [.int (nI (p + 2)), .ref b, .int 2, .int 4, .int (nI p)], M) _
          refine pl_call (a := [.ref b, .int (nI (p + 2))]) (rest := [.int 2, .int 4, .int (nI p)]) rfl rfl rfl (dk_u2 (f := f) (n := n) (b := b) (da := da) (p := (p + 2)) h_b h_da (hn) (by omega)) (fun v1 M2 q3 => ?_)
          obtain ⟨rfl, rfl⟩ := q3
          show pl _ _ _ (48, [(0, .ref ac), (2, .int (nI e)), (3, .int (nI (by2 f p0))), (4, .int (nI p)), (5, .int (nI i))], [.int (nI (by2 f (p + 2))), .int 2, .int 4, .int (nI p)], M) _
          have hu_45 := by2_lt f (p + 2)
          refine ps_st (S' := (49, [(0, .ref ac), (2, .int (nI e)), (3, .int (nI (by2 f p0))), (4, .int (nI p)), (5, .int (nI i))], [.int (2 * (nI (by2 f (p + 2)))), .int 4, .int (nI p)], M)) rfl rfl rfl ?_
          rw [nI_mul1 (p := 2) (k := by2 f (p + 2)) (x := 2) (y := (nI (by2 f (p + 2)))) rfl rfl (by omega)]
          show pl _ _ _ (_, [(0, .ref ac), (2, .int (nI e)), (3, .int (nI (by2 f p0))), (4, .int (nI p)), (5, .int (nI i))], [.int (nI (2 * (by2 f (p + 2)))), .int 4, .int (nI p)], M) _
          refine ps_st (S' := (50, [(0, .ref ac), (2, .int (nI e)), (3, .int (nI (by2 f p0))), (4, .int (nI p)), (5, .int (nI i))], [.int (4 + (nI (2 * (by2 f (p + 2))))), .int (nI p)], M)) rfl rfl rfl ?_
          rw [nI_add2 (p := 4) (k := 2 * (by2 f (p + 2))) (x := 4) (y := (nI (2 * (by2 f (p + 2))))) rfl rfl (by omega)]
          show pl _ _ _ (_, [(0, .ref ac), (2, .int (nI e)), (3, .int (nI (by2 f p0))), (4, .int (nI p)), (5, .int (nI i))], [.int (nI (4 + 2 * (by2 f (p + 2)))), .int (nI p)], M) _
          refine ps_st (S' := (51, [(0, .ref ac), (2, .int (nI e)), (3, .int (nI (by2 f p0))), (4, .int (nI p)), (5, .int (nI i))], [.int ((nI p) + (nI (4 + 2 * (by2 f (p + 2)))))], M)) rfl rfl rfl ?_
          rw [nI_add1 (p := p) (k := 4 + 2 * (by2 f (p + 2))) (x := (nI (4 + 2 * (by2 f (p + 2))))) rfl (by omega)]
          rw [show nI (p + (4 + 2 * (by2 f (p + 2)))) = nI (p + 4 + 2 * (by2 f (p + 2))) from congrArg nI (by omega)]
          show pl _ _ _ (_, [(0, .ref ac), (2, .int (nI e)), (3, .int (nI (by2 f p0))), (4, .int (nI p)), (5, .int (nI i))], [.int (nI (p + 4 + 2 * (by2 f (p + 2))))], M) _
          refine ps_st (S' := (53, [(4, .int (nI (p + 4 + 2 * (by2 f (p + 2))))), (0, .ref ac), (2, .int (nI e)), (3, .int (nI (by2 f p0))), (5, .int (nI i))], [], M)) rfl rfl rfl ?_
          refine ps_st (S' := (56, [(5, .int ((nI i) + 1)), (4, .int (nI (p + 4 + 2 * (by2 f (p + 2))))), (0, .ref ac), (2, .int (nI e)), (3, .int (nI (by2 f p0)))], [], M)) rfl rfl rfl ?_
          rw [nI_add1 (p := i) (k := 1) (x := 1) rfl (by omega)]
          show pl _ _ _ (_, [(5, .int (nI (i + 1))), (4, .int (nI (p + 4 + 2 * (by2 f (p + 2))))), (0, .ref ac), (2, .int (nI e)), (3, .int (nI (by2 f p0)))], [], M) _
          refine ps_st (S' := (17, [(0, .ref ac), (2, .int (nI e)), (3, .int (nI (by2 f p0))), (4, .int (nI (p + 4 + 2 * (by2 f (p + 2))))), (5, .int (nI (i + 1)))], [], M)) rfl rfl rfl ?_
          exact ih (i + 1) (p + 4 + 2 * by2 f (p + 2))  (by omega) (by omega) (by
              rw [← hs, s_bsE_st (i := i) (p := p) (by omega), if_neg (by omega)])
        · have c_28 : ¬ (4 ≤ ((nI e) - (nI p))) := of_decide_eq_false c_28
          have n_28 : ¬ (4 + p ≤ e) := fun h8 => c_28 ((le_sub1 (e := e) (p := p) (k := 4) (by omega) (by omega) (by omega)).mpr h8)
          refine ps_st (S' := (32, [(0, .ref ac), (2, .int (nI e)), (3, .int (nI (by2 f p0))), (4, .int (nI p)), (5, .int (nI i))], [.int (-1)], M)) rfl rfl rfl ?_
          exact ps_ret rfl rfl (Or.inl ⟨by
              rw [← hs]
              rw [s_bsE_st (i := i) (p := p) (by omega)]
              first | ((repeat first | rw [if_pos (by omega)] | rw [if_neg (by omega)]) <;> first | rfl | omega) | ((repeat' split) <;> first | rfl | (exfalso; omega) | omega), rfl, rfl⟩)
  refine ps_st (S' := (1, [(0, .ref ac), (1, .int (nI p0)), (2, .int (nI e))], [.ref ac], M)) rfl rfl rfl ?_
  refine ps_get (S' := (4, [(0, .ref ac), (1, .int (nI p0)), (2, .int (nI e))], [.ref b], M)) rfl h_ac rfl rfl ?_
  refine ps_st (S' := (5, [(0, .ref ac), (1, .int (nI p0)), (2, .int (nI e))], [.int (nI p0), .ref b], M)) rfl rfl rfl ?_
  refine pl_call (a := [.ref b, .int (nI p0)]) (rest := []) rfl rfl rfl (dk_u2 (f := f) (n := n) (b := b) (da := da) (p := p0) h_b h_da (hn) (by omega)) (fun v4 M5 q6 => ?_)
  obtain ⟨rfl, rfl⟩ := q6
  show pl _ _ _ (8, [(0, .ref ac), (1, .int (nI p0)), (2, .int (nI e))], [.int (nI (by2 f p0))], M) _
  have hu_5 := by2_lt f p0
  refine ps_st (S' := (9, [(3, .int (nI (by2 f p0))), (0, .ref ac), (1, .int (nI p0)), (2, .int (nI e))], [], M)) rfl rfl rfl ?_
  refine ps_st (S' := (10, [(3, .int (nI (by2 f p0))), (0, .ref ac), (1, .int (nI p0)), (2, .int (nI e))], [.int (nI p0)], M)) rfl rfl rfl ?_
  refine ps_st (S' := (11, [(3, .int (nI (by2 f p0))), (0, .ref ac), (1, .int (nI p0)), (2, .int (nI e))], [.int 2, .int (nI p0)], M)) rfl rfl rfl ?_
  refine ps_st (S' := (12, [(3, .int (nI (by2 f p0))), (0, .ref ac), (1, .int (nI p0)), (2, .int (nI e))], [.int ((nI p0) + 2)], M)) rfl rfl rfl ?_
  rw [nI_add1 (p := p0) (k := 2) (x := 2) rfl (by omega)]
  show pl _ _ _ (_, [(3, .int (nI (by2 f p0))), (0, .ref ac), (1, .int (nI p0)), (2, .int (nI e))], [.int (nI (p0 + 2))], M) _
  refine ps_st (S' := (14, [(4, .int (nI (p0 + 2))), (3, .int (nI (by2 f p0))), (0, .ref ac), (1, .int (nI p0)), (2, .int (nI e))], [], M)) rfl rfl rfl ?_
  refine ps_st (S' := (15, [(4, .int (nI (p0 + 2))), (3, .int (nI (by2 f p0))), (0, .ref ac), (1, .int (nI p0)), (2, .int (nI e))], [.int 0], M)) rfl rfl rfl ?_
  refine ps_st (S' := (17, [(0, .ref ac), (2, .int (nI e)), (3, .int (nI (by2 f p0))), (4, .int (nI (p0 + 2))), (5, .int 0)], [], M)) rfl rfl rfl ?_
  exact (LL kf) (0) (p0 + 2)  (by omega) (by omega) (rfl)
set_option maxHeartbeats 1000000 in
theorem dk_recordEnd {g : xe_G} {M : mi_H} {f : Nat → Int32} {n q ac c b da vd : Nat} {s1 : Int32} {p0 e : Nat} (h_ac : M.1 ac = some (ob 0 [.ref c, .ref b, .ref q, .ref vd, .int s1])) (h_b : M.1 b = some (ob 1 [.ref da])) (h_da : M.1 da = some (ar .byte n f)) (hn : n ≤ 65540) (he : e ≤ n ∧ p0 + 2 ≤ e) : pt (mT g) 41 [.ref ac, .int (nI p0), .int (nI e)] M (fun v M' => ((s_rcE f e (by2 f p0) (p0 + 2) = none) ∧ v = some (.int (-1)) ∧ M = M') ∨ (∃ (x : Nat), (s_rcE f e (by2 f p0) (p0 + 2) = some x) ∧ (x < 1000000) ∧ v = some (.int (nI x)) ∧ M = M')) := by
  refine pt_in (b := mb_41 g) rfl (fun kf => ?_)
  show pl (mT g) kf (mb_41 g).2 (0, [(0, .ref ac), (1, .int (nI p0)), (2, .int (nI e))], [], M) _
  have LL : ∀ (kf : Nat), (∀ (i p : Nat), (i ≤ by2 f p0) → (p0 ≤ p ∧ p ≤ e) → (s_rcE f e (by2 f p0 - i) p = s_rcE f e (by2 f p0) (p0 + 2)) →  pl (mT g) kf (mb_41 g).2 (17, [(0, .ref ac), (2, .int (nI e)), (3, .int (nI (by2 f p0))), (4, .int (nI p)), (5, .int (nI i))], [], M) (fun v M' => ((s_rcE f e (by2 f p0) (p0 + 2) = none) ∧ v = some (.int (-1)) ∧ M = M') ∨ (∃ (x : Nat), (s_rcE f e (by2 f p0) (p0 + 2) = some x) ∧ (x < 1000000) ∧ v = some (.int (nI x)) ∧ M = M'))) := by
    intro kf
    induction kf with
    | zero => exact (by intros; exact pl_0)
    | succ kf ih =>
      intro i p hi hp hs
      have hu9 := by2_lt f p0
      refine ps_st1 (S' := (19, [(0, .ref ac), (2, .int (nI e)), (3, .int (nI (by2 f p0))), (4, .int (nI p)), (5, .int (nI i))], [.int (nI i)], M)) rfl rfl rfl ?_
      refine ps_st (S' := (20, [(0, .ref ac), (2, .int (nI e)), (3, .int (nI (by2 f p0))), (4, .int (nI p)), (5, .int (nI i))], [.int (nI (by2 f p0)), .int (nI i)], M)) rfl rfl rfl ?_
      refine ps_if2 (S1 := (73, [(0, .ref ac), (2, .int (nI e)), (3, .int (nI (by2 f p0))), (4, .int (nI p)), (5, .int (nI i))], [], M)) (S2 := (23, [(0, .ref ac), (2, .int (nI e)), (3, .int (nI (by2 f p0))), (4, .int (nI p)), (5, .int (nI i))], [], M)) rfl rfl rfl (fun c_20 => ?_) (fun c_20 => ?_)
      · have c_20 : (nI (by2 f p0)) ≤ (nI i) := of_decide_eq_true c_20
        have n_20 : by2 f p0 ≤ i := (le_nI (p := by2 f p0) (n := i) (Nat.lt_trans (by2_lt _ _) (by decide)) (by omega)).mp c_20
        refine ps_st (S' := (75, [(0, .ref ac), (2, .int (nI e)), (3, .int (nI (by2 f p0))), (4, .int (nI p)), (5, .int (nI i))], [.int (nI p)], M)) rfl rfl rfl ?_
        exact ps_reti rfl (Or.inr ⟨p, by
            rw [← hs]
            rw [show by2 f p0 - i = 0 by omega]
            rfl, by omega, rfl, rfl⟩)
      · have c_20 : ¬ ((nI (by2 f p0)) ≤ (nI i)) := of_decide_eq_false c_20
        have n_20 : ¬ (by2 f p0 ≤ i) := fun h9 => c_20 ((le_nI (p := by2 f p0) (n := i) (Nat.lt_trans (by2_lt _ _) (by decide)) (by omega)).mpr h9)
        refine ps_st (S' := (24, [(0, .ref ac), (2, .int (nI e)), (3, .int (nI (by2 f p0))), (4, .int (nI p)), (5, .int (nI i))], [.int (nI e)], M)) rfl rfl rfl ?_
        refine ps_st (S' := (26, [(0, .ref ac), (2, .int (nI e)), (3, .int (nI (by2 f p0))), (4, .int (nI p)), (5, .int (nI i))], [.int (nI p), .int (nI e)], M)) rfl rfl rfl ?_
        refine ps_st (S' := (27, [(0, .ref ac), (2, .int (nI e)), (3, .int (nI (by2 f p0))), (4, .int (nI p)), (5, .int (nI i))], [.int ((nI e) - (nI p))], M)) rfl rfl rfl ?_
        refine ps_st (S' := (29, [(0, .ref ac), (2, .int (nI e)), (3, .int (nI (by2 f p0))), (4, .int (nI p)), (5, .int (nI i))], [.int 6, .int ((nI e) - (nI p))], M)) rfl rfl rfl ?_
        refine ps_if2 (S1 := (34, [(0, .ref ac), (2, .int (nI e)), (3, .int (nI (by2 f p0))), (4, .int (nI p)), (5, .int (nI i))], [], M)) (S2 := (32, [(0, .ref ac), (2, .int (nI e)), (3, .int (nI (by2 f p0))), (4, .int (nI p)), (5, .int (nI i))], [], M)) rfl rfl rfl (fun c_29 => ?_) (fun c_29 => ?_)
        · have c_29 : 6 ≤ ((nI e) - (nI p)) := of_decide_eq_true c_29
          have n_29 : 6 + p ≤ e := (le_sub1 (e := e) (p := p) (k := 6) (by omega) (by omega) (by omega)).mp c_29
          refine ps_st (S' := (35, [(0, .ref ac), (2, .int (nI e)), (3, .int (nI (by2 f p0))), (4, .int (nI p)), (5, .int (nI i))], [.ref ac], M)) rfl rfl rfl ?_
          refine ps_get (S' := (38, [(0, .ref ac), (2, .int (nI e)), (3, .int (nI (by2 f p0))), (4, .int (nI p)), (5, .int (nI i))], [.ref b], M)) rfl h_ac rfl rfl ?_
          refine ps_st (S' := (40, [(0, .ref ac), (2, .int (nI e)), (3, .int (nI (by2 f p0))), (4, .int (nI p)), (5, .int (nI i))], [.int (nI p), .ref b], M)) rfl rfl rfl ?_
          refine ps_st (S' := (42, [(0, .ref ac), (2, .int (nI e)), (3, .int (nI (by2 f p0))), (4, .int (nI p)), (5, .int (nI i))], [.int 6, .int (nI p), .ref b], M)) rfl rfl rfl ?_
          refine ps_st (S' := (43, [(0, .ref ac), (2, .int (nI e)), (3, .int (nI (by2 f p0))), (4, .int (nI p)), (5, .int (nI i))], [.int ((nI p) + 6), .ref b], M)) rfl rfl rfl ?_
          rw [nI_add1 (p := p) (k := 6) (x := 6) rfl (by omega)]
          show pl _ _ _ (_, [(0, .ref ac), (2, .int (nI e)), (3, .int (nI (by2 f p0))), (4, .int (nI p)), (5, .int (nI i))], [.int (nI (p + 6)), .ref b], M) _
          refine ps_st (S' := (44, [(0, .ref ac), (2, .int (nI e)), (3, .int (nI (by2 f p0))), (4, .int (nI p)), (5, .int (nI i))], [.ref ac, .int (nI (p + 6)), .ref b], M)) rfl rfl rfl ?_
          refine ps_get (S' := (47, [(0, .ref ac), (2, .int (nI e)), (3, .int (nI (by2 f p0))), (4, .int (nI p)), (5, .int (nI i))], [.ref b, .int (nI (p + 6)), .ref b], M)) rfl h_ac rfl rfl ?_
          refine ps_st (S' := (49, [(0, .ref ac), (2, .int (nI e)), (3, .int (nI (by2 f p0))), (4, .int (nI p)), (5, .int (nI i))], [.int (nI p), .ref b, .int (nI (p + 6)), .ref b], M)) rfl rfl rfl ?_
          refine ps_st (S' := (50, [(0, .ref ac), (2, .int (nI e)), (3, .int (nI (by2 f p0))), (4, .int (nI p)), (5, .int (nI i))], [.int 4, .int (nI p), .ref b, .int (nI (p + 6)), .ref b], M)) rfl rfl rfl ?_
          refine ps_st (S' := (51, [(0, .ref ac), (2, .int (nI e)), (3, .int (nI (by2 f p0))), (4, .int (nI p)), (5, .int (nI i))], [.int ((nI p) + 4), .ref b, .int (nI (p + 6)), .ref b], M)) rfl rfl rfl ?_
          rw [nI_add1 (p := p) (k := 4) (x := 4) rfl (by omega)]
          show pl _ _ _ (_, [(0, .ref ac), (2, .int (nI e)), (3, .int (nI (by2 f p0))), (4, .int (nI p)), (5, .int (nI i))], [.int (nI (p + 4)), .ref b, .int (nI (p + 6)), .ref b], M) _
          refine pl_call (a := [.ref b, .int (nI (p + 4))]) (rest := [.int (nI (p + 6)), .ref b]) rfl rfl rfl (dk_u2 (f := f) (n := n) (b := b) (da := da) (p := (p + 4)) h_b h_da (hn) (by omega)) (fun v1 M2 q3 => ?_)
          obtain ⟨rfl, rfl⟩ := q3
          show pl _ _ _ (54, [(0, .ref ac), (2, .int (nI e)), (3, .int (nI (by2 f p0))), (4, .int (nI p)), (5, .int (nI i))], [.int (nI (by2 f (p + 4))), .int (nI (p + 6)), .ref b], M) _
          have hu_51 := by2_lt f (p + 4)
          refine ps_st (S' := (55, [(0, .ref ac), (2, .int (nI e)), (3, .int (nI (by2 f p0))), (4, .int (nI p)), (5, .int (nI i))], [.int (nI e), .int (nI (by2 f (p + 4))), .int (nI (p + 6)), .ref b], M)) rfl rfl rfl ?_
          refine pl_call (a := [.ref b, .int (nI (p + 6)), .int (nI (by2 f (p + 4))), .int (nI e)]) (rest := []) rfl rfl rfl (dk_attributesEnd (f := f) (n := n) (b := b) (da := da) (p0 := (p + 6)) (e := e) (t := (by2 f (p + 4))) h_b h_da (hn) (by omega) (by2_lt _ _)) (fun v4 M5 q6 => ?_)
          rcases q6 with q6 | q6
          · skip
            obtain ⟨q55_s, rfl, rfl⟩ := q6
            show pl _ _ _ (58, [(0, .ref ac), (2, .int (nI e)), (3, .int (nI (by2 f p0))), (4, .int (nI p)), (5, .int (nI i))], [.int (-1)], M) _
            refine ps_st (S' := (60, [(4, .int (-1)), (0, .ref ac), (2, .int (nI e)), (3, .int (nI (by2 f p0))), (5, .int (nI i))], [], M)) rfl rfl rfl ?_
            refine ps_st (S' := (62, [(4, .int (-1)), (0, .ref ac), (2, .int (nI e)), (3, .int (nI (by2 f p0))), (5, .int (nI i))], [.int (-1)], M)) rfl rfl rfl ?_
            refine ps_if (S1 := (67, [(4, .int (-1)), (0, .ref ac), (2, .int (nI e)), (3, .int (nI (by2 f p0))), (5, .int (nI i))], [], M)) (S2 := (65, [(4, .int (-1)), (0, .ref ac), (2, .int (nI e)), (3, .int (nI (by2 f p0))), (5, .int (nI i))], [], M)) rfl rfl rfl (fun c_62 => ?_) (fun c_62 => ?_)
            · exact absurd (of_decide_eq_true c_62) (by decide)
            refine ps_st (S' := (66, [(4, .int (-1)), (0, .ref ac), (2, .int (nI e)), (3, .int (nI (by2 f p0))), (5, .int (nI i))], [.int (-1)], M)) rfl rfl rfl ?_
            exact ps_ret rfl rfl (Or.inl ⟨by
                rw [← hs]
                rw [s_rcE_st (i := i) (p := p) (by omega)]
                rw [q55_s]
                dsimp only
                first | ((repeat first | rw [if_pos (by omega)] | rw [if_neg (by omega)]) <;> first | rfl | omega) | ((repeat' split) <;> first | rfl | (exfalso; omega) | omega), rfl, rfl⟩)
          · skip
            obtain ⟨x7, q55_s, q55_l, rfl, rfl⟩ := q6
            show pl _ _ _ (58, [(0, .ref ac), (2, .int (nI e)), (3, .int (nI (by2 f p0))), (4, .int (nI p)), (5, .int (nI i))], [.int (nI x7)], M) _
            have hl_55 := s_atE_le (by omega) q55_s
            refine ps_st (S' := (60, [(4, .int (nI x7)), (0, .ref ac), (2, .int (nI e)), (3, .int (nI (by2 f p0))), (5, .int (nI i))], [], M)) rfl rfl rfl ?_
            refine ps_st (S' := (62, [(4, .int (nI x7)), (0, .ref ac), (2, .int (nI e)), (3, .int (nI (by2 f p0))), (5, .int (nI i))], [.int (nI x7)], M)) rfl rfl rfl ?_
            refine ps_if (S1 := (67, [(4, .int (nI x7)), (0, .ref ac), (2, .int (nI e)), (3, .int (nI (by2 f p0))), (5, .int (nI i))], [], M)) (S2 := (65, [(4, .int (nI x7)), (0, .ref ac), (2, .int (nI e)), (3, .int (nI (by2 f p0))), (5, .int (nI i))], [], M)) rfl rfl rfl (fun c_62 => ?_) (fun c_62 => ?_)
            rotate_left
            · exact absurd (Int32.not_lt.mp (nI_n0 (by omega))) (of_decide_eq_false c_62)
            refine ps_st (S' := (70, [(5, .int ((nI i) + 1)), (4, .int (nI x7)), (0, .ref ac), (2, .int (nI e)), (3, .int (nI (by2 f p0)))], [], M)) rfl rfl rfl ?_
            rw [nI_add1 (p := i) (k := 1) (x := 1) rfl (by omega)]
            show pl _ _ _ (_, [(5, .int (nI (i + 1))), (4, .int (nI x7)), (0, .ref ac), (2, .int (nI e)), (3, .int (nI (by2 f p0)))], [], M) _
            refine ps_st (S' := (17, [(0, .ref ac), (2, .int (nI e)), (3, .int (nI (by2 f p0))), (4, .int (nI x7)), (5, .int (nI (i + 1)))], [], M)) rfl rfl rfl ?_
            exact ih (i + 1) (x7)  (by omega) (by omega) (by
                rw [← hs, s_rcE_st (i := i) (p := p) (by omega), if_neg (by omega), q55_s])
        · have c_29 : ¬ (6 ≤ ((nI e) - (nI p))) := of_decide_eq_false c_29
          have n_29 : ¬ (6 + p ≤ e) := fun h8 => c_29 ((le_sub1 (e := e) (p := p) (k := 6) (by omega) (by omega) (by omega)).mpr h8)
          refine ps_st (S' := (33, [(0, .ref ac), (2, .int (nI e)), (3, .int (nI (by2 f p0))), (4, .int (nI p)), (5, .int (nI i))], [.int (-1)], M)) rfl rfl rfl ?_
          exact ps_ret rfl rfl (Or.inl ⟨by
              rw [← hs]
              rw [s_rcE_st (i := i) (p := p) (by omega)]
              first | ((repeat first | rw [if_pos (by omega)] | rw [if_neg (by omega)]) <;> first | rfl | omega) | ((repeat' split) <;> first | rfl | (exfalso; omega) | omega), rfl, rfl⟩)
  refine ps_st (S' := (1, [(0, .ref ac), (1, .int (nI p0)), (2, .int (nI e))], [.ref ac], M)) rfl rfl rfl ?_
  refine ps_get (S' := (4, [(0, .ref ac), (1, .int (nI p0)), (2, .int (nI e))], [.ref b], M)) rfl h_ac rfl rfl ?_
  refine ps_st (S' := (5, [(0, .ref ac), (1, .int (nI p0)), (2, .int (nI e))], [.int (nI p0), .ref b], M)) rfl rfl rfl ?_
  refine pl_call (a := [.ref b, .int (nI p0)]) (rest := []) rfl rfl rfl (dk_u2 (f := f) (n := n) (b := b) (da := da) (p := p0) h_b h_da (hn) (by omega)) (fun v8 M9 q10 => ?_)
  obtain ⟨rfl, rfl⟩ := q10
  show pl _ _ _ (8, [(0, .ref ac), (1, .int (nI p0)), (2, .int (nI e))], [.int (nI (by2 f p0))], M) _
  have hu_5 := by2_lt f p0
  refine ps_st (S' := (9, [(3, .int (nI (by2 f p0))), (0, .ref ac), (1, .int (nI p0)), (2, .int (nI e))], [], M)) rfl rfl rfl ?_
  refine ps_st (S' := (10, [(3, .int (nI (by2 f p0))), (0, .ref ac), (1, .int (nI p0)), (2, .int (nI e))], [.int (nI p0)], M)) rfl rfl rfl ?_
  refine ps_st (S' := (11, [(3, .int (nI (by2 f p0))), (0, .ref ac), (1, .int (nI p0)), (2, .int (nI e))], [.int 2, .int (nI p0)], M)) rfl rfl rfl ?_
  refine ps_st (S' := (12, [(3, .int (nI (by2 f p0))), (0, .ref ac), (1, .int (nI p0)), (2, .int (nI e))], [.int ((nI p0) + 2)], M)) rfl rfl rfl ?_
  rw [nI_add1 (p := p0) (k := 2) (x := 2) rfl (by omega)]
  show pl _ _ _ (_, [(3, .int (nI (by2 f p0))), (0, .ref ac), (1, .int (nI p0)), (2, .int (nI e))], [.int (nI (p0 + 2))], M) _
  refine ps_st (S' := (14, [(4, .int (nI (p0 + 2))), (3, .int (nI (by2 f p0))), (0, .ref ac), (1, .int (nI p0)), (2, .int (nI e))], [], M)) rfl rfl rfl ?_
  refine ps_st (S' := (15, [(4, .int (nI (p0 + 2))), (3, .int (nI (by2 f p0))), (0, .ref ac), (1, .int (nI p0)), (2, .int (nI e))], [.int 0], M)) rfl rfl rfl ?_
  refine ps_st (S' := (17, [(0, .ref ac), (2, .int (nI e)), (3, .int (nI (by2 f p0))), (4, .int (nI (p0 + 2))), (5, .int 0)], [], M)) rfl rfl rfl ?_
  exact (LL kf) (0) (p0 + 2)  (by omega) (by omega) (rfl)
set_option maxHeartbeats 1000000 in
theorem dk_codeEnd {g : xe_G} {M : mi_H} {f : Nat → Int32} {n q ac c b da vd : Nat} {s1 : Int32} {p0 e : Nat} (h_ac : M.1 ac = some (ob 0 [.ref c, .ref b, .ref q, .ref vd, .int s1])) (h_b : M.1 b = some (ob 1 [.ref da])) (h_da : M.1 da = some (ar .byte n f)) (hn : n ≤ 65540) (he : e ≤ n ∧ p0 + 2 ≤ e) : pt (mT g) 29 [.ref ac, .int (nI p0), .int (nI e)] M (fun v M' => ((s_cdE f e p0 = none) ∧ v = some (.int (-1)) ∧ M = M') ∨ (∃ (x : Nat), (s_cdE f e p0 = some x) ∧ (x < 1000000) ∧ v = some (.int (nI x)) ∧ M = M')) := by
  refine pt_in (b := mb_29 g) rfl (fun kf => ?_)
  show pl (mT g) kf (mb_29 g).2 (0, [(0, .ref ac), (1, .int (nI p0)), (2, .int (nI e))], [], M) _
  refine ps_st (S' := (1, [(0, .ref ac), (1, .int (nI p0)), (2, .int (nI e))], [.int (nI e)], M)) rfl rfl rfl ?_
  refine ps_st (S' := (2, [(0, .ref ac), (1, .int (nI p0)), (2, .int (nI e))], [.int (nI p0), .int (nI e)], M)) rfl rfl rfl ?_
  refine ps_st (S' := (3, [(0, .ref ac), (1, .int (nI p0)), (2, .int (nI e))], [.int ((nI e) - (nI p0))], M)) rfl rfl rfl ?_
  refine ps_st (S' := (5, [(0, .ref ac), (1, .int (nI p0)), (2, .int (nI e))], [.int 8, .int ((nI e) - (nI p0))], M)) rfl rfl rfl ?_
  refine ps_if2 (S1 := (10, [(0, .ref ac), (1, .int (nI p0)), (2, .int (nI e))], [], M)) (S2 := (8, [(0, .ref ac), (1, .int (nI p0)), (2, .int (nI e))], [], M)) rfl rfl rfl (fun c_5 => ?_) (fun c_5 => ?_)
  · have c_5 : 8 ≤ ((nI e) - (nI p0)) := of_decide_eq_true c_5
    have n_5 : 8 + p0 ≤ e := (le_sub1 (e := e) (p := p0) (k := 8) (by omega) (by omega) (by omega)).mp c_5
    refine ps_st (S' := (11, [(0, .ref ac), (1, .int (nI p0)), (2, .int (nI e))], [.ref ac], M)) rfl rfl rfl ?_
    refine ps_get (S' := (14, [(0, .ref ac), (1, .int (nI p0)), (2, .int (nI e))], [.ref b], M)) rfl h_ac rfl rfl ?_
    refine ps_st (S' := (15, [(0, .ref ac), (1, .int (nI p0)), (2, .int (nI e))], [.int (nI p0), .ref b], M)) rfl rfl rfl ?_
    refine ps_st (S' := (16, [(0, .ref ac), (1, .int (nI p0)), (2, .int (nI e))], [.int 4, .int (nI p0), .ref b], M)) rfl rfl rfl ?_
    refine ps_st (S' := (17, [(0, .ref ac), (1, .int (nI p0)), (2, .int (nI e))], [.int ((nI p0) + 4), .ref b], M)) rfl rfl rfl ?_
    rw [nI_add1 (p := p0) (k := 4) (x := 4) rfl (by omega)]
    show pl _ _ _ (_, [(0, .ref ac), (1, .int (nI p0)), (2, .int (nI e))], [.int (nI (p0 + 4)), .ref b], M) _
    refine pl_call (a := [.ref b, .int (nI (p0 + 4))]) (rest := []) rfl rfl rfl (dk_u4 (f := f) (n := n) (b := b) (da := da) (p := (p0 + 4)) h_b h_da (hn) (by omega)) (fun v1 M2 q3 => ?_)
    obtain ⟨rfl, rfl⟩ := q3
    show pl _ _ _ (20, [(0, .ref ac), (1, .int (nI p0)), (2, .int (nI e))], [.int (nI (by4 f (p0 + 4)))], M) _
    have hu_17 := by4_lt f (p0 + 4)
    refine ps_st (S' := (21, [(3, .int (nI (by4 f (p0 + 4)))), (0, .ref ac), (1, .int (nI p0)), (2, .int (nI e))], [], M)) rfl rfl rfl ?_
    refine ps_st (S' := (22, [(3, .int (nI (by4 f (p0 + 4)))), (0, .ref ac), (1, .int (nI p0)), (2, .int (nI e))], [.int (nI (by4 f (p0 + 4)))], M)) rfl rfl rfl ?_
    refine ps_if (S1 := (35, [], [], M)) (S2 := (25, [(3, .int (nI (by4 f (p0 + 4)))), (0, .ref ac), (1, .int (nI p0)), (2, .int (nI e))], [], M)) rfl rfl rfl (fun c_22 => ?_) (fun c_22 => ?_)
    · have c_22 : (nI (by4 f (p0 + 4))) < 0 := of_decide_eq_true c_22
      have n_22 : 2147483648 ≤ by4 f (p0 + 4) := (neg_nI (by4_lt _ _)).mp c_22
      refine ps_st (S' := (36, [], [.int (-1)], M)) rfl rfl rfl ?_
      exact ps_ret rfl rfl (Or.inl ⟨by
          unfold s_cdE
          first | ((repeat first | rw [if_pos (by omega)] | rw [if_neg (by omega)]) <;> first | rfl | omega) | ((repeat' split) <;> first | rfl | (exfalso; omega) | omega), rfl, rfl⟩)
    · have c_22 : ¬ ((nI (by4 f (p0 + 4))) < 0) := of_decide_eq_false c_22
      have n_22 : ¬ (2147483648 ≤ by4 f (p0 + 4)) := fun h9 => c_22 ((neg_nI (by4_lt _ _)).mpr h9)
      refine ps_st (S' := (26, [(3, .int (nI (by4 f (p0 + 4)))), (0, .ref ac), (1, .int (nI p0)), (2, .int (nI e))], [.int (nI (by4 f (p0 + 4)))], M)) rfl rfl rfl ?_
      refine ps_st (S' := (27, [(3, .int (nI (by4 f (p0 + 4)))), (0, .ref ac), (1, .int (nI p0)), (2, .int (nI e))], [.int (nI e), .int (nI (by4 f (p0 + 4)))], M)) rfl rfl rfl ?_
      refine ps_st (S' := (28, [(3, .int (nI (by4 f (p0 + 4)))), (0, .ref ac), (1, .int (nI p0)), (2, .int (nI e))], [.int (nI p0), .int (nI e), .int (nI (by4 f (p0 + 4)))], M)) rfl rfl rfl ?_
      refine ps_st (S' := (29, [(3, .int (nI (by4 f (p0 + 4)))), (0, .ref ac), (1, .int (nI p0)), (2, .int (nI e))], [.int ((nI e) - (nI p0)), .int (nI (by4 f (p0 + 4)))], M)) rfl rfl rfl ?_
      refine ps_st (S' := (31, [(3, .int (nI (by4 f (p0 + 4)))), (0, .ref ac), (1, .int (nI p0)), (2, .int (nI e))], [.int 8, .int ((nI e) - (nI p0)), .int (nI (by4 f (p0 + 4)))], M)) rfl rfl rfl ?_
      refine ps_st (S' := (32, [(3, .int (nI (by4 f (p0 + 4)))), (0, .ref ac), (1, .int (nI p0)), (2, .int (nI e))], [.int (((nI e) - (nI p0)) - 8), .int (nI (by4 f (p0 + 4)))], M)) rfl rfl rfl ?_
      refine ps_if2 (S1 := (37, [(3, .int (nI (by4 f (p0 + 4)))), (0, .ref ac), (1, .int (nI p0)), (2, .int (nI e))], [], M)) (S2 := (35, [], [], M)) rfl rfl rfl (fun c_32 => ?_) (fun c_32 => ?_)
      · have c_32 : (nI (by4 f (p0 + 4))) ≤ (((nI e) - (nI p0)) - 8) := of_decide_eq_true c_32
        have n_32 : (by4 f (p0 + 4)) + (p0 + 8) ≤ e := (le_sub2 (e := e) (p := p0) (p2 := 8) (k := by4 f (p0 + 4)) (by omega) (by omega) (by omega)).mp c_32
        refine ps_st (S' := (38, [(3, .int (nI (by4 f (p0 + 4)))), (0, .ref ac), (1, .int (nI p0)), (2, .int (nI e))], [.int (nI p0)], M)) rfl rfl rfl ?_
        refine ps_st (S' := (40, [(3, .int (nI (by4 f (p0 + 4)))), (0, .ref ac), (1, .int (nI p0)), (2, .int (nI e))], [.int 8, .int (nI p0)], M)) rfl rfl rfl ?_
        refine ps_st (S' := (41, [(3, .int (nI (by4 f (p0 + 4)))), (0, .ref ac), (1, .int (nI p0)), (2, .int (nI e))], [.int ((nI p0) + 8)], M)) rfl rfl rfl ?_
        rw [nI_add1 (p := p0) (k := 8) (x := 8) rfl (by omega)]
        show pl _ _ _ (_, [(3, .int (nI (by4 f (p0 + 4)))), (0, .ref ac), (1, .int (nI p0)), (2, .int (nI e))], [.int (nI (p0 + 8))], M) _
        refine ps_st (S' := (42, [(3, .int (nI (by4 f (p0 + 4)))), (0, .ref ac), (1, .int (nI p0)), (2, .int (nI e))], [.int (nI (by4 f (p0 + 4))), .int (nI (p0 + 8))], M)) rfl rfl rfl ?_
        refine ps_st (S' := (43, [(3, .int (nI (by4 f (p0 + 4)))), (0, .ref ac), (1, .int (nI p0)), (2, .int (nI e))], [.int ((nI (p0 + 8)) + (nI (by4 f (p0 + 4))))], M)) rfl rfl rfl ?_
        rw [nI_add1 (p := p0 + 8) (k := by4 f (p0 + 4)) (x := (nI (by4 f (p0 + 4)))) rfl (by omega)]
        show pl _ _ _ (_, [(3, .int (nI (by4 f (p0 + 4)))), (0, .ref ac), (1, .int (nI p0)), (2, .int (nI e))], [.int (nI (p0 + 8 + by4 f (p0 + 4)))], M) _
        refine ps_st (S' := (45, [(4, .int (nI (p0 + 8 + by4 f (p0 + 4)))), (3, .int (nI (by4 f (p0 + 4)))), (0, .ref ac), (1, .int (nI p0)), (2, .int (nI e))], [], M)) rfl rfl rfl ?_
        refine ps_st (S' := (46, [(4, .int (nI (p0 + 8 + by4 f (p0 + 4)))), (3, .int (nI (by4 f (p0 + 4)))), (0, .ref ac), (1, .int (nI p0)), (2, .int (nI e))], [.int (nI e)], M)) rfl rfl rfl ?_
        refine ps_st (S' := (48, [(4, .int (nI (p0 + 8 + by4 f (p0 + 4)))), (3, .int (nI (by4 f (p0 + 4)))), (0, .ref ac), (1, .int (nI p0)), (2, .int (nI e))], [.int (nI (p0 + 8 + by4 f (p0 + 4))), .int (nI e)], M)) rfl rfl rfl ?_
        refine ps_st (S' := (49, [(4, .int (nI (p0 + 8 + by4 f (p0 + 4)))), (3, .int (nI (by4 f (p0 + 4)))), (0, .ref ac), (1, .int (nI p0)), (2, .int (nI e))], [.int ((nI e) - (nI (p0 + 8 + by4 f (p0 + 4))))], M)) rfl rfl rfl ?_
        refine ps_st (S' := (50, [(4, .int (nI (p0 + 8 + by4 f (p0 + 4)))), (3, .int (nI (by4 f (p0 + 4)))), (0, .ref ac), (1, .int (nI p0)), (2, .int (nI e))], [.int 2, .int ((nI e) - (nI (p0 + 8 + by4 f (p0 + 4))))], M)) rfl rfl rfl ?_
        refine ps_if2 (S1 := (74, [], [], M)) (S2 := (53, [(4, .int (nI (p0 + 8 + by4 f (p0 + 4)))), (3, .int (nI (by4 f (p0 + 4)))), (0, .ref ac), (1, .int (nI p0)), (2, .int (nI e))], [], M)) rfl rfl rfl (fun c_50 => ?_) (fun c_50 => ?_)
        · have c_50 : ((nI e) - (nI (p0 + 8 + by4 f (p0 + 4)))) < 2 := of_decide_eq_true c_50
          have n_50 : e < p0 + 8 + by4 f (p0 + 4) + 2 := (sub_lt1 (e := e) (p := p0 + 8 + by4 f (p0 + 4)) (k := 2) (by omega) (by omega) (by omega)).mp c_50
          refine ps_st (S' := (75, [], [.int (-1)], M)) rfl rfl rfl ?_
          exact ps_ret rfl rfl (Or.inl ⟨by
              unfold s_cdE
              first | ((repeat first | rw [if_pos (by omega)] | rw [if_neg (by omega)]) <;> first | rfl | omega) | ((repeat' split) <;> first | rfl | (exfalso; omega) | omega), rfl, rfl⟩)
        · have c_50 : ¬ (((nI e) - (nI (p0 + 8 + by4 f (p0 + 4)))) < 2) := of_decide_eq_false c_50
          have n_50 : ¬ (e < p0 + 8 + by4 f (p0 + 4) + 2) := fun h8 => c_50 ((sub_lt1 (e := e) (p := p0 + 8 + by4 f (p0 + 4)) (k := 2) (by omega) (by omega) (by omega)).mpr h8)
          refine ps_st (S' := (54, [(4, .int (nI (p0 + 8 + by4 f (p0 + 4)))), (3, .int (nI (by4 f (p0 + 4)))), (0, .ref ac), (1, .int (nI p0)), (2, .int (nI e))], [.int (nI e)], M)) rfl rfl rfl ?_
          refine ps_st (S' := (56, [(4, .int (nI (p0 + 8 + by4 f (p0 + 4)))), (3, .int (nI (by4 f (p0 + 4)))), (0, .ref ac), (1, .int (nI p0)), (2, .int (nI e))], [.int (nI (p0 + 8 + by4 f (p0 + 4))), .int (nI e)], M)) rfl rfl rfl ?_
          refine ps_st (S' := (57, [(4, .int (nI (p0 + 8 + by4 f (p0 + 4)))), (3, .int (nI (by4 f (p0 + 4)))), (0, .ref ac), (1, .int (nI p0)), (2, .int (nI e))], [.int ((nI e) - (nI (p0 + 8 + by4 f (p0 + 4))))], M)) rfl rfl rfl ?_
          refine ps_st (S' := (58, [(4, .int (nI (p0 + 8 + by4 f (p0 + 4)))), (3, .int (nI (by4 f (p0 + 4)))), (0, .ref ac), (1, .int (nI p0)), (2, .int (nI e))], [.int 2, .int ((nI e) - (nI (p0 + 8 + by4 f (p0 + 4))))], M)) rfl rfl rfl ?_
          refine ps_st (S' := (59, [(4, .int (nI (p0 + 8 + by4 f (p0 + 4)))), (3, .int (nI (by4 f (p0 + 4)))), (0, .ref ac), (1, .int (nI p0)), (2, .int (nI e))], [.int (((nI e) - (nI (p0 + 8 + by4 f (p0 + 4)))) - 2)], M)) rfl rfl rfl ?_
          refine ps_st (S' := (61, [(4, .int (nI (p0 + 8 + by4 f (p0 + 4)))), (3, .int (nI (by4 f (p0 + 4)))), (0, .ref ac), (1, .int (nI p0)), (2, .int (nI e))], [.int 8, .int (((nI e) - (nI (p0 + 8 + by4 f (p0 + 4)))) - 2)], M)) rfl rfl rfl ?_
          refine ps_st (S' := (62, [(4, .int (nI (p0 + 8 + by4 f (p0 + 4)))), (3, .int (nI (by4 f (p0 + 4)))), (0, .ref ac), (1, .int (nI p0)), (2, .int (nI e))], [.ref ac, .int 8, .int (((nI e) - (nI (p0 + 8 + by4 f (p0 + 4)))) - 2)], M)) rfl rfl rfl ?_
          refine ps_get (S' := (65, [(4, .int (nI (p0 + 8 + by4 f (p0 + 4)))), (3, .int (nI (by4 f (p0 + 4)))), (0, .ref ac), (1, .int (nI p0)), (2, .int (nI e))], [.ref b, .int 8, .int (((nI e) - (nI (p0 + 8 + by4 f (p0 + 4)))) - 2)], M)) rfl h_ac rfl rfl ?_
          refine ps_st (S' := (67, [(4, .int (nI (p0 + 8 + by4 f (p0 + 4)))), (3, .int (nI (by4 f (p0 + 4)))), (0, .ref ac), (1, .int (nI p0)), (2, .int (nI e))], [.int (nI (p0 + 8 + by4 f (p0 + 4))), .ref b, .int 8, .int (((nI e) - (nI (p0 + 8 + by4 f (p0 + 4)))) - 2)], M)) rfl rfl rfl ?_
          refine pl_call (a := [.ref b, .int (nI (p0 + 8 + by4 f (p0 + 4)))]) (rest := [.int 8, .int (((nI e) - (nI (p0 + 8 + by4 f (p0 + 4)))) - 2)]) rfl rfl rfl (dk_u2 (f := f) (n := n) (b := b) (da := da) (p := (p0 + 8 + by4 f (p0 + 4))) h_b h_da (hn) (by omega)) (fun v4 M5 q6 => ?_)
          obtain ⟨rfl, rfl⟩ := q6
          show pl _ _ _ (70, [(4, .int (nI (p0 + 8 + by4 f (p0 + 4)))), (3, .int (nI (by4 f (p0 + 4)))), (0, .ref ac), (1, .int (nI p0)), (2, .int (nI e))], [.int (nI (by2 f (p0 + 8 + by4 f (p0 + 4)))), .int 8, .int (((nI e) - (nI (p0 + 8 + by4 f (p0 + 4)))) - 2)], M) _
          have hu_67 := by2_lt f (p0 + 8 + by4 f (p0 + 4))
          refine ps_st (S' := (71, [(4, .int (nI (p0 + 8 + by4 f (p0 + 4)))), (3, .int (nI (by4 f (p0 + 4)))), (0, .ref ac), (1, .int (nI p0)), (2, .int (nI e))], [.int (8 * (nI (by2 f (p0 + 8 + by4 f (p0 + 4))))), .int (((nI e) - (nI (p0 + 8 + by4 f (p0 + 4)))) - 2)], M)) rfl rfl rfl ?_
          rw [nI_mul1 (p := 8) (k := by2 f (p0 + 8 + by4 f (p0 + 4))) (x := 8) (y := (nI (by2 f (p0 + 8 + by4 f (p0 + 4))))) rfl rfl (by omega)]
          show pl _ _ _ (_, [(4, .int (nI (p0 + 8 + by4 f (p0 + 4)))), (3, .int (nI (by4 f (p0 + 4)))), (0, .ref ac), (1, .int (nI p0)), (2, .int (nI e))], [.int (nI (8 * (by2 f (p0 + 8 + by4 f (p0 + 4))))), .int (((nI e) - (nI (p0 + 8 + by4 f (p0 + 4)))) - 2)], M) _
          refine ps_if2 (S1 := (76, [(4, .int (nI (p0 + 8 + by4 f (p0 + 4)))), (3, .int (nI (by4 f (p0 + 4)))), (0, .ref ac), (1, .int (nI p0)), (2, .int (nI e))], [], M)) (S2 := (74, [], [], M)) rfl rfl rfl (fun c_71 => ?_) (fun c_71 => ?_)
          · have c_71 : (nI (8 * (by2 f (p0 + 8 + by4 f (p0 + 4))))) ≤ (((nI e) - (nI (p0 + 8 + by4 f (p0 + 4)))) - 2) := of_decide_eq_true c_71
            have n_71 : (8 * (by2 f (p0 + 8 + by4 f (p0 + 4)))) + (p0 + 8 + by4 f (p0 + 4) + 2) ≤ e := (le_sub2 (e := e) (p := p0 + 8 + by4 f (p0 + 4)) (p2 := 2) (k := 8 * (by2 f (p0 + 8 + by4 f (p0 + 4)))) (by omega) (by omega) (by omega)).mp c_71
            refine ps_st (S' := (78, [(4, .int (nI (p0 + 8 + by4 f (p0 + 4)))), (3, .int (nI (by4 f (p0 + 4)))), (0, .ref ac), (1, .int (nI p0)), (2, .int (nI e))], [.int (nI (p0 + 8 + by4 f (p0 + 4)))], M)) rfl rfl rfl ?_
            refine ps_st (S' := (79, [(4, .int (nI (p0 + 8 + by4 f (p0 + 4)))), (3, .int (nI (by4 f (p0 + 4)))), (0, .ref ac), (1, .int (nI p0)), (2, .int (nI e))], [.int 2, .int (nI (p0 + 8 + by4 f (p0 + 4)))], M)) rfl rfl rfl ?_
            refine ps_st (S' := (80, [(4, .int (nI (p0 + 8 + by4 f (p0 + 4)))), (3, .int (nI (by4 f (p0 + 4)))), (0, .ref ac), (1, .int (nI p0)), (2, .int (nI e))], [.int ((nI (p0 + 8 + by4 f (p0 + 4))) + 2)], M)) rfl rfl rfl ?_
            rw [nI_add1 (p := p0 + 8 + by4 f (p0 + 4)) (k := 2) (x := 2) rfl (by omega)]
            show pl _ _ _ (_, [(4, .int (nI (p0 + 8 + by4 f (p0 + 4)))), (3, .int (nI (by4 f (p0 + 4)))), (0, .ref ac), (1, .int (nI p0)), (2, .int (nI e))], [.int (nI (p0 + 8 + by4 f (p0 + 4) + 2))], M) _
            refine ps_st (S' := (82, [(4, .int (nI (p0 + 8 + by4 f (p0 + 4)))), (3, .int (nI (by4 f (p0 + 4)))), (0, .ref ac), (1, .int (nI p0)), (2, .int (nI e))], [.int 8, .int (nI (p0 + 8 + by4 f (p0 + 4) + 2))], M)) rfl rfl rfl ?_
            refine ps_st (S' := (83, [(4, .int (nI (p0 + 8 + by4 f (p0 + 4)))), (3, .int (nI (by4 f (p0 + 4)))), (0, .ref ac), (1, .int (nI p0)), (2, .int (nI e))], [.ref ac, .int 8, .int (nI (p0 + 8 + by4 f (p0 + 4) + 2))], M)) rfl rfl rfl ?_
            refine ps_get (S' := (86, [(4, .int (nI (p0 + 8 + by4 f (p0 + 4)))), (3, .int (nI (by4 f (p0 + 4)))), (0, .ref ac), (1, .int (nI p0)), (2, .int (nI e))], [.ref b, .int 8, .int (nI (p0 + 8 + by4 f (p0 + 4) + 2))], M)) rfl h_ac rfl rfl ?_
            refine ps_st (S' := (88, [(4, .int (nI (p0 + 8 + by4 f (p0 + 4)))), (3, .int (nI (by4 f (p0 + 4)))), (0, .ref ac), (1, .int (nI p0)), (2, .int (nI e))], [.int (nI (p0 + 8 + by4 f (p0 + 4))), .ref b, .int 8, .int (nI (p0 + 8 + by4 f (p0 + 4) + 2))], M)) rfl rfl rfl ?_
            refine pl_call (a := [.ref b, .int (nI (p0 + 8 + by4 f (p0 + 4)))]) (rest := [.int 8, .int (nI (p0 + 8 + by4 f (p0 + 4) + 2))]) rfl rfl rfl (dk_u2 (f := f) (n := n) (b := b) (da := da) (p := (p0 + 8 + by4 f (p0 + 4))) h_b h_da (hn) (by omega)) (fun v7 M8 q9 => ?_)
            obtain ⟨rfl, rfl⟩ := q9
            show pl _ _ _ (91, [(4, .int (nI (p0 + 8 + by4 f (p0 + 4)))), (3, .int (nI (by4 f (p0 + 4)))), (0, .ref ac), (1, .int (nI p0)), (2, .int (nI e))], [.int (nI (by2 f (p0 + 8 + by4 f (p0 + 4)))), .int 8, .int (nI (p0 + 8 + by4 f (p0 + 4) + 2))], M) _
            have hu_88 := by2_lt f (p0 + 8 + by4 f (p0 + 4))
            refine ps_st (S' := (92, [(4, .int (nI (p0 + 8 + by4 f (p0 + 4)))), (3, .int (nI (by4 f (p0 + 4)))), (0, .ref ac), (1, .int (nI p0)), (2, .int (nI e))], [.int (8 * (nI (by2 f (p0 + 8 + by4 f (p0 + 4))))), .int (nI (p0 + 8 + by4 f (p0 + 4) + 2))], M)) rfl rfl rfl ?_
            rw [nI_mul1 (p := 8) (k := by2 f (p0 + 8 + by4 f (p0 + 4))) (x := 8) (y := (nI (by2 f (p0 + 8 + by4 f (p0 + 4))))) rfl rfl (by omega)]
            show pl _ _ _ (_, [(4, .int (nI (p0 + 8 + by4 f (p0 + 4)))), (3, .int (nI (by4 f (p0 + 4)))), (0, .ref ac), (1, .int (nI p0)), (2, .int (nI e))], [.int (nI (8 * (by2 f (p0 + 8 + by4 f (p0 + 4))))), .int (nI (p0 + 8 + by4 f (p0 + 4) + 2))], M) _
            refine ps_st (S' := (93, [(4, .int (nI (p0 + 8 + by4 f (p0 + 4)))), (3, .int (nI (by4 f (p0 + 4)))), (0, .ref ac), (1, .int (nI p0)), (2, .int (nI e))], [.int ((nI (p0 + 8 + by4 f (p0 + 4) + 2)) + (nI (8 * (by2 f (p0 + 8 + by4 f (p0 + 4))))))], M)) rfl rfl rfl ?_
            rw [nI_add1 (p := p0 + 8 + by4 f (p0 + 4) + 2) (k := 8 * (by2 f (p0 + 8 + by4 f (p0 + 4)))) (x := (nI (8 * (by2 f (p0 + 8 + by4 f (p0 + 4)))))) rfl (by omega)]
            show pl _ _ _ (_, [(4, .int (nI (p0 + 8 + by4 f (p0 + 4)))), (3, .int (nI (by4 f (p0 + 4)))), (0, .ref ac), (1, .int (nI p0)), (2, .int (nI e))], [.int (nI (p0 + 8 + by4 f (p0 + 4) + 2 + 8 * (by2 f (p0 + 8 + by4 f (p0 + 4)))))], M) _
            refine ps_st (S' := (95, [(5, .int (nI (p0 + 8 + by4 f (p0 + 4) + 2 + 8 * (by2 f (p0 + 8 + by4 f (p0 + 4)))))), (4, .int (nI (p0 + 8 + by4 f (p0 + 4)))), (3, .int (nI (by4 f (p0 + 4)))), (0, .ref ac), (1, .int (nI p0)), (2, .int (nI e))], [], M)) rfl rfl rfl ?_
            refine ps_st (S' := (96, [(5, .int (nI (p0 + 8 + by4 f (p0 + 4) + 2 + 8 * (by2 f (p0 + 8 + by4 f (p0 + 4)))))), (4, .int (nI (p0 + 8 + by4 f (p0 + 4)))), (3, .int (nI (by4 f (p0 + 4)))), (0, .ref ac), (1, .int (nI p0)), (2, .int (nI e))], [.int (nI e)], M)) rfl rfl rfl ?_
            refine ps_st (S' := (98, [(5, .int (nI (p0 + 8 + by4 f (p0 + 4) + 2 + 8 * (by2 f (p0 + 8 + by4 f (p0 + 4)))))), (4, .int (nI (p0 + 8 + by4 f (p0 + 4)))), (3, .int (nI (by4 f (p0 + 4)))), (0, .ref ac), (1, .int (nI p0)), (2, .int (nI e))], [.int (nI (p0 + 8 + by4 f (p0 + 4) + 2 + 8 * (by2 f (p0 + 8 + by4 f (p0 + 4))))), .int (nI e)], M)) rfl rfl rfl ?_
            refine ps_st (S' := (99, [(5, .int (nI (p0 + 8 + by4 f (p0 + 4) + 2 + 8 * (by2 f (p0 + 8 + by4 f (p0 + 4)))))), (4, .int (nI (p0 + 8 + by4 f (p0 + 4)))), (3, .int (nI (by4 f (p0 + 4)))), (0, .ref ac), (1, .int (nI p0)), (2, .int (nI e))], [.int ((nI e) - (nI (p0 + 8 + by4 f (p0 + 4) + 2 + 8 * (by2 f (p0 + 8 + by4 f (p0 + 4))))))], M)) rfl rfl rfl ?_
            refine ps_st (S' := (100, [(5, .int (nI (p0 + 8 + by4 f (p0 + 4) + 2 + 8 * (by2 f (p0 + 8 + by4 f (p0 + 4)))))), (4, .int (nI (p0 + 8 + by4 f (p0 + 4)))), (3, .int (nI (by4 f (p0 + 4)))), (0, .ref ac), (1, .int (nI p0)), (2, .int (nI e))], [.int 2, .int ((nI e) - (nI (p0 + 8 + by4 f (p0 + 4) + 2 + 8 * (by2 f (p0 + 8 + by4 f (p0 + 4))))))], M)) rfl rfl rfl ?_
            refine ps_if2 (S1 := (105, [(5, .int (nI (p0 + 8 + by4 f (p0 + 4) + 2 + 8 * (by2 f (p0 + 8 + by4 f (p0 + 4)))))), (4, .int (nI (p0 + 8 + by4 f (p0 + 4)))), (3, .int (nI (by4 f (p0 + 4)))), (0, .ref ac), (1, .int (nI p0)), (2, .int (nI e))], [], M)) (S2 := (103, [(5, .int (nI (p0 + 8 + by4 f (p0 + 4) + 2 + 8 * (by2 f (p0 + 8 + by4 f (p0 + 4)))))), (4, .int (nI (p0 + 8 + by4 f (p0 + 4)))), (3, .int (nI (by4 f (p0 + 4)))), (0, .ref ac), (1, .int (nI p0)), (2, .int (nI e))], [], M)) rfl rfl rfl (fun c_100 => ?_) (fun c_100 => ?_)
            · have c_100 : 2 ≤ ((nI e) - (nI (p0 + 8 + by4 f (p0 + 4) + 2 + 8 * (by2 f (p0 + 8 + by4 f (p0 + 4)))))) := of_decide_eq_true c_100
              have n_100 : 2 + (p0 + 8 + by4 f (p0 + 4) + 2 + 8 * (by2 f (p0 + 8 + by4 f (p0 + 4)))) ≤ e := (le_sub1 (e := e) (p := p0 + 8 + by4 f (p0 + 4) + 2 + 8 * (by2 f (p0 + 8 + by4 f (p0 + 4)))) (k := 2) (by omega) (by omega) (by omega)).mp c_100
              refine ps_st (S' := (106, [(5, .int (nI (p0 + 8 + by4 f (p0 + 4) + 2 + 8 * (by2 f (p0 + 8 + by4 f (p0 + 4)))))), (4, .int (nI (p0 + 8 + by4 f (p0 + 4)))), (3, .int (nI (by4 f (p0 + 4)))), (0, .ref ac), (1, .int (nI p0)), (2, .int (nI e))], [.ref ac], M)) rfl rfl rfl ?_
              refine ps_get (S' := (109, [(5, .int (nI (p0 + 8 + by4 f (p0 + 4) + 2 + 8 * (by2 f (p0 + 8 + by4 f (p0 + 4)))))), (4, .int (nI (p0 + 8 + by4 f (p0 + 4)))), (3, .int (nI (by4 f (p0 + 4)))), (0, .ref ac), (1, .int (nI p0)), (2, .int (nI e))], [.ref b], M)) rfl h_ac rfl rfl ?_
              refine ps_st (S' := (111, [(5, .int (nI (p0 + 8 + by4 f (p0 + 4) + 2 + 8 * (by2 f (p0 + 8 + by4 f (p0 + 4)))))), (4, .int (nI (p0 + 8 + by4 f (p0 + 4)))), (3, .int (nI (by4 f (p0 + 4)))), (0, .ref ac), (1, .int (nI p0)), (2, .int (nI e))], [.int (nI (p0 + 8 + by4 f (p0 + 4) + 2 + 8 * (by2 f (p0 + 8 + by4 f (p0 + 4))))), .ref b], M)) rfl rfl rfl ?_
              refine ps_st (S' := (112, [(5, .int (nI (p0 + 8 + by4 f (p0 + 4) + 2 + 8 * (by2 f (p0 + 8 + by4 f (p0 + 4)))))), (4, .int (nI (p0 + 8 + by4 f (p0 + 4)))), (3, .int (nI (by4 f (p0 + 4)))), (0, .ref ac), (1, .int (nI p0)), (2, .int (nI e))], [.int 2, .int (nI (p0 + 8 + by4 f (p0 + 4) + 2 + 8 * (by2 f (p0 + 8 + by4 f (p0 + 4))))), .ref b], M)) rfl rfl rfl ?_
              refine ps_st (S' := (113, [(5, .int (nI (p0 + 8 + by4 f (p0 + 4) + 2 + 8 * (by2 f (p0 + 8 + by4 f (p0 + 4)))))), (4, .int (nI (p0 + 8 + by4 f (p0 + 4)))), (3, .int (nI (by4 f (p0 + 4)))), (0, .ref ac), (1, .int (nI p0)), (2, .int (nI e))], [.int ((nI (p0 + 8 + by4 f (p0 + 4) + 2 + 8 * (by2 f (p0 + 8 + by4 f (p0 + 4))))) + 2), .ref b], M)) rfl rfl rfl ?_
              rw [nI_add1 (p := p0 + 8 + by4 f (p0 + 4) + 2 + 8 * (by2 f (p0 + 8 + by4 f (p0 + 4)))) (k := 2) (x := 2) rfl (by omega)]
              show pl _ _ _ (_, [(5, .int (nI (p0 + 8 + by4 f (p0 + 4) + 2 + 8 * (by2 f (p0 + 8 + by4 f (p0 + 4)))))), (4, .int (nI (p0 + 8 + by4 f (p0 + 4)))), (3, .int (nI (by4 f (p0 + 4)))), (0, .ref ac), (1, .int (nI p0)), (2, .int (nI e))], [.int (nI (p0 + 8 + by4 f (p0 + 4) + 2 + 8 * (by2 f (p0 + 8 + by4 f (p0 + 4))) + 2)), .ref b], M) _
              refine ps_st (S' := (114, [(5, .int (nI (p0 + 8 + by4 f (p0 + 4) + 2 + 8 * (by2 f (p0 + 8 + by4 f (p0 + 4)))))), (4, .int (nI (p0 + 8 + by4 f (p0 + 4)))), (3, .int (nI (by4 f (p0 + 4)))), (0, .ref ac), (1, .int (nI p0)), (2, .int (nI e))], [.ref ac, .int (nI (p0 + 8 + by4 f (p0 + 4) + 2 + 8 * (by2 f (p0 + 8 + by4 f (p0 + 4))) + 2)), .ref b], M)) rfl rfl rfl ?_
              refine ps_get (S' := (117, [(5, .int (nI (p0 + 8 + by4 f (p0 + 4) + 2 + 8 * (by2 f (p0 + 8 + by4 f (p0 + 4)))))), (4, .int (nI (p0 + 8 + by4 f (p0 + 4)))), (3, .int (nI (by4 f (p0 + 4)))), (0, .ref ac), (1, .int (nI p0)), (2, .int (nI e))], [.ref b, .int (nI (p0 + 8 + by4 f (p0 + 4) + 2 + 8 * (by2 f (p0 + 8 + by4 f (p0 + 4))) + 2)), .ref b], M)) rfl h_ac rfl rfl ?_
              refine ps_st (S' := (119, [(5, .int (nI (p0 + 8 + by4 f (p0 + 4) + 2 + 8 * (by2 f (p0 + 8 + by4 f (p0 + 4)))))), (4, .int (nI (p0 + 8 + by4 f (p0 + 4)))), (3, .int (nI (by4 f (p0 + 4)))), (0, .ref ac), (1, .int (nI p0)), (2, .int (nI e))], [.int (nI (p0 + 8 + by4 f (p0 + 4) + 2 + 8 * (by2 f (p0 + 8 + by4 f (p0 + 4))))), .ref b, .int (nI (p0 + 8 + by4 f (p0 + 4) + 2 + 8 * (by2 f (p0 + 8 + by4 f (p0 + 4))) + 2)), .ref b], M)) rfl rfl rfl ?_
              refine pl_call (a := [.ref b, .int (nI (p0 + 8 + by4 f (p0 + 4) + 2 + 8 * (by2 f (p0 + 8 + by4 f (p0 + 4)))))]) (rest := [.int (nI (p0 + 8 + by4 f (p0 + 4) + 2 + 8 * (by2 f (p0 + 8 + by4 f (p0 + 4))) + 2)), .ref b]) rfl rfl rfl (dk_u2 (f := f) (n := n) (b := b) (da := da) (p := (p0 + 8 + by4 f (p0 + 4) + 2 + 8 * (by2 f (p0 + 8 + by4 f (p0 + 4))))) h_b h_da (hn) (by omega)) (fun v10 M11 q12 => ?_)
              obtain ⟨rfl, rfl⟩ := q12
              show pl _ _ _ (122, [(5, .int (nI (p0 + 8 + by4 f (p0 + 4) + 2 + 8 * (by2 f (p0 + 8 + by4 f (p0 + 4)))))), (4, .int (nI (p0 + 8 + by4 f (p0 + 4)))), (3, .int (nI (by4 f (p0 + 4)))), (0, .ref ac), (1, .int (nI p0)), (2, .int (nI e))], [.int (nI (by2 f (p0 + 8 + by4 f (p0 + 4) + 2 + 8 * (by2 f (p0 + 8 + by4 f (p0 + 4)))))), .int (nI (p0 + 8 + by4 f (p0 + 4) + 2 + 8 * (by2 f (p0 + 8 + by4 f (p0 + 4))) + 2)), .ref b], M) _
              have hu_119 := by2_lt f (p0 + 8 + by4 f (p0 + 4) + 2 + 8 * (by2 f (p0 + 8 + by4 f (p0 + 4))))
              refine ps_st (S' := (123, [(5, .int (nI (p0 + 8 + by4 f (p0 + 4) + 2 + 8 * (by2 f (p0 + 8 + by4 f (p0 + 4)))))), (4, .int (nI (p0 + 8 + by4 f (p0 + 4)))), (3, .int (nI (by4 f (p0 + 4)))), (0, .ref ac), (1, .int (nI p0)), (2, .int (nI e))], [.int (nI e), .int (nI (by2 f (p0 + 8 + by4 f (p0 + 4) + 2 + 8 * (by2 f (p0 + 8 + by4 f (p0 + 4)))))), .int (nI (p0 + 8 + by4 f (p0 + 4) + 2 + 8 * (by2 f (p0 + 8 + by4 f (p0 + 4))) + 2)), .ref b], M)) rfl rfl rfl ?_
              refine pl_call (a := [.ref b, .int (nI (p0 + 8 + by4 f (p0 + 4) + 2 + 8 * (by2 f (p0 + 8 + by4 f (p0 + 4))) + 2)), .int (nI (by2 f (p0 + 8 + by4 f (p0 + 4) + 2 + 8 * (by2 f (p0 + 8 + by4 f (p0 + 4)))))), .int (nI e)]) (rest := []) rfl rfl rfl (dk_attributesEnd (f := f) (n := n) (b := b) (da := da) (p0 := (p0 + 8 + by4 f (p0 + 4) + 2 + 8 * (by2 f (p0 + 8 + by4 f (p0 + 4))) + 2)) (e := e) (t := (by2 f (p0 + 8 + by4 f (p0 + 4) + 2 + 8 * (by2 f (p0 + 8 + by4 f (p0 + 4)))))) h_b h_da (hn) (by omega) (by2_lt _ _)) (fun v13 M14 q15 => ?_)
              rcases q15 with q15 | q15
              · skip
                obtain ⟨q123_s, rfl, rfl⟩ := q15
                show pl _ _ _ (126, [(5, .int (nI (p0 + 8 + by4 f (p0 + 4) + 2 + 8 * (by2 f (p0 + 8 + by4 f (p0 + 4)))))), (4, .int (nI (p0 + 8 + by4 f (p0 + 4)))), (3, .int (nI (by4 f (p0 + 4)))), (0, .ref ac), (1, .int (nI p0)), (2, .int (nI e))], [.int (-1)], M) _
                exact ps_ret rfl rfl (Or.inl ⟨by
                    unfold s_cdE
                    rw [if_neg (by omega), if_neg (by omega), if_neg (by omega)]
                    exact q123_s, rfl, rfl⟩)
              · skip
                obtain ⟨x16, q123_s, q123_l, rfl, rfl⟩ := q15
                show pl _ _ _ (126, [(5, .int (nI (p0 + 8 + by4 f (p0 + 4) + 2 + 8 * (by2 f (p0 + 8 + by4 f (p0 + 4)))))), (4, .int (nI (p0 + 8 + by4 f (p0 + 4)))), (3, .int (nI (by4 f (p0 + 4)))), (0, .ref ac), (1, .int (nI p0)), (2, .int (nI e))], [.int (nI x16)], M) _
                have hl_123 := s_atE_le (by omega) q123_s
                exact ps_reti rfl (Or.inr ⟨x16, by
                    unfold s_cdE
                    rw [if_neg (by omega), if_neg (by omega), if_neg (by omega)]
                    exact q123_s, by omega, rfl, rfl⟩)
            · have c_100 : ¬ (2 ≤ ((nI e) - (nI (p0 + 8 + by4 f (p0 + 4) + 2 + 8 * (by2 f (p0 + 8 + by4 f (p0 + 4))))))) := of_decide_eq_false c_100
              have n_100 : ¬ (2 + (p0 + 8 + by4 f (p0 + 4) + 2 + 8 * (by2 f (p0 + 8 + by4 f (p0 + 4)))) ≤ e) := fun h8 => c_100 ((le_sub1 (e := e) (p := p0 + 8 + by4 f (p0 + 4) + 2 + 8 * (by2 f (p0 + 8 + by4 f (p0 + 4)))) (k := 2) (by omega) (by omega) (by omega)).mpr h8)
              refine ps_st (S' := (104, [(5, .int (nI (p0 + 8 + by4 f (p0 + 4) + 2 + 8 * (by2 f (p0 + 8 + by4 f (p0 + 4)))))), (4, .int (nI (p0 + 8 + by4 f (p0 + 4)))), (3, .int (nI (by4 f (p0 + 4)))), (0, .ref ac), (1, .int (nI p0)), (2, .int (nI e))], [.int (-1)], M)) rfl rfl rfl ?_
              exact ps_ret rfl rfl (Or.inl ⟨by
                  unfold s_cdE
                  first | ((repeat first | rw [if_pos (by omega)] | rw [if_neg (by omega)]) <;> first | rfl | omega) | ((repeat' split) <;> first | rfl | (exfalso; omega) | omega), rfl, rfl⟩)
          · have c_71 : ¬ ((nI (8 * (by2 f (p0 + 8 + by4 f (p0 + 4))))) ≤ (((nI e) - (nI (p0 + 8 + by4 f (p0 + 4)))) - 2)) := of_decide_eq_false c_71
            have n_71 : ¬ ((8 * (by2 f (p0 + 8 + by4 f (p0 + 4)))) + (p0 + 8 + by4 f (p0 + 4) + 2) ≤ e) := fun h8 => c_71 ((le_sub2 (e := e) (p := p0 + 8 + by4 f (p0 + 4)) (p2 := 2) (k := 8 * (by2 f (p0 + 8 + by4 f (p0 + 4)))) (by omega) (by omega) (by omega)).mpr h8)
            refine ps_st (S' := (75, [], [.int (-1)], M)) rfl rfl rfl ?_
            exact ps_ret rfl rfl (Or.inl ⟨by
                unfold s_cdE
                first | ((repeat first | rw [if_pos (by omega)] | rw [if_neg (by omega)]) <;> first | rfl | omega) | ((repeat' split) <;> first | rfl | (exfalso; omega) | omega), rfl, rfl⟩)
      · have c_32 : ¬ ((nI (by4 f (p0 + 4))) ≤ (((nI e) - (nI p0)) - 8)) := of_decide_eq_false c_32
        have n_32 : ¬ ((by4 f (p0 + 4)) + (p0 + 8) ≤ e) := fun h8 => c_32 ((le_sub2 (e := e) (p := p0) (p2 := 8) (k := by4 f (p0 + 4)) (by omega) (by omega) (by omega)).mpr h8)
        refine ps_st (S' := (36, [], [.int (-1)], M)) rfl rfl rfl ?_
        exact ps_ret rfl rfl (Or.inl ⟨by
            unfold s_cdE
            first | ((repeat first | rw [if_pos (by omega)] | rw [if_neg (by omega)]) <;> first | rfl | omega) | ((repeat' split) <;> first | rfl | (exfalso; omega) | omega), rfl, rfl⟩)
  · have c_5 : ¬ (8 ≤ ((nI e) - (nI p0))) := of_decide_eq_false c_5
    have n_5 : ¬ (8 + p0 ≤ e) := fun h8 => c_5 ((le_sub1 (e := e) (p := p0) (k := 8) (by omega) (by omega) (by omega)).mpr h8)
    refine ps_st (S' := (9, [(0, .ref ac), (1, .int (nI p0)), (2, .int (nI e))], [.int (-1)], M)) rfl rfl rfl ?_
    exact ps_ret rfl rfl (Or.inl ⟨by
        unfold s_cdE
        first | ((repeat first | rw [if_pos (by omega)] | rw [if_neg (by omega)]) <;> first | rfl | omega) | ((repeat' split) <;> first | rfl | (exfalso; omega) | omega), rfl, rfl⟩)
set_option maxHeartbeats 1000000 in
theorem dk_formEnd {g : xe_G} {M : mi_H} {f : Nat → Int32} {n q ac c b da vd : Nat} {s1 : Int32} {k p0 e : Nat} (h_ac : M.1 ac = some (ob 0 [.ref c, .ref b, .ref q, .ref vd, .int s1])) (h_b : M.1 b = some (ob 1 [.ref da])) (h_da : M.1 da = some (ar .byte n f)) (hn : n ≤ 65540) (he : e ≤ n ∧ p0 ≤ e) (hk : k < 11) : pt (mT g) 32 [.ref ac, .int (nI k), .int (nI p0), .int (nI e)] M (fun v M' => ((s_fe f k p0 e = none) ∧ v = some (.int (-1)) ∧ M = M') ∨ (∃ (x : Nat), (s_fe f k p0 e = some x) ∧ (x < 1000000) ∧ v = some (.int (nI x)) ∧ M = M')) := by
  refine pt_in (b := mb_32 g) rfl (fun kf => ?_)
  show pl (mT g) kf (mb_32 g).2 (0, [(0, .ref ac), (1, .int (nI k)), (2, .int (nI p0)), (3, .int (nI e))], [], M) _
  refine ps_st (S' := (1, [(0, .ref ac), (1, .int (nI k)), (2, .int (nI p0)), (3, .int (nI e))], [.int (nI e)], M)) rfl rfl rfl ?_
  refine ps_st (S' := (2, [(0, .ref ac), (1, .int (nI k)), (2, .int (nI p0)), (3, .int (nI e))], [.int (nI p0), .int (nI e)], M)) rfl rfl rfl ?_
  refine ps_st (S' := (3, [(0, .ref ac), (1, .int (nI k)), (2, .int (nI p0)), (3, .int (nI e))], [.int ((nI e) - (nI p0))], M)) rfl rfl rfl ?_
  refine ps_st (S' := (4, [(0, .ref ac), (1, .int (nI k)), (2, .int (nI p0)), (3, .int (nI e))], [.int 2, .int ((nI e) - (nI p0))], M)) rfl rfl rfl ?_
  refine ps_if2 (S1 := (9, [(0, .ref ac), (1, .int (nI k)), (2, .int (nI p0)), (3, .int (nI e))], [], M)) (S2 := (7, [(0, .ref ac), (1, .int (nI k)), (2, .int (nI p0)), (3, .int (nI e))], [], M)) rfl rfl rfl (fun c_4 => ?_) (fun c_4 => ?_)
  · have c_4 : 2 ≤ ((nI e) - (nI p0)) := of_decide_eq_true c_4
    have n_4 : 2 + p0 ≤ e := (le_sub1 (e := e) (p := p0) (k := 2) (by omega) (by omega) (by omega)).mp c_4
    refine ps_st (S' := (10, [(0, .ref ac), (1, .int (nI k)), (2, .int (nI p0)), (3, .int (nI e))], [.int (nI k)], M)) rfl rfl rfl ?_
    refine pl_sw rfl (fun t_10 et_10 => ?_)
    have ht_10 : t_10 ∈ [64, 68, 83, 99, 106, 113] := mi_sw_sub et_10 (by decide)
    simp only [List.mem_cons, List.not_mem_nil, or_false] at ht_10
    rcases ht_10 with rfl | rfl | rfl | rfl | rfl | rfl
    · show pl _ _ _ (64, [(0, .ref ac), (1, .int (nI k)), (2, .int (nI p0)), (3, .int (nI e))], [], M) _
      have m_10 := sw_nat (t := k) (by omega) et_10
      simp at m_10
      refine ps_st (S' := (65, [(0, .ref ac), (1, .int (nI k)), (2, .int (nI p0)), (3, .int (nI e))], [.int (nI p0)], M)) rfl rfl rfl ?_
      refine ps_st (S' := (66, [(0, .ref ac), (1, .int (nI k)), (2, .int (nI p0)), (3, .int (nI e))], [.int 2, .int (nI p0)], M)) rfl rfl rfl ?_
      refine ps_st (S' := (67, [(0, .ref ac), (1, .int (nI k)), (2, .int (nI p0)), (3, .int (nI e))], [.int ((nI p0) + 2)], M)) rfl rfl rfl ?_
      rw [nI_add1 (p := p0) (k := 2) (x := 2) rfl (by omega)]
      show pl _ _ _ (_, [(0, .ref ac), (1, .int (nI k)), (2, .int (nI p0)), (3, .int (nI e))], [.int (nI (p0 + 2))], M) _
      exact ps_reti rfl (Or.inr ⟨p0 + 2, by
          unfold s_fe
          first | ((repeat first | rw [if_pos (by omega)] | rw [if_neg (by omega)]) <;> first | rfl | omega) | ((repeat' split) <;> first | rfl | (exfalso; omega) | omega), by omega, rfl, rfl⟩)
    · show pl _ _ _ (68, [(0, .ref ac), (1, .int (nI k)), (2, .int (nI p0)), (3, .int (nI e))], [], M) _
      have m_10 := sw_nat (t := k) (by omega) et_10
      simp at m_10
      refine ps_st (S' := (69, [(0, .ref ac), (1, .int (nI k)), (2, .int (nI p0)), (3, .int (nI e))], [.int (nI p0)], M)) rfl rfl rfl ?_
      refine ps_st (S' := (70, [(0, .ref ac), (1, .int (nI k)), (2, .int (nI p0)), (3, .int (nI e))], [.int 2, .int (nI p0)], M)) rfl rfl rfl ?_
      refine ps_st (S' := (71, [(0, .ref ac), (1, .int (nI k)), (2, .int (nI p0)), (3, .int (nI e))], [.int ((nI p0) + 2)], M)) rfl rfl rfl ?_
      rw [nI_add1 (p := p0) (k := 2) (x := 2) rfl (by omega)]
      show pl _ _ _ (_, [(0, .ref ac), (1, .int (nI k)), (2, .int (nI p0)), (3, .int (nI e))], [.int (nI (p0 + 2))], M) _
      refine ps_st (S' := (72, [(0, .ref ac), (1, .int (nI k)), (2, .int (nI p0)), (3, .int (nI e))], [.int 2, .int (nI (p0 + 2))], M)) rfl rfl rfl ?_
      refine ps_st (S' := (73, [(0, .ref ac), (1, .int (nI k)), (2, .int (nI p0)), (3, .int (nI e))], [.ref ac, .int 2, .int (nI (p0 + 2))], M)) rfl rfl rfl ?_
      refine ps_get (S' := (76, [(0, .ref ac), (1, .int (nI k)), (2, .int (nI p0)), (3, .int (nI e))], [.ref b, .int 2, .int (nI (p0 + 2))], M)) rfl h_ac rfl rfl ?_
      refine ps_st (S' := (77, [(0, .ref ac), (1, .int (nI k)), (2, .int (nI p0)), (3, .int (nI e))], [.int (nI p0), .ref b, .int 2, .int (nI (p0 + 2))], M)) rfl rfl rfl ?_
      refine pl_call (a := [.ref b, .int (nI p0)]) (rest := [.int 2, .int (nI (p0 + 2))]) rfl rfl rfl (dk_u2 (f := f) (n := n) (b := b) (da := da) (p := p0) h_b h_da (hn) (by omega)) (fun v1 M2 q3 => ?_)
      obtain ⟨rfl, rfl⟩ := q3
      show pl _ _ _ (80, [(0, .ref ac), (1, .int (nI k)), (2, .int (nI p0)), (3, .int (nI e))], [.int (nI (by2 f p0)), .int 2, .int (nI (p0 + 2))], M) _
      have hu_77 := by2_lt f p0
      refine ps_st (S' := (81, [(0, .ref ac), (1, .int (nI k)), (2, .int (nI p0)), (3, .int (nI e))], [.int (2 * (nI (by2 f p0))), .int (nI (p0 + 2))], M)) rfl rfl rfl ?_
      rw [nI_mul1 (p := 2) (k := by2 f p0) (x := 2) (y := (nI (by2 f p0))) rfl rfl (by omega)]
      show pl _ _ _ (_, [(0, .ref ac), (1, .int (nI k)), (2, .int (nI p0)), (3, .int (nI e))], [.int (nI (2 * (by2 f p0))), .int (nI (p0 + 2))], M) _
      refine ps_st (S' := (82, [(0, .ref ac), (1, .int (nI k)), (2, .int (nI p0)), (3, .int (nI e))], [.int ((nI (p0 + 2)) + (nI (2 * (by2 f p0))))], M)) rfl rfl rfl ?_
      rw [nI_add1 (p := p0 + 2) (k := 2 * (by2 f p0)) (x := (nI (2 * (by2 f p0)))) rfl (by omega)]
      show pl _ _ _ (_, [(0, .ref ac), (1, .int (nI k)), (2, .int (nI p0)), (3, .int (nI e))], [.int (nI (p0 + 2 + 2 * (by2 f p0)))], M) _
      exact ps_reti rfl (Or.inr ⟨p0 + 2 + 2 * (by2 f p0), by
          unfold s_fe
          first | ((repeat first | rw [if_pos (by omega)] | rw [if_neg (by omega)]) <;> first | rfl | omega) | ((repeat' split) <;> first | rfl | (exfalso; omega) | omega), by omega, rfl, rfl⟩)
    · show pl _ _ _ (83, [(0, .ref ac), (1, .int (nI k)), (2, .int (nI p0)), (3, .int (nI e))], [], M) _
      have m_10 := sw_nat (t := k) (by omega) et_10
      simp at m_10
      refine ps_st (S' := (84, [(0, .ref ac), (1, .int (nI k)), (2, .int (nI p0)), (3, .int (nI e))], [.int (nI p0)], M)) rfl rfl rfl ?_
      refine ps_st (S' := (85, [(0, .ref ac), (1, .int (nI k)), (2, .int (nI p0)), (3, .int (nI e))], [.int 2, .int (nI p0)], M)) rfl rfl rfl ?_
      refine ps_st (S' := (86, [(0, .ref ac), (1, .int (nI k)), (2, .int (nI p0)), (3, .int (nI e))], [.int ((nI p0) + 2)], M)) rfl rfl rfl ?_
      rw [nI_add1 (p := p0) (k := 2) (x := 2) rfl (by omega)]
      show pl _ _ _ (_, [(0, .ref ac), (1, .int (nI k)), (2, .int (nI p0)), (3, .int (nI e))], [.int (nI (p0 + 2))], M) _
      refine ps_st (S' := (88, [(0, .ref ac), (1, .int (nI k)), (2, .int (nI p0)), (3, .int (nI e))], [.int 8, .int (nI (p0 + 2))], M)) rfl rfl rfl ?_
      refine ps_st (S' := (89, [(0, .ref ac), (1, .int (nI k)), (2, .int (nI p0)), (3, .int (nI e))], [.ref ac, .int 8, .int (nI (p0 + 2))], M)) rfl rfl rfl ?_
      refine ps_get (S' := (92, [(0, .ref ac), (1, .int (nI k)), (2, .int (nI p0)), (3, .int (nI e))], [.ref b, .int 8, .int (nI (p0 + 2))], M)) rfl h_ac rfl rfl ?_
      refine ps_st (S' := (93, [(0, .ref ac), (1, .int (nI k)), (2, .int (nI p0)), (3, .int (nI e))], [.int (nI p0), .ref b, .int 8, .int (nI (p0 + 2))], M)) rfl rfl rfl ?_
      refine pl_call (a := [.ref b, .int (nI p0)]) (rest := [.int 8, .int (nI (p0 + 2))]) rfl rfl rfl (dk_u2 (f := f) (n := n) (b := b) (da := da) (p := p0) h_b h_da (hn) (by omega)) (fun v4 M5 q6 => ?_)
      obtain ⟨rfl, rfl⟩ := q6
      show pl _ _ _ (96, [(0, .ref ac), (1, .int (nI k)), (2, .int (nI p0)), (3, .int (nI e))], [.int (nI (by2 f p0)), .int 8, .int (nI (p0 + 2))], M) _
      have hu_93 := by2_lt f p0
      refine ps_st (S' := (97, [(0, .ref ac), (1, .int (nI k)), (2, .int (nI p0)), (3, .int (nI e))], [.int (8 * (nI (by2 f p0))), .int (nI (p0 + 2))], M)) rfl rfl rfl ?_
      rw [nI_mul1 (p := 8) (k := by2 f p0) (x := 8) (y := (nI (by2 f p0))) rfl rfl (by omega)]
      show pl _ _ _ (_, [(0, .ref ac), (1, .int (nI k)), (2, .int (nI p0)), (3, .int (nI e))], [.int (nI (8 * (by2 f p0))), .int (nI (p0 + 2))], M) _
      refine ps_st (S' := (98, [(0, .ref ac), (1, .int (nI k)), (2, .int (nI p0)), (3, .int (nI e))], [.int ((nI (p0 + 2)) + (nI (8 * (by2 f p0))))], M)) rfl rfl rfl ?_
      rw [nI_add1 (p := p0 + 2) (k := 8 * (by2 f p0)) (x := (nI (8 * (by2 f p0)))) rfl (by omega)]
      show pl _ _ _ (_, [(0, .ref ac), (1, .int (nI k)), (2, .int (nI p0)), (3, .int (nI e))], [.int (nI (p0 + 2 + 8 * (by2 f p0)))], M) _
      exact ps_reti rfl (Or.inr ⟨p0 + 2 + 8 * (by2 f p0), by
          unfold s_fe
          first | ((repeat first | rw [if_pos (by omega)] | rw [if_neg (by omega)]) <;> first | rfl | omega) | ((repeat' split) <;> first | rfl | (exfalso; omega) | omega), by omega, rfl, rfl⟩)
    · show pl _ _ _ (99, [(0, .ref ac), (1, .int (nI k)), (2, .int (nI p0)), (3, .int (nI e))], [], M) _
      have m_10 := sw_nat (t := k) (by omega) et_10
      simp at m_10
      refine ps_st (S' := (100, [(0, .ref ac), (1, .int (nI k)), (2, .int (nI p0)), (3, .int (nI e))], [.ref ac], M)) rfl rfl rfl ?_
      refine ps_st (S' := (101, [(0, .ref ac), (1, .int (nI k)), (2, .int (nI p0)), (3, .int (nI e))], [.int (nI p0), .ref ac], M)) rfl rfl rfl ?_
      refine ps_st (S' := (102, [(0, .ref ac), (1, .int (nI k)), (2, .int (nI p0)), (3, .int (nI e))], [.int (nI e), .int (nI p0), .ref ac], M)) rfl rfl rfl ?_
      refine pl_call (a := [.ref ac, .int (nI p0), .int (nI e)]) (rest := []) rfl rfl rfl (dk_bootstrapsEnd (f := f) (n := n) (q := q) (ac := ac) (c := c) (b := b) (da := da) (vd := vd) (s1 := s1) (p0 := p0) (e := e) h_ac h_b h_da (hn) (by omega)) (fun v7 M8 q9 => ?_)
      rcases q9 with q9 | q9
      · skip
        obtain ⟨q102_s, rfl, rfl⟩ := q9
        show pl _ _ _ (105, [(0, .ref ac), (1, .int (nI k)), (2, .int (nI p0)), (3, .int (nI e))], [.int (-1)], M) _
        exact ps_ret rfl rfl (Or.inl ⟨by
            unfold s_fe
            rw [if_neg (by omega), if_neg (by omega), if_neg (by omega), if_neg (by omega), if_pos (by omega)]
            exact q102_s, rfl, rfl⟩)
      · skip
        obtain ⟨x10, q102_s, q102_l, rfl, rfl⟩ := q9
        show pl _ _ _ (105, [(0, .ref ac), (1, .int (nI k)), (2, .int (nI p0)), (3, .int (nI e))], [.int (nI x10)], M) _
        exact ps_reti rfl (Or.inr ⟨x10, by
            unfold s_fe
            rw [if_neg (by omega), if_neg (by omega), if_neg (by omega), if_neg (by omega), if_pos (by omega)]
            exact q102_s, by omega, rfl, rfl⟩)
    · show pl _ _ _ (106, [(0, .ref ac), (1, .int (nI k)), (2, .int (nI p0)), (3, .int (nI e))], [], M) _
      have m_10 := sw_nat (t := k) (by omega) et_10
      simp at m_10
      refine ps_st (S' := (107, [(0, .ref ac), (1, .int (nI k)), (2, .int (nI p0)), (3, .int (nI e))], [.ref ac], M)) rfl rfl rfl ?_
      refine ps_st (S' := (108, [(0, .ref ac), (1, .int (nI k)), (2, .int (nI p0)), (3, .int (nI e))], [.int (nI p0), .ref ac], M)) rfl rfl rfl ?_
      refine ps_st (S' := (109, [(0, .ref ac), (1, .int (nI k)), (2, .int (nI p0)), (3, .int (nI e))], [.int (nI e), .int (nI p0), .ref ac], M)) rfl rfl rfl ?_
      refine pl_call (a := [.ref ac, .int (nI p0), .int (nI e)]) (rest := []) rfl rfl rfl (dk_recordEnd (f := f) (n := n) (q := q) (ac := ac) (c := c) (b := b) (da := da) (vd := vd) (s1 := s1) (p0 := p0) (e := e) h_ac h_b h_da (hn) (by omega)) (fun v11 M12 q13 => ?_)
      rcases q13 with q13 | q13
      · skip
        obtain ⟨q109_s, rfl, rfl⟩ := q13
        show pl _ _ _ (112, [(0, .ref ac), (1, .int (nI k)), (2, .int (nI p0)), (3, .int (nI e))], [.int (-1)], M) _
        exact ps_ret rfl rfl (Or.inl ⟨by
            unfold s_fe
            rw [if_neg (by omega), if_neg (by omega), if_neg (by omega), if_neg (by omega), if_neg (by omega), if_pos (by omega)]
            exact q109_s, rfl, rfl⟩)
      · skip
        obtain ⟨x14, q109_s, q109_l, rfl, rfl⟩ := q13
        show pl _ _ _ (112, [(0, .ref ac), (1, .int (nI k)), (2, .int (nI p0)), (3, .int (nI e))], [.int (nI x14)], M) _
        exact ps_reti rfl (Or.inr ⟨x14, by
            unfold s_fe
            rw [if_neg (by omega), if_neg (by omega), if_neg (by omega), if_neg (by omega), if_neg (by omega), if_pos (by omega)]
            exact q109_s, by omega, rfl, rfl⟩)
    · show pl _ _ _ (113, [(0, .ref ac), (1, .int (nI k)), (2, .int (nI p0)), (3, .int (nI e))], [], M) _
      have m_10 := sw_nat (t := k) (by omega) et_10
      simp at m_10
      refine ps_st (S' := (114, [(0, .ref ac), (1, .int (nI k)), (2, .int (nI p0)), (3, .int (nI e))], [.ref ac], M)) rfl rfl rfl ?_
      refine ps_st (S' := (115, [(0, .ref ac), (1, .int (nI k)), (2, .int (nI p0)), (3, .int (nI e))], [.int (nI p0), .ref ac], M)) rfl rfl rfl ?_
      refine ps_st (S' := (116, [(0, .ref ac), (1, .int (nI k)), (2, .int (nI p0)), (3, .int (nI e))], [.int (nI e), .int (nI p0), .ref ac], M)) rfl rfl rfl ?_
      refine pl_call (a := [.ref ac, .int (nI p0), .int (nI e)]) (rest := []) rfl rfl rfl (dk_codeEnd (f := f) (n := n) (q := q) (ac := ac) (c := c) (b := b) (da := da) (vd := vd) (s1 := s1) (p0 := p0) (e := e) h_ac h_b h_da (hn) (by omega)) (fun v15 M16 q17 => ?_)
      rcases q17 with q17 | q17
      · skip
        obtain ⟨q116_s, rfl, rfl⟩ := q17
        show pl _ _ _ (119, [(0, .ref ac), (1, .int (nI k)), (2, .int (nI p0)), (3, .int (nI e))], [.int (-1)], M) _
        exact ps_ret rfl rfl (Or.inl ⟨by
            unfold s_fe
            rw [if_neg (by omega), if_neg (by omega), if_neg (by omega), if_neg (by omega), if_neg (by omega), if_neg (by omega)]
            exact q116_s, rfl, rfl⟩)
      · skip
        obtain ⟨x18, q116_s, q116_l, rfl, rfl⟩ := q17
        show pl _ _ _ (119, [(0, .ref ac), (1, .int (nI k)), (2, .int (nI p0)), (3, .int (nI e))], [.int (nI x18)], M) _
        exact ps_reti rfl (Or.inr ⟨x18, by
            unfold s_fe
            rw [if_neg (by omega), if_neg (by omega), if_neg (by omega), if_neg (by omega), if_neg (by omega), if_neg (by omega)]
            exact q116_s, by omega, rfl, rfl⟩)
  · have c_4 : ¬ (2 ≤ ((nI e) - (nI p0))) := of_decide_eq_false c_4
    have n_4 : ¬ (2 + p0 ≤ e) := fun h8 => c_4 ((le_sub1 (e := e) (p := p0) (k := 2) (by omega) (by omega) (by omega)).mpr h8)
    refine ps_st (S' := (8, [(0, .ref ac), (1, .int (nI k)), (2, .int (nI p0)), (3, .int (nI e))], [.int (-1)], M)) rfl rfl rfl ?_
    exact ps_ret rfl rfl (Or.inl ⟨by
        unfold s_fe
        first | ((repeat first | rw [if_pos (by omega)] | rw [if_neg (by omega)]) <;> first | rfl | omega) | ((repeat' split) <;> first | rfl | (exfalso; omega) | omega), rfl, rfl⟩)
set_option maxHeartbeats 1000000 in
theorem dk_behind {g : xe_G} {M : mi_H} {f : Nat → Int32} {n q ac c b da vd : Nat} {s1 : Int32} {p : Nat} (h_ac : M.1 ac = some (ob 0 [.ref c, .ref b, .ref q, .ref vd, .int s1])) (h_b : M.1 b = some (ob 1 [.ref da])) (h_da : M.1 da = some (ar .byte n f)) (hn : n ≤ 65540) (hin : p + 6 + by4 f (p + 2) ≤ n) : pt (mT g) 23 [.ref ac, .int (nI p)] M (fun v M' => (v = some (.int (nI (p + 6 + by4 f (p + 2)))) ∧ M = M')) := by
  refine pt_in (b := mb_23 g) rfl (fun kf => ?_)
  show pl (mT g) kf (mb_23 g).2 (0, [(0, .ref ac), (1, .int (nI p))], [], M) _
  refine ps_st (S' := (1, [(0, .ref ac), (1, .int (nI p))], [.int (nI p)], M)) rfl rfl rfl ?_
  refine ps_st (S' := (3, [(0, .ref ac), (1, .int (nI p))], [.int 6, .int (nI p)], M)) rfl rfl rfl ?_
  refine ps_st (S' := (4, [(0, .ref ac), (1, .int (nI p))], [.int ((nI p) + 6)], M)) rfl rfl rfl ?_
  rw [nI_add1 (p := p) (k := 6) (x := 6) rfl (by omega)]
  show pl _ _ _ (_, [(0, .ref ac), (1, .int (nI p))], [.int (nI (p + 6))], M) _
  refine ps_st (S' := (5, [(0, .ref ac), (1, .int (nI p))], [.ref ac, .int (nI (p + 6))], M)) rfl rfl rfl ?_
  refine ps_get (S' := (8, [(0, .ref ac), (1, .int (nI p))], [.ref b, .int (nI (p + 6))], M)) rfl h_ac rfl rfl ?_
  refine ps_st (S' := (9, [(0, .ref ac), (1, .int (nI p))], [.int (nI p), .ref b, .int (nI (p + 6))], M)) rfl rfl rfl ?_
  refine ps_st (S' := (10, [(0, .ref ac), (1, .int (nI p))], [.int 2, .int (nI p), .ref b, .int (nI (p + 6))], M)) rfl rfl rfl ?_
  refine ps_st (S' := (11, [(0, .ref ac), (1, .int (nI p))], [.int ((nI p) + 2), .ref b, .int (nI (p + 6))], M)) rfl rfl rfl ?_
  rw [nI_add1 (p := p) (k := 2) (x := 2) rfl (by omega)]
  show pl _ _ _ (_, [(0, .ref ac), (1, .int (nI p))], [.int (nI (p + 2)), .ref b, .int (nI (p + 6))], M) _
  refine pl_call (a := [.ref b, .int (nI (p + 2))]) (rest := [.int (nI (p + 6))]) rfl rfl rfl (dk_u4 (f := f) (n := n) (b := b) (da := da) (p := (p + 2)) h_b h_da (hn) (by omega)) (fun v1 M2 q3 => ?_)
  obtain ⟨rfl, rfl⟩ := q3
  show pl _ _ _ (14, [(0, .ref ac), (1, .int (nI p))], [.int (nI (by4 f (p + 2))), .int (nI (p + 6))], M) _
  have hu_11 := by4_lt f (p + 2)
  refine ps_st (S' := (15, [(0, .ref ac), (1, .int (nI p))], [.int ((nI (p + 6)) + (nI (by4 f (p + 2))))], M)) rfl rfl rfl ?_
  rw [nI_add1 (p := p + 6) (k := by4 f (p + 2)) (x := (nI (by4 f (p + 2)))) rfl (by omega)]
  show pl _ _ _ (_, [(0, .ref ac), (1, .int (nI p))], [.int (nI (p + 6 + by4 f (p + 2)))], M) _
  exact ps_reti rfl (⟨rfl, rfl⟩)
set_option maxHeartbeats 1000000 in
theorem dk_hasSeen {g : xe_G} {M : mi_H} {q ac c b vd : Nat} {s k : Nat} (h_ac : M.1 ac = some (ob 0 [.ref c, .ref b, .ref q, .ref vd, .int (nI s)])) (hs : s < 2048) (hk : k < 11) : pt (mT g) 33 [.ref ac, .int (nI k)] M (fun v M' => (v = some (.int (nI (sb s k))) ∧ M = M')) := by
  refine pt_in (b := mb_33 g) rfl (fun kf => ?_)
  show pl (mT g) kf (mb_33 g).2 (0, [(0, .ref ac), (1, .int (nI k))], [], M) _
  refine ps_st (S' := (1, [(0, .ref ac), (1, .int (nI k))], [.ref ac], M)) rfl rfl rfl ?_
  refine ps_get (S' := (4, [(0, .ref ac), (1, .int (nI k))], [.int (nI s)], M)) rfl h_ac rfl rfl ?_
  refine ps_st (S' := (5, [(0, .ref ac), (1, .int (nI k))], [.int (nI k), .int (nI s)], M)) rfl rfl rfl ?_
  refine ps_st (S' := (6, [(0, .ref ac), (1, .int (nI k))], [.int ((nI s) >>> ((nI k) &&& 31))], M)) rfl rfl rfl ?_
  refine ps_st (S' := (7, [(0, .ref ac), (1, .int (nI k))], [.int 1, .int ((nI s) >>> ((nI k) &&& 31))], M)) rfl rfl rfl ?_
  refine ps_st (S' := (8, [(0, .ref ac), (1, .int (nI k))], [.int (((nI s) >>> ((nI k) &&& 31)) &&& 1)], M)) rfl rfl rfl ?_
  rw [shr_k s (by omega) k (by omega)]
  show pl _ _ _ (_, [(0, .ref ac), (1, .int (nI k))], [.int (nI (sb s k))], M) _
  refine ps_if (S1 := (15, [(0, .ref ac), (1, .int (nI k))], [], M)) (S2 := (11, [(0, .ref ac), (1, .int (nI k))], [], M)) rfl rfl rfl (fun c_8 => ?_) (fun c_8 => ?_)
  · have c_8 : (nI (sb s k)) = 0 := of_decide_eq_true c_8
    have n_8 : sb s k = 0 := (eq_nI (p := sb s k) (n := 0) (Nat.lt_trans (sb_lt _ _) (by decide)) (by decide)).mp c_8
    refine ps_st (S' := (16, [], [.int 0], M)) rfl rfl rfl ?_
    exact ps_ret rfl rfl (⟨congrArg (fun x => some (Value.int (nI x))) (show 0 = sb s k from by have h9 := sb_lt s k; omega), rfl⟩)
  · have c_8 : ¬ ((nI (sb s k)) = 0) := of_decide_eq_false c_8
    have n_8 : ¬ (sb s k = 0) := fun h9 => c_8 ((eq_nI (p := sb s k) (n := 0) (Nat.lt_trans (sb_lt _ _) (by decide)) (by decide)).mpr h9)
    refine ps_st (S' := (12, [(0, .ref ac), (1, .int (nI k))], [.int 1], M)) rfl rfl rfl ?_
    refine ps_st (S' := (16, [], [.int 1], M)) rfl rfl rfl ?_
    exact ps_ret rfl rfl (⟨congrArg (fun x => some (Value.int (nI x))) (show 1 = sb s k from by have h9 := sb_lt s k; omega), rfl⟩)
end
section
/-! attributes (laid by wip/p4/d12.py) -/
/-! what attributes must hold (my own text) -/
section ATA
variable (f : Nat → Int32) (n : Nat) (E : List (Nat × Nat))
/-- aN attribute at p of kind k (0: not known): its name is a text; a known one is new (s: what was seen) -/
def nwS (s k p : Nat) : (Nat × Nat) ⊕ Nat := if ¬ tg f E (by2 f p) = 1 then .inl (28, p) else if k = 0 then .inr s else if ¬ sb s k = 0 then .inl (29, p) else .inr (so s k)
def ctS (l : List Nat) : Option Nat := if ¬ eqN l (ltx 9) = 0 then some 8 else if ¬ l.length = 1 then none else if l.getD 0 0 = 70 then some 4 else if l.getD 0 0 = 74 then some 5 else if l.getD 0 0 = 68 then some 6 else some 3
def fkN (x : Nat) : Nat := if eqN (tX f n E x) (ltx 0) = 0 then 0 else 1
def mkN (x : Nat) : Nat := if ¬ eqN (tX f n E x) (ltx 1) = 0 then 2 else if ¬ eqN (tX f n E x) (ltx 2) = 0 then 3 else 0
def ckN (mj x : Nat) : Nat := if ¬ eqN (tX f n E x) (ltx 3) = 0 then 5 else if 51 ≤ mj ∧ ¬ eqN (tX f n E x) (ltx 4) = 0 then 6 else if 55 ≤ mj ∧ ¬ eqN (tX f n E x) (ltx 5) = 0 then 7 else
  if 55 ≤ mj ∧ ¬ eqN (tX f n E x) (ltx 6) = 0 then 8 else if 60 ≤ mj ∧ ¬ eqN (tX f n E x) (ltx 7) = 0 then 9 else if 61 ≤ mj ∧ ¬ eqN (tX f n E x) (ltx 8) = 0 then 10 else 0
def smN4 (mj x : Nat) : Nat := if 50 ≤ mj ∧ ¬ eqN (tX f n E x) (ltx 10) = 0 then 4 else 0
/-- r indexes from number i on at s are those of Class entries -/
def clA (s : Nat) : Nat → Nat → Nat
  | 0, _ => 1
  | r + 1, i => if tg f E (by2 f (s + 2 * i)) = 7 then clA s r (i + 1) else 0
def inR (p : Nat) : Nat := if tg f E (by2 f p) = 7 ∧ (by2 f (p + 2) = 0 ∨ tg f E (by2 f (p + 2)) = 7) ∧ (by2 f (p + 4) = 0 ∨ tg f E (by2 f (p + 4)) = 1) then 1 else 0
def inA (s : Nat) : Nat → Nat → Nat
  | 0, _ => 1
  | r + 1, i => if inR f E (s + 8 * i) = 0 then 0 else inA s r (i + 1)
def ldN (t : Nat) : Nat := if (3 ≤ t ∧ t ≤ 8) ∨ (15 ≤ t ∧ t ≤ 17) then 1 else 0
def ldA : Nat → Nat → Nat
  | 0, _ => 1
  | r + 1, p => if ldN (tg f E (by2 f p)) = 0 then 0 else ldA r (p + 2)
def bsA : Nat → Nat → Nat
  | 0, _ => 1
  | r + 1, p => if ¬ tg f E (by2 f p) = 15 then 0 else if ldA f E (by2 f (p + 2)) (p + 4) = 0 then 0 else bsA r (p + 4 + 2 * by2 f (p + 2))
def rcA : Nat → Nat → (Nat × Nat) ⊕ Nat
  | 0, p => .inr p
  | r + 1, p => if ¬ tg f E (by2 f p) = 1 then .inl (28, p) else rcA r (p + 6 + by4 f (p + 2))
def rcS (t : Nat) : Nat → Nat → Option (Nat × Nat)
  | 0, _ => none
  | r + 1, p => if unqN (tX f n E (by2 f p)) = 0 ∨ fldN (tX f n E (by2 f (p + 2))) = 0 then some (37, t) else match rcA f E (by2 f (p + 4)) (p + 6) with
    | .inl e => some e
    | .inr p' => rcS t r p'
/-- a row of a code's table of handlers -/
def rwN (len p : Nat) : Nat := if by2 f p < by2 f (p + 2) ∧ by2 f (p + 2) ≤ len ∧ by2 f (p + 4) < len ∧ (by2 f (p + 6) = 0 ∨ tg f E (by2 f (p + 6)) = 7) then 1 else 0
def rwA (len s : Nat) : Nat → Nat → Nat
  | 0, _ => 1
  | r + 1, i => if rwN f E len (s + 8 * i) = 0 then 0 else rwA len s r (i + 1)
def caS (mj : Nat) : Nat → Nat → Nat → (Nat × Nat) ⊕ Nat
  | 0, _, s => .inr s
  | r + 1, p, s => match nwS f E s (smN4 f n E mj (by2 f p)) p with
    | .inl e => .inl e
    | .inr s' => caS mj r (p + 6 + by4 f (p + 2)) s'
/-- the Code attribute at p of a method with w places of arguments -/
def cdS (mj w p s : Nat) : (Nat × Nat) ⊕ Nat :=
  if by4 f (p + 10) < 1 ∨ 65535 < by4 f (p + 10) then .inl (41, p) else if by2 f (p + 8) < w then .inl (42, p) else
  if rwA f E (by4 f (p + 10)) (p + 14 + by4 f (p + 10) + 2) (by2 f (p + 14 + by4 f (p + 10))) 0 = 0 then .inl (43, p) else
  caS f n E mj (by2 f (p + 14 + by4 f (p + 10) + 2 + 8 * by2 f (p + 14 + by4 f (p + 10)))) (p + 14 + by4 f (p + 10) + 2 + 8 * by2 f (p + 14 + by4 f (p + 10)) + 2) s
/-- a field's attributes (x: its flags, d: its descriptor's text) -/
def faS (x : Nat) (d : List Nat) : Nat → Nat → Nat → Option (Nat × Nat)
  | 0, _, _ => none
  | r + 1, p, s => match nwS f E s (fkN f n E (by2 f p)) p with
    | .inl e => some e
    | .inr s' => if ¬ fkN f n E (by2 f p) = 0 ∧ ¬ s_fe f 1 (p + 6) (p + 6 + by4 f (p + 2)) = some (p + 6 + by4 f (p + 2)) then some (30, p) else
      if ¬ fkN f n E (by2 f p) = 0 ∧ ¬ hasN x 8 = 0 ∧ ¬ ctS d = some (tg f E (by2 f (p + 6))) then some (31, p) else faS x d r (p + 6 + by4 f (p + 2)) s'
/-- a method's attributes (h: whether its code was met) -/
def maS (mj w : Nat) : Nat → Nat → Nat → Nat → (Nat × Nat) ⊕ Nat
  | 0, _, _, h => .inr h
  | r + 1, p, s, h => match nwS f E s (mkN f n E (by2 f p)) p with
    | .inl e => .inl e
    | .inr s' => if ¬ mkN f n E (by2 f p) = 0 ∧ ¬ s_fe f (mkN f n E (by2 f p)) (p + 6) (p + 6 + by4 f (p + 2)) = some (p + 6 + by4 f (p + 2)) then .inl (30, p) else
      if mkN f n E (by2 f p) = 2 then (match cdS f n E mj w p s' with
        | .inl e => .inl e
        | .inr s2 => maS mj w r (p + 6 + by4 f (p + 2)) s2 1) else
      if mkN f n E (by2 f p) = 3 ∧ clA f E (p + 8) (by2 f (p + 6)) 0 = 0 then .inl (32, p) else maS mj w r (p + 6 + by4 f (p + 2)) s' h
/-- what a class's attribute of kind k at p breaks -/
def brS (x k p s : Nat) : Option (Nat ⊕ (Nat × Nat)) :=
  if k = 5 then (if inA f E (p + 8) (by2 f (p + 6)) 0 = 0 then some (.inl 33) else none) else
  if k = 7 then (if tg f E (by2 f (p + 6)) = 7 ∧ sb s 8 = 0 then none else some (.inl 34)) else
  if k = 8 then (if ¬ clA f E (p + 8) (by2 f (p + 6)) 0 = 0 ∧ sb s 7 = 0 then none else some (.inl 35)) else
  if k = 10 then (if ¬ clA f E (p + 8) (by2 f (p + 6)) 0 = 0 ∧ hasN x 16 = 0 then none else some (.inl 36)) else
  if k = 9 then (match rcS f n E p (by2 f (p + 6)) (p + 8) with
    | none => none
    | some e => some (.inr e)) else
  if k = 6 then (if bsA f E (by2 f (p + 6)) (p + 8) = 0 then some (.inl 38) else none) else none
/-- a class's attributes (bc: how many bootstraps there are so far) -/
def clS (x mj : Nat) : Nat → Nat → Nat → Nat → (Nat × Nat) ⊕ Nat
  | 0, _, _, bc => .inr bc
  | r + 1, p, s, bc => match nwS f E s (ckN f n E mj (by2 f p)) p with
    | .inl e => .inl e
    | .inr s' => if ¬ ckN f n E mj (by2 f p) = 0 ∧ ¬ s_fe f (ckN f n E mj (by2 f p)) (p + 6) (p + 6 + by4 f (p + 2)) = some (p + 6 + by4 f (p + 2)) then .inl (30, p) else
      match brS f n E x (ckN f n E mj (by2 f p)) p s' with
      | some (.inl r9) => .inl (r9, p)
      | some (.inr e) => .inl e
      | none => clS x mj r (p + 6 + by4 f (p + 2)) s' (if ckN f n E mj (by2 f p) = 6 then by2 f (p + 6) else bc)
end ATA

section ATB
variable {f : Nat → Int32} {n : Nat} {E : List (Nat × Nat)}
theorem le_fk (f : Nat → Int32) (n : Nat) (E : List (Nat × Nat)) (x : Nat) : fkN f n E x < 11 := by unfold fkN; split <;> decide
theorem le_mk (f : Nat → Int32) (n : Nat) (E : List (Nat × Nat)) (x : Nat) : mkN f n E x < 11 := by
  unfold mkN
  repeat' split
  all_goals decide
theorem le_ck (f : Nat → Int32) (n : Nat) (E : List (Nat × Nat)) (mj x : Nat) : ckN f n E mj x < 11 := by
  unfold ckN
  repeat' split
  all_goals decide
theorem le_sm4 (f : Nat → Int32) (n : Nat) (E : List (Nat × Nat)) (mj x : Nat) : smN4 f n E mj x < 11 := by unfold smN4; split <;> decide
theorem le1_ld (t : Nat) : ldN t < 2 := by unfold ldN; split <;> decide
theorem le1_inr (f : Nat → Int32) (E : List (Nat × Nat)) (p : Nat) : inR f E p < 2 := by unfold inR; split <;> decide
theorem le1_rw (f : Nat → Int32) (E : List (Nat × Nat)) (len p : Nat) : rwN f E len p < 2 := by unfold rwN; split <;> decide
theorem le1_cl (f : Nat → Int32) (E : List (Nat × Nat)) (s : Nat) : ∀ r i, clA f E s r i < 2 := by
  intro r
  induction r with
  | zero => intro i; exact Nat.lt_succ_self 1
  | succ r ih => intro i; unfold clA; split; exact ih _; decide
theorem le1_in (f : Nat → Int32) (E : List (Nat × Nat)) (s : Nat) : ∀ r i, inA f E s r i < 2 := by
  intro r
  induction r with
  | zero => intro i; exact Nat.lt_succ_self 1
  | succ r ih => intro i; unfold inA; split; decide; exact ih _
theorem le1_lda (f : Nat → Int32) (E : List (Nat × Nat)) : ∀ r p, ldA f E r p < 2 := by
  intro r
  induction r with
  | zero => intro i; exact Nat.lt_succ_self 1
  | succ r ih => intro i; unfold ldA; split; decide; exact ih _
theorem le1_bsa (f : Nat → Int32) (E : List (Nat × Nat)) : ∀ r p, bsA f E r p < 2 := by
  intro r
  induction r with
  | zero => intro i; exact Nat.lt_succ_self 1
  | succ r ih => intro i; unfold bsA; repeat' split
                 all_goals first | decide | exact ih _
theorem le1_rwa (f : Nat → Int32) (E : List (Nat × Nat)) (len s : Nat) : ∀ r i, rwA f E len s r i < 2 := by
  intro r
  induction r with
  | zero => intro i; exact Nat.lt_succ_self 1
  | succ r ih => intro i; unfold rwA; split; decide; exact ih _
theorem clA_st {s c i : Nat} (h : i < c) : clA f E s (c - i) i = if tg f E (by2 f (s + 2 * i)) = 7 then clA f E s (c - (i + 1)) (i + 1) else 0 := by
  rw [show c - i = (c - (i + 1)) + 1 by omega]
  rfl
theorem inA_st {s c i : Nat} (h : i < c) : inA f E s (c - i) i = if inR f E (s + 8 * i) = 0 then 0 else inA f E s (c - (i + 1)) (i + 1) := by
  rw [show c - i = (c - (i + 1)) + 1 by omega]
  rfl
theorem ldA_st {c i p : Nat} (h : i < c) : ldA f E (c - i) p = if ldN (tg f E (by2 f p)) = 0 then 0 else ldA f E (c - (i + 1)) (p + 2) := by
  rw [show c - i = (c - (i + 1)) + 1 by omega]
  rfl
theorem bsA_st {c i p : Nat} (h : i < c) : bsA f E (c - i) p = if ¬ tg f E (by2 f p) = 15 then 0 else if ldA f E (by2 f (p + 2)) (p + 4) = 0 then 0 else bsA f E (c - (i + 1)) (p + 4 + 2 * by2 f (p + 2)) := by
  rw [show c - i = (c - (i + 1)) + 1 by omega]
  rfl
theorem rwA_st {len s c i : Nat} (h : i < c) : rwA f E len s (c - i) i = if rwN f E len (s + 8 * i) = 0 then 0 else rwA f E len s (c - (i + 1)) (i + 1) := by
  rw [show c - i = (c - (i + 1)) + 1 by omega]
  rfl
theorem rcA_st {c i p : Nat} (h : i < c) : rcA f E (c - i) p = if ¬ tg f E (by2 f p) = 1 then .inl (28, p) else rcA f E (c - (i + 1)) (p + 6 + by4 f (p + 2)) := by
  rw [show c - i = (c - (i + 1)) + 1 by omega]
  rfl
theorem rcS_st {t c i p : Nat} (h : i < c) : rcS f n E t (c - i) p = if unqN (tX f n E (by2 f p)) = 0 ∨ fldN (tX f n E (by2 f (p + 2))) = 0 then some (37, t) else match rcA f E (by2 f (p + 4)) (p + 6) with
    | .inl e => some e
    | .inr p' => rcS f n E t (c - (i + 1)) p' := by
  rw [show c - i = (c - (i + 1)) + 1 by omega]
  rfl
theorem caS_st {mj c i p s : Nat} (h : i < c) : caS f n E mj (c - i) p s = match nwS f E s (smN4 f n E mj (by2 f p)) p with
    | .inl e => .inl e
    | .inr s' => caS f n E mj (c - (i + 1)) (p + 6 + by4 f (p + 2)) s' := by
  rw [show c - i = (c - (i + 1)) + 1 by omega]
  rfl
theorem s_bsE_le {e : Nat} : ∀ {c p x : Nat}, s_bsE f e c p = some x → p ≤ x := by
  intro c
  induction c with
  | zero => intro p x h; cases h; omega
  | succ c ih =>
    intro p x h
    unfold s_bsE at h
    split at h
    · cases h
    · have := ih h
      omega
theorem s_bsE_in {e c i p : Nat} (h : s_bsE f e (c - i) p = some e) : i < c → p + 4 ≤ e ∧ p + 4 + 2 * by2 f (p + 2) ≤ e ∧ s_bsE f e (c - (i + 1)) (p + 4 + 2 * by2 f (p + 2)) = some e := by
  intro hi
  rw [s_bsE_st hi] at h
  split at h
  · cases h
  · exact ⟨by omega, s_bsE_le h, h⟩
end ATB
theorem dy_char1 {g : xe_G} {M : mi_H} {f : Nat → Int32} {n N q : Nat} {E : List (Nat × Nat)} {j : Nat}  (hV : PV g f n N E q M) (hj : j < 65536) (hl : 0 < (tX f n E j).length) : pt (mT g) 113 [.ref q, .int (nI j), .int 0] M (fun v M' => (v = some (.int (nI ((tX f n E j).getD 0 0))) ∧ M = M')) := (dy_characterAt (i := 0) hV hj (by decide)).mono (fun v M' h => ⟨by rw [h.1, if_pos hl], h.2⟩)
set_option maxHeartbeats 1000000 in
theorem dk_constantTag {g : xe_G} {M : mi_H} {f : Nat → Int32} {n N q : Nat} {E : List (Nat × Nat)} {ac c b da vd fr mr fa ic mj na pa : Nat} {mi ru wa s1 k1 k2 k3 k4 k5 k6 k7 : Int32} {d : Nat} (h_ac : M.1 ac = some (ob 0 [.ref c, .ref b, .ref q, .ref vd, .int s1])) (h_b : M.1 b = some (ob 1 [.ref da])) (h_da : M.1 da = some (ar .byte n f)) (hn : n ≤ 65540) (hd : d < 65536) (hV : PV g f n N E q M) : pt (mT g) 31 [.ref ac, .int (nI d)] M (fun v M' => ((ctS (tX f n E d) = none) ∧ v = some (.int (-1)) ∧ M = M') ∨ (∃ (x : Nat), (ctS (tX f n E d) = some x) ∧ (x < 10) ∧ v = some (.int (nI x)) ∧ M = M')) := by
  refine pt_in (b := mb_31 g) rfl (fun kf => ?_)
  show pl (mT g) kf (mb_31 g).2 (0, [(0, .ref ac), (1, .int (nI d))], [], M) _
  have hl8 := tx_len f n E d
  refine ps_st (S' := (1, [(0, .ref ac), (1, .int (nI d))], [.ref ac], M)) rfl rfl rfl ?_
  refine ps_get (S' := (4, [(0, .ref ac), (1, .int (nI d))], [.ref q], M)) rfl h_ac rfl rfl ?_
  refine ps_st (S' := (5, [(0, .ref ac), (1, .int (nI d))], [.int (nI d), .ref q], M)) rfl rfl rfl ?_
  refine ps_st (S' := (7, [(0, .ref ac), (1, .int (nI d))], [.ref (g.2.1 9), .int (nI d), .ref q], M)) rfl rfl rfl ?_
  refine pl_call (a := [.ref q, .int (nI d), .ref (g.2.1 9)]) (rest := []) rfl rfl rfl (dy_textIs (f := f) (n := n) (N := N) (q := q) (E := E) (j := d) (k := 9) (hV) (by omega) (by decide)) (fun v1 M2 q3 => ?_)
  obtain ⟨rfl, rfl⟩ := q3
  show pl _ _ _ (10, [(0, .ref ac), (1, .int (nI d))], [.int (nI (eqN (tX f n E d) (ltx 9)))], M) _
  refine ps_if (S1 := (16, [(0, .ref ac), (1, .int (nI d))], [], M)) (S2 := (13, [(0, .ref ac), (1, .int (nI d))], [], M)) rfl rfl rfl (fun c_10 => ?_) (fun c_10 => ?_)
  · have c_10 : (nI (eqN (tX f n E d) (ltx 9))) = 0 := of_decide_eq_true c_10
    have n_10 : eqN (tX f n E d) (ltx 9) = 0 := (eq_nI (p := eqN (tX f n E d) (ltx 9)) (n := 0) (Nat.lt_trans (le1_eq _ _) (by decide)) (by decide)).mp c_10
    refine ps_st (S' := (17, [(0, .ref ac), (1, .int (nI d))], [.ref ac], M)) rfl rfl rfl ?_
    refine ps_get (S' := (20, [(0, .ref ac), (1, .int (nI d))], [.ref q], M)) rfl h_ac rfl rfl ?_
    refine ps_st (S' := (21, [(0, .ref ac), (1, .int (nI d))], [.int (nI d), .ref q], M)) rfl rfl rfl ?_
    refine pl_call (a := [.ref q, .int (nI d)]) (rest := []) rfl rfl rfl (dy_textLength (f := f) (n := n) (N := N) (q := q) (E := E) (j := d) (hV) (by omega)) (fun v4 M5 q6 => ?_)
    obtain ⟨rfl, rfl⟩ := q6
    show pl _ _ _ (24, [(0, .ref ac), (1, .int (nI d))], [.int (nI ((tX f n E d).length))], M) _
    refine ps_st (S' := (25, [(0, .ref ac), (1, .int (nI d))], [.int 1, .int (nI ((tX f n E d).length))], M)) rfl rfl rfl ?_
    refine ps_if2 (S1 := (30, [(0, .ref ac), (1, .int (nI d))], [], M)) (S2 := (28, [(0, .ref ac), (1, .int (nI d))], [], M)) rfl rfl rfl (fun c_25 => ?_) (fun c_25 => ?_)
    · have c_25 : (nI ((tX f n E d).length)) = 1 := of_decide_eq_true c_25
      have n_25 : (tX f n E d).length = 1 := (eq_nI (p := (tX f n E d).length) (n := 1) (Nat.lt_trans (tx_len _ _ _ _) (by decide)) (by decide)).mp c_25
      refine ps_st (S' := (31, [(0, .ref ac), (1, .int (nI d))], [.ref ac], M)) rfl rfl rfl ?_
      refine ps_get (S' := (34, [(0, .ref ac), (1, .int (nI d))], [.ref q], M)) rfl h_ac rfl rfl ?_
      refine ps_st (S' := (35, [(0, .ref ac), (1, .int (nI d))], [.int (nI d), .ref q], M)) rfl rfl rfl ?_
      refine ps_st (S' := (36, [(0, .ref ac), (1, .int (nI d))], [.int 0, .int (nI d), .ref q], M)) rfl rfl rfl ?_
      refine pl_call (a := [.ref q, .int (nI d), .int 0]) (rest := []) rfl rfl rfl (dy_char1 (f := f) (n := n) (N := N) (q := q) (E := E) (j := d) (hV) (by omega) (by omega)) (fun v7 M8 q9 => ?_)
      obtain ⟨rfl, rfl⟩ := q9
      show pl _ _ _ (39, [(0, .ref ac), (1, .int (nI d))], [.int (nI ((tX f n E d).getD 0 0))], M) _
      have hb_36 := tx_ch f n E d 0
      refine pl_sw rfl (fun t_39 et_39 => ?_)
      have ht_39 : t_39 ∈ [72, 74, 76, 79] := mi_sw_sub et_39 (by decide)
      simp only [List.mem_cons, List.not_mem_nil, or_false] at ht_39
      rcases ht_39 with rfl | rfl | rfl | rfl
      · show pl _ _ _ (72, [(0, .ref ac), (1, .int (nI d))], [], M) _
        obtain ⟨x9, hx9⟩ : ∃ x9, x9 = (tX f n E d).getD 0 0 := ⟨_, rfl⟩
        have et9 := et_39
        rw [← hx9] at et9
        have hb9 : x9 < 65536 := by rw [hx9]; exact (tx_ch _ _ _ _ _)
        have m_39 := sw_nat (t := x9) (by omega) et9
        simp at m_39
        refine ps_st (S' := (73, [(0, .ref ac), (1, .int (nI d))], [.int 4], M)) rfl rfl rfl ?_
        exact ps_ret rfl rfl (Or.inr ⟨4, by
            unfold ctS
            first | ((repeat first | rw [if_pos (by omega)] | rw [if_neg (by omega)]) <;> first | rfl | omega) | ((repeat' split) <;> first | rfl | (exfalso; omega) | omega), by decide, rfl, rfl⟩)
      · show pl _ _ _ (74, [(0, .ref ac), (1, .int (nI d))], [], M) _
        obtain ⟨x9, hx9⟩ : ∃ x9, x9 = (tX f n E d).getD 0 0 := ⟨_, rfl⟩
        have et9 := et_39
        rw [← hx9] at et9
        have hb9 : x9 < 65536 := by rw [hx9]; exact (tx_ch _ _ _ _ _)
        have m_39 := sw_nat (t := x9) (by omega) et9
        simp at m_39
        refine ps_st (S' := (75, [(0, .ref ac), (1, .int (nI d))], [.int 5], M)) rfl rfl rfl ?_
        exact ps_ret rfl rfl (Or.inr ⟨5, by
            unfold ctS
            first | ((repeat first | rw [if_pos (by omega)] | rw [if_neg (by omega)]) <;> first | rfl | omega) | ((repeat' split) <;> first | rfl | (exfalso; omega) | omega), by decide, rfl, rfl⟩)
      · show pl _ _ _ (76, [(0, .ref ac), (1, .int (nI d))], [], M) _
        obtain ⟨x9, hx9⟩ : ∃ x9, x9 = (tX f n E d).getD 0 0 := ⟨_, rfl⟩
        have et9 := et_39
        rw [← hx9] at et9
        have hb9 : x9 < 65536 := by rw [hx9]; exact (tx_ch _ _ _ _ _)
        have m_39 := sw_nat (t := x9) (by omega) et9
        simp at m_39
        refine ps_st (S' := (78, [(0, .ref ac), (1, .int (nI d))], [.int 6], M)) rfl rfl rfl ?_
        exact ps_ret rfl rfl (Or.inr ⟨6, by
            unfold ctS
            first | ((repeat first | rw [if_pos (by omega)] | rw [if_neg (by omega)]) <;> first | rfl | omega) | ((repeat' split) <;> first | rfl | (exfalso; omega) | omega), by decide, rfl, rfl⟩)
      · show pl _ _ _ (79, [(0, .ref ac), (1, .int (nI d))], [], M) _
        obtain ⟨x9, hx9⟩ : ∃ x9, x9 = (tX f n E d).getD 0 0 := ⟨_, rfl⟩
        have et9 := et_39
        rw [← hx9] at et9
        have hb9 : x9 < 65536 := by rw [hx9]; exact (tx_ch _ _ _ _ _)
        have m_39 := sw_nat (t := x9) (by omega) et9
        simp at m_39
        refine ps_st (S' := (80, [(0, .ref ac), (1, .int (nI d))], [.int 3], M)) rfl rfl rfl ?_
        exact ps_ret rfl rfl (Or.inr ⟨3, by
            unfold ctS
            first | ((repeat first | rw [if_pos (by omega)] | rw [if_neg (by omega)]) <;> first | rfl | omega) | ((repeat' split) <;> first | rfl | (exfalso; omega) | omega), by decide, rfl, rfl⟩)
    · have c_25 : ¬ ((nI ((tX f n E d).length)) = 1) := of_decide_eq_false c_25
      have n_25 : ¬ ((tX f n E d).length = 1) := fun h9 => c_25 ((eq_nI (p := (tX f n E d).length) (n := 1) (Nat.lt_trans (tx_len _ _ _ _) (by decide)) (by decide)).mpr h9)
      refine ps_st (S' := (29, [(0, .ref ac), (1, .int (nI d))], [.int (-1)], M)) rfl rfl rfl ?_
      exact ps_ret rfl rfl (Or.inl ⟨by
          unfold ctS
          first | ((repeat first | rw [if_pos (by omega)] | rw [if_neg (by omega)]) <;> first | rfl | omega) | ((repeat' split) <;> first | rfl | (exfalso; omega) | omega), rfl, rfl⟩)
  · have c_10 : ¬ ((nI (eqN (tX f n E d) (ltx 9))) = 0) := of_decide_eq_false c_10
    have n_10 : ¬ (eqN (tX f n E d) (ltx 9) = 0) := fun h9 => c_10 ((eq_nI (p := eqN (tX f n E d) (ltx 9)) (n := 0) (Nat.lt_trans (le1_eq _ _) (by decide)) (by decide)).mpr h9)
    refine ps_st (S' := (15, [(0, .ref ac), (1, .int (nI d))], [.int 8], M)) rfl rfl rfl ?_
    exact ps_ret rfl rfl (Or.inr ⟨8, by
        unfold ctS
        first | ((repeat first | rw [if_pos (by omega)] | rw [if_neg (by omega)]) <;> first | rfl | omega) | ((repeat' split) <;> first | rfl | (exfalso; omega) | omega), by decide, rfl, rfl⟩)
set_option maxHeartbeats 1000000 in
theorem dk_methodKind {g : xe_G} {M : mi_H} {f : Nat → Int32} {n N q : Nat} {E : List (Nat × Nat)} {ac c b da vd fr mr fa ic mj na pa : Nat} {mi ru wa s1 k1 k2 k3 k4 k5 k6 k7 : Int32} {x : Nat} (h_ac : M.1 ac = some (ob 0 [.ref c, .ref b, .ref q, .ref vd, .int s1])) (h_b : M.1 b = some (ob 1 [.ref da])) (h_da : M.1 da = some (ar .byte n f)) (hn : n ≤ 65540) (hx : x < 65536) (hV : PV g f n N E q M) : pt (mT g) 37 [.ref ac, .int (nI x)] M (fun v M' => (v = some (.int (nI (mkN f n E x))) ∧ M = M')) := by
  refine pt_in (b := mb_37 g) rfl (fun kf => ?_)
  show pl (mT g) kf (mb_37 g).2 (0, [(0, .ref ac), (1, .int (nI x))], [], M) _
  refine ps_st (S' := (1, [(0, .ref ac), (1, .int (nI x))], [.ref ac], M)) rfl rfl rfl ?_
  refine ps_get (S' := (4, [(0, .ref ac), (1, .int (nI x))], [.ref q], M)) rfl h_ac rfl rfl ?_
  refine ps_st (S' := (5, [(0, .ref ac), (1, .int (nI x))], [.int (nI x), .ref q], M)) rfl rfl rfl ?_
  refine ps_st (S' := (7, [(0, .ref ac), (1, .int (nI x))], [.ref (g.2.1 1), .int (nI x), .ref q], M)) rfl rfl rfl ?_
  refine pl_call (a := [.ref q, .int (nI x), .ref (g.2.1 1)]) (rest := []) rfl rfl rfl (dy_textIs (f := f) (n := n) (N := N) (q := q) (E := E) (j := x) (k := 1) (hV) (by omega) (by decide)) (fun v1 M2 q3 => ?_)
  obtain ⟨rfl, rfl⟩ := q3
  show pl _ _ _ (10, [(0, .ref ac), (1, .int (nI x))], [.int (nI (eqN (tX f n E x) (ltx 1)))], M) _
  refine ps_if (S1 := (15, [(0, .ref ac), (1, .int (nI x))], [], M)) (S2 := (13, [(0, .ref ac), (1, .int (nI x))], [], M)) rfl rfl rfl (fun c_10 => ?_) (fun c_10 => ?_)
  · have c_10 : (nI (eqN (tX f n E x) (ltx 1))) = 0 := of_decide_eq_true c_10
    have n_10 : eqN (tX f n E x) (ltx 1) = 0 := (eq_nI (p := eqN (tX f n E x) (ltx 1)) (n := 0) (Nat.lt_trans (le1_eq _ _) (by decide)) (by decide)).mp c_10
    refine ps_st (S' := (16, [(0, .ref ac), (1, .int (nI x))], [.ref ac], M)) rfl rfl rfl ?_
    refine ps_get (S' := (19, [(0, .ref ac), (1, .int (nI x))], [.ref q], M)) rfl h_ac rfl rfl ?_
    refine ps_st (S' := (20, [(0, .ref ac), (1, .int (nI x))], [.int (nI x), .ref q], M)) rfl rfl rfl ?_
    refine ps_st (S' := (22, [(0, .ref ac), (1, .int (nI x))], [.ref (g.2.1 2), .int (nI x), .ref q], M)) rfl rfl rfl ?_
    refine pl_call (a := [.ref q, .int (nI x), .ref (g.2.1 2)]) (rest := []) rfl rfl rfl (dy_textIs (f := f) (n := n) (N := N) (q := q) (E := E) (j := x) (k := 2) (hV) (by omega) (by decide)) (fun v4 M5 q6 => ?_)
    obtain ⟨rfl, rfl⟩ := q6
    show pl _ _ _ (25, [(0, .ref ac), (1, .int (nI x))], [.int (nI (eqN (tX f n E x) (ltx 2)))], M) _
    refine ps_if (S1 := (32, [(0, .ref ac), (1, .int (nI x))], [], M)) (S2 := (28, [(0, .ref ac), (1, .int (nI x))], [], M)) rfl rfl rfl (fun c_25 => ?_) (fun c_25 => ?_)
    · have c_25 : (nI (eqN (tX f n E x) (ltx 2))) = 0 := of_decide_eq_true c_25
      have n_25 : eqN (tX f n E x) (ltx 2) = 0 := (eq_nI (p := eqN (tX f n E x) (ltx 2)) (n := 0) (Nat.lt_trans (le1_eq _ _) (by decide)) (by decide)).mp c_25
      refine ps_st (S' := (33, [], [.int 0], M)) rfl rfl rfl ?_
      exact ps_ret rfl rfl (⟨congrArg (fun x => some (Value.int (nI x))) (show 0 = mkN f n E x from by
          unfold mkN
          first | ((repeat first | rw [if_pos (by omega)] | rw [if_neg (by omega)]) <;> first | rfl | omega) | ((repeat' split) <;> first | rfl | (exfalso; omega) | omega)), rfl⟩)
    · have c_25 : ¬ ((nI (eqN (tX f n E x) (ltx 2))) = 0) := of_decide_eq_false c_25
      have n_25 : ¬ (eqN (tX f n E x) (ltx 2) = 0) := fun h9 => c_25 ((eq_nI (p := eqN (tX f n E x) (ltx 2)) (n := 0) (Nat.lt_trans (le1_eq _ _) (by decide)) (by decide)).mpr h9)
      refine ps_st (S' := (29, [(0, .ref ac), (1, .int (nI x))], [.int 3], M)) rfl rfl rfl ?_
      refine ps_st (S' := (33, [], [.int 3], M)) rfl rfl rfl ?_
      exact ps_ret rfl rfl (⟨congrArg (fun x => some (Value.int (nI x))) (show 3 = mkN f n E x from by
          unfold mkN
          first | ((repeat first | rw [if_pos (by omega)] | rw [if_neg (by omega)]) <;> first | rfl | omega) | ((repeat' split) <;> first | rfl | (exfalso; omega) | omega)), rfl⟩)
  · have c_10 : ¬ ((nI (eqN (tX f n E x) (ltx 1))) = 0) := of_decide_eq_false c_10
    have n_10 : ¬ (eqN (tX f n E x) (ltx 1) = 0) := fun h9 => c_10 ((eq_nI (p := eqN (tX f n E x) (ltx 1)) (n := 0) (Nat.lt_trans (le1_eq _ _) (by decide)) (by decide)).mpr h9)
    refine ps_st (S' := (14, [(0, .ref ac), (1, .int (nI x))], [.int 2], M)) rfl rfl rfl ?_
    exact ps_ret rfl rfl (⟨congrArg (fun x => some (Value.int (nI x))) (show 2 = mkN f n E x from by
        unfold mkN
        first | ((repeat first | rw [if_pos (by omega)] | rw [if_neg (by omega)]) <;> first | rfl | omega) | ((repeat' split) <;> first | rfl | (exfalso; omega) | omega)), rfl⟩)
set_option maxHeartbeats 1000000 in
theorem dk_classKind {g : xe_G} {M : mi_H} {f : Nat → Int32} {n N q : Nat} {E : List (Nat × Nat)} {ac c b da vd fr mr fa ic mj na pa : Nat} {mi ru wa s1 k1 k2 k3 k4 k5 k6 k7 : Int32} {x : Nat} (h_ac : M.1 ac = some (ob 0 [.ref c, .ref b, .ref q, .ref vd, .int s1])) (h_b : M.1 b = some (ob 1 [.ref da])) (h_da : M.1 da = some (ar .byte n f)) (h_c : M.1 c = some (ob 3 [.ref b, .ref q, .int mi, .int (nI mj), .int (nI fa), .int (nI ic), .ref fr, .ref mr, .int (nI na), .int (nI pa), .int k1, .int k2, .int k3, .int k4, .int k5, .int k6, .int k7])) (hn : n ≤ 65540) (hmj : mj < 65536) (hx : x < 65536) (hV : PV g f n N E q M) : pt (mT g) 27 [.ref ac, .int (nI x)] M (fun v M' => (v = some (.int (nI (ckN f n E mj x))) ∧ M = M')) := by
  refine pt_in (b := mb_27 g) rfl (fun kf => ?_)
  show pl (mT g) kf (mb_27 g).2 (0, [(0, .ref ac), (1, .int (nI x))], [], M) _
  refine ps_st (S' := (1, [(0, .ref ac), (1, .int (nI x))], [.ref ac], M)) rfl rfl rfl ?_
  refine ps_get (S' := (4, [(0, .ref ac), (1, .int (nI x))], [.ref q], M)) rfl h_ac rfl rfl ?_
  refine ps_st (S' := (5, [(0, .ref ac), (1, .int (nI x))], [.int (nI x), .ref q], M)) rfl rfl rfl ?_
  refine ps_st (S' := (7, [(0, .ref ac), (1, .int (nI x))], [.ref (g.2.1 3), .int (nI x), .ref q], M)) rfl rfl rfl ?_
  refine pl_call (a := [.ref q, .int (nI x), .ref (g.2.1 3)]) (rest := []) rfl rfl rfl (dy_textIs (f := f) (n := n) (N := N) (q := q) (E := E) (j := x) (k := 3) (hV) (by omega) (by decide)) (fun v1 M2 q3 => ?_)
  obtain ⟨rfl, rfl⟩ := q3
  show pl _ _ _ (10, [(0, .ref ac), (1, .int (nI x))], [.int (nI (eqN (tX f n E x) (ltx 3)))], M) _
  refine ps_if (S1 := (15, [(0, .ref ac), (1, .int (nI x))], [], M)) (S2 := (13, [(0, .ref ac), (1, .int (nI x))], [], M)) rfl rfl rfl (fun c_10 => ?_) (fun c_10 => ?_)
  · have c_10 : (nI (eqN (tX f n E x) (ltx 3))) = 0 := of_decide_eq_true c_10
    have n_10 : eqN (tX f n E x) (ltx 3) = 0 := (eq_nI (p := eqN (tX f n E x) (ltx 3)) (n := 0) (Nat.lt_trans (le1_eq _ _) (by decide)) (by decide)).mp c_10
    refine ps_st (S' := (16, [(0, .ref ac), (1, .int (nI x))], [.ref ac], M)) rfl rfl rfl ?_
    refine ps_get (S' := (19, [(0, .ref ac), (1, .int (nI x))], [.ref c], M)) rfl h_ac rfl rfl ?_
    refine ps_get (S' := (22, [(0, .ref ac), (1, .int (nI x))], [.int (nI mj)], M)) rfl h_c rfl rfl ?_
    refine ps_st (S' := (24, [(0, .ref ac), (1, .int (nI x))], [.int 51, .int (nI mj)], M)) rfl rfl rfl ?_
    refine ps_if2 (S1 := (43, [(0, .ref ac), (1, .int (nI x))], [], M)) (S2 := (27, [(0, .ref ac), (1, .int (nI x))], [], M)) rfl rfl rfl (fun c_24 => ?_) (fun c_24 => ?_)
    · have c_24 : (nI mj) < 51 := of_decide_eq_true c_24
      have n_24 : mj < 51 := (lt_nI (p := mj) (n := 51) (by omega) (by decide)).mp c_24
      refine ps_st (S' := (44, [(0, .ref ac), (1, .int (nI x))], [.ref ac], M)) rfl rfl rfl ?_
      refine ps_get (S' := (47, [(0, .ref ac), (1, .int (nI x))], [.ref c], M)) rfl h_ac rfl rfl ?_
      refine ps_get (S' := (50, [(0, .ref ac), (1, .int (nI x))], [.int (nI mj)], M)) rfl h_c rfl rfl ?_
      refine ps_st (S' := (52, [(0, .ref ac), (1, .int (nI x))], [.int 55, .int (nI mj)], M)) rfl rfl rfl ?_
      refine ps_if2 (S1 := (71, [(0, .ref ac), (1, .int (nI x))], [], M)) (S2 := (55, [(0, .ref ac), (1, .int (nI x))], [], M)) rfl rfl rfl (fun c_52 => ?_) (fun c_52 => ?_)
      · have c_52 : (nI mj) < 55 := of_decide_eq_true c_52
        have n_52 : mj < 55 := (lt_nI (p := mj) (n := 55) (by omega) (by decide)).mp c_52
        refine ps_st (S' := (72, [(0, .ref ac), (1, .int (nI x))], [.ref ac], M)) rfl rfl rfl ?_
        refine ps_get (S' := (75, [(0, .ref ac), (1, .int (nI x))], [.ref c], M)) rfl h_ac rfl rfl ?_
        refine ps_get (S' := (78, [(0, .ref ac), (1, .int (nI x))], [.int (nI mj)], M)) rfl h_c rfl rfl ?_
        refine ps_st (S' := (80, [(0, .ref ac), (1, .int (nI x))], [.int 55, .int (nI mj)], M)) rfl rfl rfl ?_
        refine ps_if2 (S1 := (99, [(0, .ref ac), (1, .int (nI x))], [], M)) (S2 := (83, [(0, .ref ac), (1, .int (nI x))], [], M)) rfl rfl rfl (fun c_80 => ?_) (fun c_80 => ?_)
        · have c_80 : (nI mj) < 55 := of_decide_eq_true c_80
          have n_80 : mj < 55 := (lt_nI (p := mj) (n := 55) (by omega) (by decide)).mp c_80
          refine ps_st (S' := (100, [(0, .ref ac), (1, .int (nI x))], [.ref ac], M)) rfl rfl rfl ?_
          refine ps_get (S' := (103, [(0, .ref ac), (1, .int (nI x))], [.ref c], M)) rfl h_ac rfl rfl ?_
          refine ps_get (S' := (106, [(0, .ref ac), (1, .int (nI x))], [.int (nI mj)], M)) rfl h_c rfl rfl ?_
          refine ps_st (S' := (108, [(0, .ref ac), (1, .int (nI x))], [.int 60, .int (nI mj)], M)) rfl rfl rfl ?_
          refine ps_if2 (S1 := (127, [(0, .ref ac), (1, .int (nI x))], [], M)) (S2 := (111, [(0, .ref ac), (1, .int (nI x))], [], M)) rfl rfl rfl (fun c_108 => ?_) (fun c_108 => ?_)
          · have c_108 : (nI mj) < 60 := of_decide_eq_true c_108
            have n_108 : mj < 60 := (lt_nI (p := mj) (n := 60) (by omega) (by decide)).mp c_108
            refine ps_st (S' := (128, [(0, .ref ac), (1, .int (nI x))], [.ref ac], M)) rfl rfl rfl ?_
            refine ps_get (S' := (131, [(0, .ref ac), (1, .int (nI x))], [.ref c], M)) rfl h_ac rfl rfl ?_
            refine ps_get (S' := (134, [(0, .ref ac), (1, .int (nI x))], [.int (nI mj)], M)) rfl h_c rfl rfl ?_
            refine ps_st (S' := (136, [(0, .ref ac), (1, .int (nI x))], [.int 61, .int (nI mj)], M)) rfl rfl rfl ?_
            refine ps_if2 (S1 := (155, [], [], M)) (S2 := (139, [(0, .ref ac), (1, .int (nI x))], [], M)) rfl rfl rfl (fun c_136 => ?_) (fun c_136 => ?_)
            · have c_136 : (nI mj) < 61 := of_decide_eq_true c_136
              have n_136 : mj < 61 := (lt_nI (p := mj) (n := 61) (by omega) (by decide)).mp c_136
              refine ps_st (S' := (156, [], [.int 0], M)) rfl rfl rfl ?_
              exact ps_ret rfl rfl (⟨congrArg (fun x => some (Value.int (nI x))) (show 0 = ckN f n E mj x from by
                  unfold ckN
                  first | ((repeat first | rw [if_pos (by omega)] | rw [if_neg (by omega)]) <;> first | rfl | omega) | ((repeat' split) <;> first | rfl | (exfalso; omega) | omega)), rfl⟩)
            · have c_136 : ¬ ((nI mj) < 61) := of_decide_eq_false c_136
              have n_136 : ¬ (mj < 61) := fun h9 => c_136 ((lt_nI (p := mj) (n := 61) (by omega) (by decide)).mpr h9)
              refine ps_st (S' := (140, [(0, .ref ac), (1, .int (nI x))], [.ref ac], M)) rfl rfl rfl ?_
              refine ps_get (S' := (143, [(0, .ref ac), (1, .int (nI x))], [.ref q], M)) rfl h_ac rfl rfl ?_
              refine ps_st (S' := (144, [(0, .ref ac), (1, .int (nI x))], [.int (nI x), .ref q], M)) rfl rfl rfl ?_
              refine ps_st (S' := (146, [(0, .ref ac), (1, .int (nI x))], [.ref (g.2.1 8), .int (nI x), .ref q], M)) rfl rfl rfl ?_
              refine pl_call (a := [.ref q, .int (nI x), .ref (g.2.1 8)]) (rest := []) rfl rfl rfl (dy_textIs (f := f) (n := n) (N := N) (q := q) (E := E) (j := x) (k := 8) (hV) (by omega) (by decide)) (fun v4 M5 q6 => ?_)
              obtain ⟨rfl, rfl⟩ := q6
              show pl _ _ _ (149, [(0, .ref ac), (1, .int (nI x))], [.int (nI (eqN (tX f n E x) (ltx 8)))], M) _
              refine ps_if (S1 := (155, [], [], M)) (S2 := (152, [(0, .ref ac), (1, .int (nI x))], [], M)) rfl rfl rfl (fun c_149 => ?_) (fun c_149 => ?_)
              · have c_149 : (nI (eqN (tX f n E x) (ltx 8))) = 0 := of_decide_eq_true c_149
                have n_149 : eqN (tX f n E x) (ltx 8) = 0 := (eq_nI (p := eqN (tX f n E x) (ltx 8)) (n := 0) (Nat.lt_trans (le1_eq _ _) (by decide)) (by decide)).mp c_149
                refine ps_st (S' := (156, [], [.int 0], M)) rfl rfl rfl ?_
                exact ps_ret rfl rfl (⟨congrArg (fun x => some (Value.int (nI x))) (show 0 = ckN f n E mj x from by
                    unfold ckN
                    first | ((repeat first | rw [if_pos (by omega)] | rw [if_neg (by omega)]) <;> first | rfl | omega) | ((repeat' split) <;> first | rfl | (exfalso; omega) | omega)), rfl⟩)
              · have c_149 : ¬ ((nI (eqN (tX f n E x) (ltx 8))) = 0) := of_decide_eq_false c_149
                have n_149 : ¬ (eqN (tX f n E x) (ltx 8) = 0) := fun h9 => c_149 ((eq_nI (p := eqN (tX f n E x) (ltx 8)) (n := 0) (Nat.lt_trans (le1_eq _ _) (by decide)) (by decide)).mpr h9)
                refine ps_st (S' := (154, [(0, .ref ac), (1, .int (nI x))], [.int 10], M)) rfl rfl rfl ?_
                exact ps_ret rfl rfl (⟨congrArg (fun x => some (Value.int (nI x))) (show 10 = ckN f n E mj x from by
                    unfold ckN
                    first | ((repeat first | rw [if_pos (by omega)] | rw [if_neg (by omega)]) <;> first | rfl | omega) | ((repeat' split) <;> first | rfl | (exfalso; omega) | omega)), rfl⟩)
          · have c_108 : ¬ ((nI mj) < 60) := of_decide_eq_false c_108
            have n_108 : ¬ (mj < 60) := fun h9 => c_108 ((lt_nI (p := mj) (n := 60) (by omega) (by decide)).mpr h9)
            refine ps_st (S' := (112, [(0, .ref ac), (1, .int (nI x))], [.ref ac], M)) rfl rfl rfl ?_
            refine ps_get (S' := (115, [(0, .ref ac), (1, .int (nI x))], [.ref q], M)) rfl h_ac rfl rfl ?_
            refine ps_st (S' := (116, [(0, .ref ac), (1, .int (nI x))], [.int (nI x), .ref q], M)) rfl rfl rfl ?_
            refine ps_st (S' := (118, [(0, .ref ac), (1, .int (nI x))], [.ref (g.2.1 7), .int (nI x), .ref q], M)) rfl rfl rfl ?_
            refine pl_call (a := [.ref q, .int (nI x), .ref (g.2.1 7)]) (rest := []) rfl rfl rfl (dy_textIs (f := f) (n := n) (N := N) (q := q) (E := E) (j := x) (k := 7) (hV) (by omega) (by decide)) (fun v7 M8 q9 => ?_)
            obtain ⟨rfl, rfl⟩ := q9
            show pl _ _ _ (121, [(0, .ref ac), (1, .int (nI x))], [.int (nI (eqN (tX f n E x) (ltx 7)))], M) _
            refine ps_if (S1 := (127, [(0, .ref ac), (1, .int (nI x))], [], M)) (S2 := (124, [(0, .ref ac), (1, .int (nI x))], [], M)) rfl rfl rfl (fun c_121 => ?_) (fun c_121 => ?_)
            · have c_121 : (nI (eqN (tX f n E x) (ltx 7))) = 0 := of_decide_eq_true c_121
              have n_121 : eqN (tX f n E x) (ltx 7) = 0 := (eq_nI (p := eqN (tX f n E x) (ltx 7)) (n := 0) (Nat.lt_trans (le1_eq _ _) (by decide)) (by decide)).mp c_121
              refine ps_st (S' := (128, [(0, .ref ac), (1, .int (nI x))], [.ref ac], M)) rfl rfl rfl ?_
              refine ps_get (S' := (131, [(0, .ref ac), (1, .int (nI x))], [.ref c], M)) rfl h_ac rfl rfl ?_
              refine ps_get (S' := (134, [(0, .ref ac), (1, .int (nI x))], [.int (nI mj)], M)) rfl h_c rfl rfl ?_
              refine ps_st (S' := (136, [(0, .ref ac), (1, .int (nI x))], [.int 61, .int (nI mj)], M)) rfl rfl rfl ?_
              refine ps_if2 (S1 := (155, [], [], M)) (S2 := (139, [(0, .ref ac), (1, .int (nI x))], [], M)) rfl rfl rfl (fun c_136 => ?_) (fun c_136 => ?_)
              · have c_136 : (nI mj) < 61 := of_decide_eq_true c_136
                have n_136 : mj < 61 := (lt_nI (p := mj) (n := 61) (by omega) (by decide)).mp c_136
                refine ps_st (S' := (156, [], [.int 0], M)) rfl rfl rfl ?_
                exact ps_ret rfl rfl (⟨congrArg (fun x => some (Value.int (nI x))) (show 0 = ckN f n E mj x from by
                    unfold ckN
                    first | ((repeat first | rw [if_pos (by omega)] | rw [if_neg (by omega)]) <;> first | rfl | omega) | ((repeat' split) <;> first | rfl | (exfalso; omega) | omega)), rfl⟩)
              · have c_136 : ¬ ((nI mj) < 61) := of_decide_eq_false c_136
                have n_136 : ¬ (mj < 61) := fun h9 => c_136 ((lt_nI (p := mj) (n := 61) (by omega) (by decide)).mpr h9)
                refine ps_st (S' := (140, [(0, .ref ac), (1, .int (nI x))], [.ref ac], M)) rfl rfl rfl ?_
                refine ps_get (S' := (143, [(0, .ref ac), (1, .int (nI x))], [.ref q], M)) rfl h_ac rfl rfl ?_
                refine ps_st (S' := (144, [(0, .ref ac), (1, .int (nI x))], [.int (nI x), .ref q], M)) rfl rfl rfl ?_
                refine ps_st (S' := (146, [(0, .ref ac), (1, .int (nI x))], [.ref (g.2.1 8), .int (nI x), .ref q], M)) rfl rfl rfl ?_
                refine pl_call (a := [.ref q, .int (nI x), .ref (g.2.1 8)]) (rest := []) rfl rfl rfl (dy_textIs (f := f) (n := n) (N := N) (q := q) (E := E) (j := x) (k := 8) (hV) (by omega) (by decide)) (fun v10 M11 q12 => ?_)
                obtain ⟨rfl, rfl⟩ := q12
                show pl _ _ _ (149, [(0, .ref ac), (1, .int (nI x))], [.int (nI (eqN (tX f n E x) (ltx 8)))], M) _
                refine ps_if (S1 := (155, [], [], M)) (S2 := (152, [(0, .ref ac), (1, .int (nI x))], [], M)) rfl rfl rfl (fun c_149 => ?_) (fun c_149 => ?_)
                · have c_149 : (nI (eqN (tX f n E x) (ltx 8))) = 0 := of_decide_eq_true c_149
                  have n_149 : eqN (tX f n E x) (ltx 8) = 0 := (eq_nI (p := eqN (tX f n E x) (ltx 8)) (n := 0) (Nat.lt_trans (le1_eq _ _) (by decide)) (by decide)).mp c_149
                  refine ps_st (S' := (156, [], [.int 0], M)) rfl rfl rfl ?_
                  exact ps_ret rfl rfl (⟨congrArg (fun x => some (Value.int (nI x))) (show 0 = ckN f n E mj x from by
                      unfold ckN
                      first | ((repeat first | rw [if_pos (by omega)] | rw [if_neg (by omega)]) <;> first | rfl | omega) | ((repeat' split) <;> first | rfl | (exfalso; omega) | omega)), rfl⟩)
                · have c_149 : ¬ ((nI (eqN (tX f n E x) (ltx 8))) = 0) := of_decide_eq_false c_149
                  have n_149 : ¬ (eqN (tX f n E x) (ltx 8) = 0) := fun h9 => c_149 ((eq_nI (p := eqN (tX f n E x) (ltx 8)) (n := 0) (Nat.lt_trans (le1_eq _ _) (by decide)) (by decide)).mpr h9)
                  refine ps_st (S' := (154, [(0, .ref ac), (1, .int (nI x))], [.int 10], M)) rfl rfl rfl ?_
                  exact ps_ret rfl rfl (⟨congrArg (fun x => some (Value.int (nI x))) (show 10 = ckN f n E mj x from by
                      unfold ckN
                      first | ((repeat first | rw [if_pos (by omega)] | rw [if_neg (by omega)]) <;> first | rfl | omega) | ((repeat' split) <;> first | rfl | (exfalso; omega) | omega)), rfl⟩)
            · have c_121 : ¬ ((nI (eqN (tX f n E x) (ltx 7))) = 0) := of_decide_eq_false c_121
              have n_121 : ¬ (eqN (tX f n E x) (ltx 7) = 0) := fun h9 => c_121 ((eq_nI (p := eqN (tX f n E x) (ltx 7)) (n := 0) (Nat.lt_trans (le1_eq _ _) (by decide)) (by decide)).mpr h9)
              refine ps_st (S' := (126, [(0, .ref ac), (1, .int (nI x))], [.int 9], M)) rfl rfl rfl ?_
              exact ps_ret rfl rfl (⟨congrArg (fun x => some (Value.int (nI x))) (show 9 = ckN f n E mj x from by
                  unfold ckN
                  first | ((repeat first | rw [if_pos (by omega)] | rw [if_neg (by omega)]) <;> first | rfl | omega) | ((repeat' split) <;> first | rfl | (exfalso; omega) | omega)), rfl⟩)
        · have c_80 : ¬ ((nI mj) < 55) := of_decide_eq_false c_80
          have n_80 : ¬ (mj < 55) := fun h9 => c_80 ((lt_nI (p := mj) (n := 55) (by omega) (by decide)).mpr h9)
          refine ps_st (S' := (84, [(0, .ref ac), (1, .int (nI x))], [.ref ac], M)) rfl rfl rfl ?_
          refine ps_get (S' := (87, [(0, .ref ac), (1, .int (nI x))], [.ref q], M)) rfl h_ac rfl rfl ?_
          refine ps_st (S' := (88, [(0, .ref ac), (1, .int (nI x))], [.int (nI x), .ref q], M)) rfl rfl rfl ?_
          refine ps_st (S' := (90, [(0, .ref ac), (1, .int (nI x))], [.ref (g.2.1 6), .int (nI x), .ref q], M)) rfl rfl rfl ?_
          refine pl_call (a := [.ref q, .int (nI x), .ref (g.2.1 6)]) (rest := []) rfl rfl rfl (dy_textIs (f := f) (n := n) (N := N) (q := q) (E := E) (j := x) (k := 6) (hV) (by omega) (by decide)) (fun v13 M14 q15 => ?_)
          obtain ⟨rfl, rfl⟩ := q15
          show pl _ _ _ (93, [(0, .ref ac), (1, .int (nI x))], [.int (nI (eqN (tX f n E x) (ltx 6)))], M) _
          refine ps_if (S1 := (99, [(0, .ref ac), (1, .int (nI x))], [], M)) (S2 := (96, [(0, .ref ac), (1, .int (nI x))], [], M)) rfl rfl rfl (fun c_93 => ?_) (fun c_93 => ?_)
          · have c_93 : (nI (eqN (tX f n E x) (ltx 6))) = 0 := of_decide_eq_true c_93
            have n_93 : eqN (tX f n E x) (ltx 6) = 0 := (eq_nI (p := eqN (tX f n E x) (ltx 6)) (n := 0) (Nat.lt_trans (le1_eq _ _) (by decide)) (by decide)).mp c_93
            refine ps_st (S' := (100, [(0, .ref ac), (1, .int (nI x))], [.ref ac], M)) rfl rfl rfl ?_
            refine ps_get (S' := (103, [(0, .ref ac), (1, .int (nI x))], [.ref c], M)) rfl h_ac rfl rfl ?_
            refine ps_get (S' := (106, [(0, .ref ac), (1, .int (nI x))], [.int (nI mj)], M)) rfl h_c rfl rfl ?_
            refine ps_st (S' := (108, [(0, .ref ac), (1, .int (nI x))], [.int 60, .int (nI mj)], M)) rfl rfl rfl ?_
            refine ps_if2 (S1 := (127, [(0, .ref ac), (1, .int (nI x))], [], M)) (S2 := (111, [(0, .ref ac), (1, .int (nI x))], [], M)) rfl rfl rfl (fun c_108 => ?_) (fun c_108 => ?_)
            · have c_108 : (nI mj) < 60 := of_decide_eq_true c_108
              have n_108 : mj < 60 := (lt_nI (p := mj) (n := 60) (by omega) (by decide)).mp c_108
              refine ps_st (S' := (128, [(0, .ref ac), (1, .int (nI x))], [.ref ac], M)) rfl rfl rfl ?_
              refine ps_get (S' := (131, [(0, .ref ac), (1, .int (nI x))], [.ref c], M)) rfl h_ac rfl rfl ?_
              refine ps_get (S' := (134, [(0, .ref ac), (1, .int (nI x))], [.int (nI mj)], M)) rfl h_c rfl rfl ?_
              refine ps_st (S' := (136, [(0, .ref ac), (1, .int (nI x))], [.int 61, .int (nI mj)], M)) rfl rfl rfl ?_
              refine ps_if2 (S1 := (155, [], [], M)) (S2 := (139, [(0, .ref ac), (1, .int (nI x))], [], M)) rfl rfl rfl (fun c_136 => ?_) (fun c_136 => ?_)
              · have c_136 : (nI mj) < 61 := of_decide_eq_true c_136
                have n_136 : mj < 61 := (lt_nI (p := mj) (n := 61) (by omega) (by decide)).mp c_136
                refine ps_st (S' := (156, [], [.int 0], M)) rfl rfl rfl ?_
                exact ps_ret rfl rfl (⟨congrArg (fun x => some (Value.int (nI x))) (show 0 = ckN f n E mj x from by
                    unfold ckN
                    first | ((repeat first | rw [if_pos (by omega)] | rw [if_neg (by omega)]) <;> first | rfl | omega) | ((repeat' split) <;> first | rfl | (exfalso; omega) | omega)), rfl⟩)
              · have c_136 : ¬ ((nI mj) < 61) := of_decide_eq_false c_136
                have n_136 : ¬ (mj < 61) := fun h9 => c_136 ((lt_nI (p := mj) (n := 61) (by omega) (by decide)).mpr h9)
                refine ps_st (S' := (140, [(0, .ref ac), (1, .int (nI x))], [.ref ac], M)) rfl rfl rfl ?_
                refine ps_get (S' := (143, [(0, .ref ac), (1, .int (nI x))], [.ref q], M)) rfl h_ac rfl rfl ?_
                refine ps_st (S' := (144, [(0, .ref ac), (1, .int (nI x))], [.int (nI x), .ref q], M)) rfl rfl rfl ?_
                refine ps_st (S' := (146, [(0, .ref ac), (1, .int (nI x))], [.ref (g.2.1 8), .int (nI x), .ref q], M)) rfl rfl rfl ?_
                refine pl_call (a := [.ref q, .int (nI x), .ref (g.2.1 8)]) (rest := []) rfl rfl rfl (dy_textIs (f := f) (n := n) (N := N) (q := q) (E := E) (j := x) (k := 8) (hV) (by omega) (by decide)) (fun v16 M17 q18 => ?_)
                obtain ⟨rfl, rfl⟩ := q18
                show pl _ _ _ (149, [(0, .ref ac), (1, .int (nI x))], [.int (nI (eqN (tX f n E x) (ltx 8)))], M) _
                refine ps_if (S1 := (155, [], [], M)) (S2 := (152, [(0, .ref ac), (1, .int (nI x))], [], M)) rfl rfl rfl (fun c_149 => ?_) (fun c_149 => ?_)
                · have c_149 : (nI (eqN (tX f n E x) (ltx 8))) = 0 := of_decide_eq_true c_149
                  have n_149 : eqN (tX f n E x) (ltx 8) = 0 := (eq_nI (p := eqN (tX f n E x) (ltx 8)) (n := 0) (Nat.lt_trans (le1_eq _ _) (by decide)) (by decide)).mp c_149
                  refine ps_st (S' := (156, [], [.int 0], M)) rfl rfl rfl ?_
                  exact ps_ret rfl rfl (⟨congrArg (fun x => some (Value.int (nI x))) (show 0 = ckN f n E mj x from by
                      unfold ckN
                      first | ((repeat first | rw [if_pos (by omega)] | rw [if_neg (by omega)]) <;> first | rfl | omega) | ((repeat' split) <;> first | rfl | (exfalso; omega) | omega)), rfl⟩)
                · have c_149 : ¬ ((nI (eqN (tX f n E x) (ltx 8))) = 0) := of_decide_eq_false c_149
                  have n_149 : ¬ (eqN (tX f n E x) (ltx 8) = 0) := fun h9 => c_149 ((eq_nI (p := eqN (tX f n E x) (ltx 8)) (n := 0) (Nat.lt_trans (le1_eq _ _) (by decide)) (by decide)).mpr h9)
                  refine ps_st (S' := (154, [(0, .ref ac), (1, .int (nI x))], [.int 10], M)) rfl rfl rfl ?_
                  exact ps_ret rfl rfl (⟨congrArg (fun x => some (Value.int (nI x))) (show 10 = ckN f n E mj x from by
                      unfold ckN
                      first | ((repeat first | rw [if_pos (by omega)] | rw [if_neg (by omega)]) <;> first | rfl | omega) | ((repeat' split) <;> first | rfl | (exfalso; omega) | omega)), rfl⟩)
            · have c_108 : ¬ ((nI mj) < 60) := of_decide_eq_false c_108
              have n_108 : ¬ (mj < 60) := fun h9 => c_108 ((lt_nI (p := mj) (n := 60) (by omega) (by decide)).mpr h9)
              refine ps_st (S' := (112, [(0, .ref ac), (1, .int (nI x))], [.ref ac], M)) rfl rfl rfl ?_
              refine ps_get (S' := (115, [(0, .ref ac), (1, .int (nI x))], [.ref q], M)) rfl h_ac rfl rfl ?_
              refine ps_st (S' := (116, [(0, .ref ac), (1, .int (nI x))], [.int (nI x), .ref q], M)) rfl rfl rfl ?_
              refine ps_st (S' := (118, [(0, .ref ac), (1, .int (nI x))], [.ref (g.2.1 7), .int (nI x), .ref q], M)) rfl rfl rfl ?_
              refine pl_call (a := [.ref q, .int (nI x), .ref (g.2.1 7)]) (rest := []) rfl rfl rfl (dy_textIs (f := f) (n := n) (N := N) (q := q) (E := E) (j := x) (k := 7) (hV) (by omega) (by decide)) (fun v19 M20 q21 => ?_)
              obtain ⟨rfl, rfl⟩ := q21
              show pl _ _ _ (121, [(0, .ref ac), (1, .int (nI x))], [.int (nI (eqN (tX f n E x) (ltx 7)))], M) _
              refine ps_if (S1 := (127, [(0, .ref ac), (1, .int (nI x))], [], M)) (S2 := (124, [(0, .ref ac), (1, .int (nI x))], [], M)) rfl rfl rfl (fun c_121 => ?_) (fun c_121 => ?_)
              · have c_121 : (nI (eqN (tX f n E x) (ltx 7))) = 0 := of_decide_eq_true c_121
                have n_121 : eqN (tX f n E x) (ltx 7) = 0 := (eq_nI (p := eqN (tX f n E x) (ltx 7)) (n := 0) (Nat.lt_trans (le1_eq _ _) (by decide)) (by decide)).mp c_121
                refine ps_st (S' := (128, [(0, .ref ac), (1, .int (nI x))], [.ref ac], M)) rfl rfl rfl ?_
                refine ps_get (S' := (131, [(0, .ref ac), (1, .int (nI x))], [.ref c], M)) rfl h_ac rfl rfl ?_
                refine ps_get (S' := (134, [(0, .ref ac), (1, .int (nI x))], [.int (nI mj)], M)) rfl h_c rfl rfl ?_
                refine ps_st (S' := (136, [(0, .ref ac), (1, .int (nI x))], [.int 61, .int (nI mj)], M)) rfl rfl rfl ?_
                refine ps_if2 (S1 := (155, [], [], M)) (S2 := (139, [(0, .ref ac), (1, .int (nI x))], [], M)) rfl rfl rfl (fun c_136 => ?_) (fun c_136 => ?_)
                · have c_136 : (nI mj) < 61 := of_decide_eq_true c_136
                  have n_136 : mj < 61 := (lt_nI (p := mj) (n := 61) (by omega) (by decide)).mp c_136
                  refine ps_st (S' := (156, [], [.int 0], M)) rfl rfl rfl ?_
                  exact ps_ret rfl rfl (⟨congrArg (fun x => some (Value.int (nI x))) (show 0 = ckN f n E mj x from by
                      unfold ckN
                      first | ((repeat first | rw [if_pos (by omega)] | rw [if_neg (by omega)]) <;> first | rfl | omega) | ((repeat' split) <;> first | rfl | (exfalso; omega) | omega)), rfl⟩)
                · have c_136 : ¬ ((nI mj) < 61) := of_decide_eq_false c_136
                  have n_136 : ¬ (mj < 61) := fun h9 => c_136 ((lt_nI (p := mj) (n := 61) (by omega) (by decide)).mpr h9)
                  refine ps_st (S' := (140, [(0, .ref ac), (1, .int (nI x))], [.ref ac], M)) rfl rfl rfl ?_
                  refine ps_get (S' := (143, [(0, .ref ac), (1, .int (nI x))], [.ref q], M)) rfl h_ac rfl rfl ?_
                  refine ps_st (S' := (144, [(0, .ref ac), (1, .int (nI x))], [.int (nI x), .ref q], M)) rfl rfl rfl ?_
                  refine ps_st (S' := (146, [(0, .ref ac), (1, .int (nI x))], [.ref (g.2.1 8), .int (nI x), .ref q], M)) rfl rfl rfl ?_
                  refine pl_call (a := [.ref q, .int (nI x), .ref (g.2.1 8)]) (rest := []) rfl rfl rfl (dy_textIs (f := f) (n := n) (N := N) (q := q) (E := E) (j := x) (k := 8) (hV) (by omega) (by decide)) (fun v22 M23 q24 => ?_)
                  obtain ⟨rfl, rfl⟩ := q24
                  show pl _ _ _ (149, [(0, .ref ac), (1, .int (nI x))], [.int (nI (eqN (tX f n E x) (ltx 8)))], M) _
                  refine ps_if (S1 := (155, [], [], M)) (S2 := (152, [(0, .ref ac), (1, .int (nI x))], [], M)) rfl rfl rfl (fun c_149 => ?_) (fun c_149 => ?_)
                  · have c_149 : (nI (eqN (tX f n E x) (ltx 8))) = 0 := of_decide_eq_true c_149
                    have n_149 : eqN (tX f n E x) (ltx 8) = 0 := (eq_nI (p := eqN (tX f n E x) (ltx 8)) (n := 0) (Nat.lt_trans (le1_eq _ _) (by decide)) (by decide)).mp c_149
                    refine ps_st (S' := (156, [], [.int 0], M)) rfl rfl rfl ?_
                    exact ps_ret rfl rfl (⟨congrArg (fun x => some (Value.int (nI x))) (show 0 = ckN f n E mj x from by
                        unfold ckN
                        first | ((repeat first | rw [if_pos (by omega)] | rw [if_neg (by omega)]) <;> first | rfl | omega) | ((repeat' split) <;> first | rfl | (exfalso; omega) | omega)), rfl⟩)
                  · have c_149 : ¬ ((nI (eqN (tX f n E x) (ltx 8))) = 0) := of_decide_eq_false c_149
                    have n_149 : ¬ (eqN (tX f n E x) (ltx 8) = 0) := fun h9 => c_149 ((eq_nI (p := eqN (tX f n E x) (ltx 8)) (n := 0) (Nat.lt_trans (le1_eq _ _) (by decide)) (by decide)).mpr h9)
                    refine ps_st (S' := (154, [(0, .ref ac), (1, .int (nI x))], [.int 10], M)) rfl rfl rfl ?_
                    exact ps_ret rfl rfl (⟨congrArg (fun x => some (Value.int (nI x))) (show 10 = ckN f n E mj x from by
                        unfold ckN
                        first | ((repeat first | rw [if_pos (by omega)] | rw [if_neg (by omega)]) <;> first | rfl | omega) | ((repeat' split) <;> first | rfl | (exfalso; omega) | omega)), rfl⟩)
              · have c_121 : ¬ ((nI (eqN (tX f n E x) (ltx 7))) = 0) := of_decide_eq_false c_121
                have n_121 : ¬ (eqN (tX f n E x) (ltx 7) = 0) := fun h9 => c_121 ((eq_nI (p := eqN (tX f n E x) (ltx 7)) (n := 0) (Nat.lt_trans (le1_eq _ _) (by decide)) (by decide)).mpr h9)
                refine ps_st (S' := (126, [(0, .ref ac), (1, .int (nI x))], [.int 9], M)) rfl rfl rfl ?_
                exact ps_ret rfl rfl (⟨congrArg (fun x => some (Value.int (nI x))) (show 9 = ckN f n E mj x from by
                    unfold ckN
                    first | ((repeat first | rw [if_pos (by omega)] | rw [if_neg (by omega)]) <;> first | rfl | omega) | ((repeat' split) <;> first | rfl | (exfalso; omega) | omega)), rfl⟩)
          · have c_93 : ¬ ((nI (eqN (tX f n E x) (ltx 6))) = 0) := of_decide_eq_false c_93
            have n_93 : ¬ (eqN (tX f n E x) (ltx 6) = 0) := fun h9 => c_93 ((eq_nI (p := eqN (tX f n E x) (ltx 6)) (n := 0) (Nat.lt_trans (le1_eq _ _) (by decide)) (by decide)).mpr h9)
            refine ps_st (S' := (98, [(0, .ref ac), (1, .int (nI x))], [.int 8], M)) rfl rfl rfl ?_
            exact ps_ret rfl rfl (⟨congrArg (fun x => some (Value.int (nI x))) (show 8 = ckN f n E mj x from by
                unfold ckN
                first | ((repeat first | rw [if_pos (by omega)] | rw [if_neg (by omega)]) <;> first | rfl | omega) | ((repeat' split) <;> first | rfl | (exfalso; omega) | omega)), rfl⟩)
      · have c_52 : ¬ ((nI mj) < 55) := of_decide_eq_false c_52
        have n_52 : ¬ (mj < 55) := fun h9 => c_52 ((lt_nI (p := mj) (n := 55) (by omega) (by decide)).mpr h9)
        refine ps_st (S' := (56, [(0, .ref ac), (1, .int (nI x))], [.ref ac], M)) rfl rfl rfl ?_
        refine ps_get (S' := (59, [(0, .ref ac), (1, .int (nI x))], [.ref q], M)) rfl h_ac rfl rfl ?_
        refine ps_st (S' := (60, [(0, .ref ac), (1, .int (nI x))], [.int (nI x), .ref q], M)) rfl rfl rfl ?_
        refine ps_st (S' := (62, [(0, .ref ac), (1, .int (nI x))], [.ref (g.2.1 5), .int (nI x), .ref q], M)) rfl rfl rfl ?_
        refine pl_call (a := [.ref q, .int (nI x), .ref (g.2.1 5)]) (rest := []) rfl rfl rfl (dy_textIs (f := f) (n := n) (N := N) (q := q) (E := E) (j := x) (k := 5) (hV) (by omega) (by decide)) (fun v25 M26 q27 => ?_)
        obtain ⟨rfl, rfl⟩ := q27
        show pl _ _ _ (65, [(0, .ref ac), (1, .int (nI x))], [.int (nI (eqN (tX f n E x) (ltx 5)))], M) _
        refine ps_if (S1 := (71, [(0, .ref ac), (1, .int (nI x))], [], M)) (S2 := (68, [(0, .ref ac), (1, .int (nI x))], [], M)) rfl rfl rfl (fun c_65 => ?_) (fun c_65 => ?_)
        · have c_65 : (nI (eqN (tX f n E x) (ltx 5))) = 0 := of_decide_eq_true c_65
          have n_65 : eqN (tX f n E x) (ltx 5) = 0 := (eq_nI (p := eqN (tX f n E x) (ltx 5)) (n := 0) (Nat.lt_trans (le1_eq _ _) (by decide)) (by decide)).mp c_65
          refine ps_st (S' := (72, [(0, .ref ac), (1, .int (nI x))], [.ref ac], M)) rfl rfl rfl ?_
          refine ps_get (S' := (75, [(0, .ref ac), (1, .int (nI x))], [.ref c], M)) rfl h_ac rfl rfl ?_
          refine ps_get (S' := (78, [(0, .ref ac), (1, .int (nI x))], [.int (nI mj)], M)) rfl h_c rfl rfl ?_
          refine ps_st (S' := (80, [(0, .ref ac), (1, .int (nI x))], [.int 55, .int (nI mj)], M)) rfl rfl rfl ?_
          refine ps_if2 (S1 := (99, [(0, .ref ac), (1, .int (nI x))], [], M)) (S2 := (83, [(0, .ref ac), (1, .int (nI x))], [], M)) rfl rfl rfl (fun c_80 => ?_) (fun c_80 => ?_)
          · have c_80 : (nI mj) < 55 := of_decide_eq_true c_80
            have n_80 : mj < 55 := (lt_nI (p := mj) (n := 55) (by omega) (by decide)).mp c_80
            refine ps_st (S' := (100, [(0, .ref ac), (1, .int (nI x))], [.ref ac], M)) rfl rfl rfl ?_
            refine ps_get (S' := (103, [(0, .ref ac), (1, .int (nI x))], [.ref c], M)) rfl h_ac rfl rfl ?_
            refine ps_get (S' := (106, [(0, .ref ac), (1, .int (nI x))], [.int (nI mj)], M)) rfl h_c rfl rfl ?_
            refine ps_st (S' := (108, [(0, .ref ac), (1, .int (nI x))], [.int 60, .int (nI mj)], M)) rfl rfl rfl ?_
            refine ps_if2 (S1 := (127, [(0, .ref ac), (1, .int (nI x))], [], M)) (S2 := (111, [(0, .ref ac), (1, .int (nI x))], [], M)) rfl rfl rfl (fun c_108 => ?_) (fun c_108 => ?_)
            · have c_108 : (nI mj) < 60 := of_decide_eq_true c_108
              have n_108 : mj < 60 := (lt_nI (p := mj) (n := 60) (by omega) (by decide)).mp c_108
              refine ps_st (S' := (128, [(0, .ref ac), (1, .int (nI x))], [.ref ac], M)) rfl rfl rfl ?_
              refine ps_get (S' := (131, [(0, .ref ac), (1, .int (nI x))], [.ref c], M)) rfl h_ac rfl rfl ?_
              refine ps_get (S' := (134, [(0, .ref ac), (1, .int (nI x))], [.int (nI mj)], M)) rfl h_c rfl rfl ?_
              refine ps_st (S' := (136, [(0, .ref ac), (1, .int (nI x))], [.int 61, .int (nI mj)], M)) rfl rfl rfl ?_
              refine ps_if2 (S1 := (155, [], [], M)) (S2 := (139, [(0, .ref ac), (1, .int (nI x))], [], M)) rfl rfl rfl (fun c_136 => ?_) (fun c_136 => ?_)
              · have c_136 : (nI mj) < 61 := of_decide_eq_true c_136
                have n_136 : mj < 61 := (lt_nI (p := mj) (n := 61) (by omega) (by decide)).mp c_136
                refine ps_st (S' := (156, [], [.int 0], M)) rfl rfl rfl ?_
                exact ps_ret rfl rfl (⟨congrArg (fun x => some (Value.int (nI x))) (show 0 = ckN f n E mj x from by
                    unfold ckN
                    first | ((repeat first | rw [if_pos (by omega)] | rw [if_neg (by omega)]) <;> first | rfl | omega) | ((repeat' split) <;> first | rfl | (exfalso; omega) | omega)), rfl⟩)
              · have c_136 : ¬ ((nI mj) < 61) := of_decide_eq_false c_136
                have n_136 : ¬ (mj < 61) := fun h9 => c_136 ((lt_nI (p := mj) (n := 61) (by omega) (by decide)).mpr h9)
                refine ps_st (S' := (140, [(0, .ref ac), (1, .int (nI x))], [.ref ac], M)) rfl rfl rfl ?_
                refine ps_get (S' := (143, [(0, .ref ac), (1, .int (nI x))], [.ref q], M)) rfl h_ac rfl rfl ?_
                refine ps_st (S' := (144, [(0, .ref ac), (1, .int (nI x))], [.int (nI x), .ref q], M)) rfl rfl rfl ?_
                refine ps_st (S' := (146, [(0, .ref ac), (1, .int (nI x))], [.ref (g.2.1 8), .int (nI x), .ref q], M)) rfl rfl rfl ?_
                refine pl_call (a := [.ref q, .int (nI x), .ref (g.2.1 8)]) (rest := []) rfl rfl rfl (dy_textIs (f := f) (n := n) (N := N) (q := q) (E := E) (j := x) (k := 8) (hV) (by omega) (by decide)) (fun v28 M29 q30 => ?_)
                obtain ⟨rfl, rfl⟩ := q30
                show pl _ _ _ (149, [(0, .ref ac), (1, .int (nI x))], [.int (nI (eqN (tX f n E x) (ltx 8)))], M) _
                refine ps_if (S1 := (155, [], [], M)) (S2 := (152, [(0, .ref ac), (1, .int (nI x))], [], M)) rfl rfl rfl (fun c_149 => ?_) (fun c_149 => ?_)
                · have c_149 : (nI (eqN (tX f n E x) (ltx 8))) = 0 := of_decide_eq_true c_149
                  have n_149 : eqN (tX f n E x) (ltx 8) = 0 := (eq_nI (p := eqN (tX f n E x) (ltx 8)) (n := 0) (Nat.lt_trans (le1_eq _ _) (by decide)) (by decide)).mp c_149
                  refine ps_st (S' := (156, [], [.int 0], M)) rfl rfl rfl ?_
                  exact ps_ret rfl rfl (⟨congrArg (fun x => some (Value.int (nI x))) (show 0 = ckN f n E mj x from by
                      unfold ckN
                      first | ((repeat first | rw [if_pos (by omega)] | rw [if_neg (by omega)]) <;> first | rfl | omega) | ((repeat' split) <;> first | rfl | (exfalso; omega) | omega)), rfl⟩)
                · have c_149 : ¬ ((nI (eqN (tX f n E x) (ltx 8))) = 0) := of_decide_eq_false c_149
                  have n_149 : ¬ (eqN (tX f n E x) (ltx 8) = 0) := fun h9 => c_149 ((eq_nI (p := eqN (tX f n E x) (ltx 8)) (n := 0) (Nat.lt_trans (le1_eq _ _) (by decide)) (by decide)).mpr h9)
                  refine ps_st (S' := (154, [(0, .ref ac), (1, .int (nI x))], [.int 10], M)) rfl rfl rfl ?_
                  exact ps_ret rfl rfl (⟨congrArg (fun x => some (Value.int (nI x))) (show 10 = ckN f n E mj x from by
                      unfold ckN
                      first | ((repeat first | rw [if_pos (by omega)] | rw [if_neg (by omega)]) <;> first | rfl | omega) | ((repeat' split) <;> first | rfl | (exfalso; omega) | omega)), rfl⟩)
            · have c_108 : ¬ ((nI mj) < 60) := of_decide_eq_false c_108
              have n_108 : ¬ (mj < 60) := fun h9 => c_108 ((lt_nI (p := mj) (n := 60) (by omega) (by decide)).mpr h9)
              refine ps_st (S' := (112, [(0, .ref ac), (1, .int (nI x))], [.ref ac], M)) rfl rfl rfl ?_
              refine ps_get (S' := (115, [(0, .ref ac), (1, .int (nI x))], [.ref q], M)) rfl h_ac rfl rfl ?_
              refine ps_st (S' := (116, [(0, .ref ac), (1, .int (nI x))], [.int (nI x), .ref q], M)) rfl rfl rfl ?_
              refine ps_st (S' := (118, [(0, .ref ac), (1, .int (nI x))], [.ref (g.2.1 7), .int (nI x), .ref q], M)) rfl rfl rfl ?_
              refine pl_call (a := [.ref q, .int (nI x), .ref (g.2.1 7)]) (rest := []) rfl rfl rfl (dy_textIs (f := f) (n := n) (N := N) (q := q) (E := E) (j := x) (k := 7) (hV) (by omega) (by decide)) (fun v31 M32 q33 => ?_)
              obtain ⟨rfl, rfl⟩ := q33
              show pl _ _ _ (121, [(0, .ref ac), (1, .int (nI x))], [.int (nI (eqN (tX f n E x) (ltx 7)))], M) _
              refine ps_if (S1 := (127, [(0, .ref ac), (1, .int (nI x))], [], M)) (S2 := (124, [(0, .ref ac), (1, .int (nI x))], [], M)) rfl rfl rfl (fun c_121 => ?_) (fun c_121 => ?_)
              · have c_121 : (nI (eqN (tX f n E x) (ltx 7))) = 0 := of_decide_eq_true c_121
                have n_121 : eqN (tX f n E x) (ltx 7) = 0 := (eq_nI (p := eqN (tX f n E x) (ltx 7)) (n := 0) (Nat.lt_trans (le1_eq _ _) (by decide)) (by decide)).mp c_121
                refine ps_st (S' := (128, [(0, .ref ac), (1, .int (nI x))], [.ref ac], M)) rfl rfl rfl ?_
                refine ps_get (S' := (131, [(0, .ref ac), (1, .int (nI x))], [.ref c], M)) rfl h_ac rfl rfl ?_
                refine ps_get (S' := (134, [(0, .ref ac), (1, .int (nI x))], [.int (nI mj)], M)) rfl h_c rfl rfl ?_
                refine ps_st (S' := (136, [(0, .ref ac), (1, .int (nI x))], [.int 61, .int (nI mj)], M)) rfl rfl rfl ?_
                refine ps_if2 (S1 := (155, [], [], M)) (S2 := (139, [(0, .ref ac), (1, .int (nI x))], [], M)) rfl rfl rfl (fun c_136 => ?_) (fun c_136 => ?_)
                · have c_136 : (nI mj) < 61 := of_decide_eq_true c_136
                  have n_136 : mj < 61 := (lt_nI (p := mj) (n := 61) (by omega) (by decide)).mp c_136
                  refine ps_st (S' := (156, [], [.int 0], M)) rfl rfl rfl ?_
                  exact ps_ret rfl rfl (⟨congrArg (fun x => some (Value.int (nI x))) (show 0 = ckN f n E mj x from by
                      unfold ckN
                      first | ((repeat first | rw [if_pos (by omega)] | rw [if_neg (by omega)]) <;> first | rfl | omega) | ((repeat' split) <;> first | rfl | (exfalso; omega) | omega)), rfl⟩)
                · have c_136 : ¬ ((nI mj) < 61) := of_decide_eq_false c_136
                  have n_136 : ¬ (mj < 61) := fun h9 => c_136 ((lt_nI (p := mj) (n := 61) (by omega) (by decide)).mpr h9)
                  refine ps_st (S' := (140, [(0, .ref ac), (1, .int (nI x))], [.ref ac], M)) rfl rfl rfl ?_
                  refine ps_get (S' := (143, [(0, .ref ac), (1, .int (nI x))], [.ref q], M)) rfl h_ac rfl rfl ?_
                  refine ps_st (S' := (144, [(0, .ref ac), (1, .int (nI x))], [.int (nI x), .ref q], M)) rfl rfl rfl ?_
                  refine ps_st (S' := (146, [(0, .ref ac), (1, .int (nI x))], [.ref (g.2.1 8), .int (nI x), .ref q], M)) rfl rfl rfl ?_
                  refine pl_call (a := [.ref q, .int (nI x), .ref (g.2.1 8)]) (rest := []) rfl rfl rfl (dy_textIs (f := f) (n := n) (N := N) (q := q) (E := E) (j := x) (k := 8) (hV) (by omega) (by decide)) (fun v34 M35 q36 => ?_)
                  obtain ⟨rfl, rfl⟩ := q36
                  show pl _ _ _ (149, [(0, .ref ac), (1, .int (nI x))], [.int (nI (eqN (tX f n E x) (ltx 8)))], M) _
                  refine ps_if (S1 := (155, [], [], M)) (S2 := (152, [(0, .ref ac), (1, .int (nI x))], [], M)) rfl rfl rfl (fun c_149 => ?_) (fun c_149 => ?_)
                  · have c_149 : (nI (eqN (tX f n E x) (ltx 8))) = 0 := of_decide_eq_true c_149
                    have n_149 : eqN (tX f n E x) (ltx 8) = 0 := (eq_nI (p := eqN (tX f n E x) (ltx 8)) (n := 0) (Nat.lt_trans (le1_eq _ _) (by decide)) (by decide)).mp c_149
                    refine ps_st (S' := (156, [], [.int 0], M)) rfl rfl rfl ?_
                    exact ps_ret rfl rfl (⟨congrArg (fun x => some (Value.int (nI x))) (show 0 = ckN f n E mj x from by
                        unfold ckN
                        first | ((repeat first | rw [if_pos (by omega)] | rw [if_neg (by omega)]) <;> first | rfl | omega) | ((repeat' split) <;> first | rfl | (exfalso; omega) | omega)), rfl⟩)
                  · have c_149 : ¬ ((nI (eqN (tX f n E x) (ltx 8))) = 0) := of_decide_eq_false c_149
                    have n_149 : ¬ (eqN (tX f n E x) (ltx 8) = 0) := fun h9 => c_149 ((eq_nI (p := eqN (tX f n E x) (ltx 8)) (n := 0) (Nat.lt_trans (le1_eq _ _) (by decide)) (by decide)).mpr h9)
                    refine ps_st (S' := (154, [(0, .ref ac), (1, .int (nI x))], [.int 10], M)) rfl rfl rfl ?_
                    exact ps_ret rfl rfl (⟨congrArg (fun x => some (Value.int (nI x))) (show 10 = ckN f n E mj x from by
                        unfold ckN
                        first | ((repeat first | rw [if_pos (by omega)] | rw [if_neg (by omega)]) <;> first | rfl | omega) | ((repeat' split) <;> first | rfl | (exfalso; omega) | omega)), rfl⟩)
              · have c_121 : ¬ ((nI (eqN (tX f n E x) (ltx 7))) = 0) := of_decide_eq_false c_121
                have n_121 : ¬ (eqN (tX f n E x) (ltx 7) = 0) := fun h9 => c_121 ((eq_nI (p := eqN (tX f n E x) (ltx 7)) (n := 0) (Nat.lt_trans (le1_eq _ _) (by decide)) (by decide)).mpr h9)
                refine ps_st (S' := (126, [(0, .ref ac), (1, .int (nI x))], [.int 9], M)) rfl rfl rfl ?_
                exact ps_ret rfl rfl (⟨congrArg (fun x => some (Value.int (nI x))) (show 9 = ckN f n E mj x from by
                    unfold ckN
                    first | ((repeat first | rw [if_pos (by omega)] | rw [if_neg (by omega)]) <;> first | rfl | omega) | ((repeat' split) <;> first | rfl | (exfalso; omega) | omega)), rfl⟩)
          · have c_80 : ¬ ((nI mj) < 55) := of_decide_eq_false c_80
            have n_80 : ¬ (mj < 55) := fun h9 => c_80 ((lt_nI (p := mj) (n := 55) (by omega) (by decide)).mpr h9)
            refine ps_st (S' := (84, [(0, .ref ac), (1, .int (nI x))], [.ref ac], M)) rfl rfl rfl ?_
            refine ps_get (S' := (87, [(0, .ref ac), (1, .int (nI x))], [.ref q], M)) rfl h_ac rfl rfl ?_
            refine ps_st (S' := (88, [(0, .ref ac), (1, .int (nI x))], [.int (nI x), .ref q], M)) rfl rfl rfl ?_
            refine ps_st (S' := (90, [(0, .ref ac), (1, .int (nI x))], [.ref (g.2.1 6), .int (nI x), .ref q], M)) rfl rfl rfl ?_
            refine pl_call (a := [.ref q, .int (nI x), .ref (g.2.1 6)]) (rest := []) rfl rfl rfl (dy_textIs (f := f) (n := n) (N := N) (q := q) (E := E) (j := x) (k := 6) (hV) (by omega) (by decide)) (fun v37 M38 q39 => ?_)
            obtain ⟨rfl, rfl⟩ := q39
            show pl _ _ _ (93, [(0, .ref ac), (1, .int (nI x))], [.int (nI (eqN (tX f n E x) (ltx 6)))], M) _
            refine ps_if (S1 := (99, [(0, .ref ac), (1, .int (nI x))], [], M)) (S2 := (96, [(0, .ref ac), (1, .int (nI x))], [], M)) rfl rfl rfl (fun c_93 => ?_) (fun c_93 => ?_)
            · have c_93 : (nI (eqN (tX f n E x) (ltx 6))) = 0 := of_decide_eq_true c_93
              have n_93 : eqN (tX f n E x) (ltx 6) = 0 := (eq_nI (p := eqN (tX f n E x) (ltx 6)) (n := 0) (Nat.lt_trans (le1_eq _ _) (by decide)) (by decide)).mp c_93
              refine ps_st (S' := (100, [(0, .ref ac), (1, .int (nI x))], [.ref ac], M)) rfl rfl rfl ?_
              refine ps_get (S' := (103, [(0, .ref ac), (1, .int (nI x))], [.ref c], M)) rfl h_ac rfl rfl ?_
              refine ps_get (S' := (106, [(0, .ref ac), (1, .int (nI x))], [.int (nI mj)], M)) rfl h_c rfl rfl ?_
              refine ps_st (S' := (108, [(0, .ref ac), (1, .int (nI x))], [.int 60, .int (nI mj)], M)) rfl rfl rfl ?_
              refine ps_if2 (S1 := (127, [(0, .ref ac), (1, .int (nI x))], [], M)) (S2 := (111, [(0, .ref ac), (1, .int (nI x))], [], M)) rfl rfl rfl (fun c_108 => ?_) (fun c_108 => ?_)
              · have c_108 : (nI mj) < 60 := of_decide_eq_true c_108
                have n_108 : mj < 60 := (lt_nI (p := mj) (n := 60) (by omega) (by decide)).mp c_108
                refine ps_st (S' := (128, [(0, .ref ac), (1, .int (nI x))], [.ref ac], M)) rfl rfl rfl ?_
                refine ps_get (S' := (131, [(0, .ref ac), (1, .int (nI x))], [.ref c], M)) rfl h_ac rfl rfl ?_
                refine ps_get (S' := (134, [(0, .ref ac), (1, .int (nI x))], [.int (nI mj)], M)) rfl h_c rfl rfl ?_
                refine ps_st (S' := (136, [(0, .ref ac), (1, .int (nI x))], [.int 61, .int (nI mj)], M)) rfl rfl rfl ?_
                refine ps_if2 (S1 := (155, [], [], M)) (S2 := (139, [(0, .ref ac), (1, .int (nI x))], [], M)) rfl rfl rfl (fun c_136 => ?_) (fun c_136 => ?_)
                · have c_136 : (nI mj) < 61 := of_decide_eq_true c_136
                  have n_136 : mj < 61 := (lt_nI (p := mj) (n := 61) (by omega) (by decide)).mp c_136
                  refine ps_st (S' := (156, [], [.int 0], M)) rfl rfl rfl ?_
                  exact ps_ret rfl rfl (⟨congrArg (fun x => some (Value.int (nI x))) (show 0 = ckN f n E mj x from by
                      unfold ckN
                      first | ((repeat first | rw [if_pos (by omega)] | rw [if_neg (by omega)]) <;> first | rfl | omega) | ((repeat' split) <;> first | rfl | (exfalso; omega) | omega)), rfl⟩)
                · have c_136 : ¬ ((nI mj) < 61) := of_decide_eq_false c_136
                  have n_136 : ¬ (mj < 61) := fun h9 => c_136 ((lt_nI (p := mj) (n := 61) (by omega) (by decide)).mpr h9)
                  refine ps_st (S' := (140, [(0, .ref ac), (1, .int (nI x))], [.ref ac], M)) rfl rfl rfl ?_
                  refine ps_get (S' := (143, [(0, .ref ac), (1, .int (nI x))], [.ref q], M)) rfl h_ac rfl rfl ?_
                  refine ps_st (S' := (144, [(0, .ref ac), (1, .int (nI x))], [.int (nI x), .ref q], M)) rfl rfl rfl ?_
                  refine ps_st (S' := (146, [(0, .ref ac), (1, .int (nI x))], [.ref (g.2.1 8), .int (nI x), .ref q], M)) rfl rfl rfl ?_
                  refine pl_call (a := [.ref q, .int (nI x), .ref (g.2.1 8)]) (rest := []) rfl rfl rfl (dy_textIs (f := f) (n := n) (N := N) (q := q) (E := E) (j := x) (k := 8) (hV) (by omega) (by decide)) (fun v40 M41 q42 => ?_)
                  obtain ⟨rfl, rfl⟩ := q42
                  show pl _ _ _ (149, [(0, .ref ac), (1, .int (nI x))], [.int (nI (eqN (tX f n E x) (ltx 8)))], M) _
                  refine ps_if (S1 := (155, [], [], M)) (S2 := (152, [(0, .ref ac), (1, .int (nI x))], [], M)) rfl rfl rfl (fun c_149 => ?_) (fun c_149 => ?_)
                  · have c_149 : (nI (eqN (tX f n E x) (ltx 8))) = 0 := of_decide_eq_true c_149
                    have n_149 : eqN (tX f n E x) (ltx 8) = 0 := (eq_nI (p := eqN (tX f n E x) (ltx 8)) (n := 0) (Nat.lt_trans (le1_eq _ _) (by decide)) (by decide)).mp c_149
                    refine ps_st (S' := (156, [], [.int 0], M)) rfl rfl rfl ?_
                    exact ps_ret rfl rfl (⟨congrArg (fun x => some (Value.int (nI x))) (show 0 = ckN f n E mj x from by
                        unfold ckN
                        first | ((repeat first | rw [if_pos (by omega)] | rw [if_neg (by omega)]) <;> first | rfl | omega) | ((repeat' split) <;> first | rfl | (exfalso; omega) | omega)), rfl⟩)
                  · have c_149 : ¬ ((nI (eqN (tX f n E x) (ltx 8))) = 0) := of_decide_eq_false c_149
                    have n_149 : ¬ (eqN (tX f n E x) (ltx 8) = 0) := fun h9 => c_149 ((eq_nI (p := eqN (tX f n E x) (ltx 8)) (n := 0) (Nat.lt_trans (le1_eq _ _) (by decide)) (by decide)).mpr h9)
                    refine ps_st (S' := (154, [(0, .ref ac), (1, .int (nI x))], [.int 10], M)) rfl rfl rfl ?_
                    exact ps_ret rfl rfl (⟨congrArg (fun x => some (Value.int (nI x))) (show 10 = ckN f n E mj x from by
                        unfold ckN
                        first | ((repeat first | rw [if_pos (by omega)] | rw [if_neg (by omega)]) <;> first | rfl | omega) | ((repeat' split) <;> first | rfl | (exfalso; omega) | omega)), rfl⟩)
              · have c_108 : ¬ ((nI mj) < 60) := of_decide_eq_false c_108
                have n_108 : ¬ (mj < 60) := fun h9 => c_108 ((lt_nI (p := mj) (n := 60) (by omega) (by decide)).mpr h9)
                refine ps_st (S' := (112, [(0, .ref ac), (1, .int (nI x))], [.ref ac], M)) rfl rfl rfl ?_
                refine ps_get (S' := (115, [(0, .ref ac), (1, .int (nI x))], [.ref q], M)) rfl h_ac rfl rfl ?_
                refine ps_st (S' := (116, [(0, .ref ac), (1, .int (nI x))], [.int (nI x), .ref q], M)) rfl rfl rfl ?_
                refine ps_st (S' := (118, [(0, .ref ac), (1, .int (nI x))], [.ref (g.2.1 7), .int (nI x), .ref q], M)) rfl rfl rfl ?_
                refine pl_call (a := [.ref q, .int (nI x), .ref (g.2.1 7)]) (rest := []) rfl rfl rfl (dy_textIs (f := f) (n := n) (N := N) (q := q) (E := E) (j := x) (k := 7) (hV) (by omega) (by decide)) (fun v43 M44 q45 => ?_)
                obtain ⟨rfl, rfl⟩ := q45
                show pl _ _ _ (121, [(0, .ref ac), (1, .int (nI x))], [.int (nI (eqN (tX f n E x) (ltx 7)))], M) _
                refine ps_if (S1 := (127, [(0, .ref ac), (1, .int (nI x))], [], M)) (S2 := (124, [(0, .ref ac), (1, .int (nI x))], [], M)) rfl rfl rfl (fun c_121 => ?_) (fun c_121 => ?_)
                · have c_121 : (nI (eqN (tX f n E x) (ltx 7))) = 0 := of_decide_eq_true c_121
                  have n_121 : eqN (tX f n E x) (ltx 7) = 0 := (eq_nI (p := eqN (tX f n E x) (ltx 7)) (n := 0) (Nat.lt_trans (le1_eq _ _) (by decide)) (by decide)).mp c_121
                  refine ps_st (S' := (128, [(0, .ref ac), (1, .int (nI x))], [.ref ac], M)) rfl rfl rfl ?_
                  refine ps_get (S' := (131, [(0, .ref ac), (1, .int (nI x))], [.ref c], M)) rfl h_ac rfl rfl ?_
                  refine ps_get (S' := (134, [(0, .ref ac), (1, .int (nI x))], [.int (nI mj)], M)) rfl h_c rfl rfl ?_
                  refine ps_st (S' := (136, [(0, .ref ac), (1, .int (nI x))], [.int 61, .int (nI mj)], M)) rfl rfl rfl ?_
                  refine ps_if2 (S1 := (155, [], [], M)) (S2 := (139, [(0, .ref ac), (1, .int (nI x))], [], M)) rfl rfl rfl (fun c_136 => ?_) (fun c_136 => ?_)
                  · have c_136 : (nI mj) < 61 := of_decide_eq_true c_136
                    have n_136 : mj < 61 := (lt_nI (p := mj) (n := 61) (by omega) (by decide)).mp c_136
                    refine ps_st (S' := (156, [], [.int 0], M)) rfl rfl rfl ?_
                    exact ps_ret rfl rfl (⟨congrArg (fun x => some (Value.int (nI x))) (show 0 = ckN f n E mj x from by
                        unfold ckN
                        first | ((repeat first | rw [if_pos (by omega)] | rw [if_neg (by omega)]) <;> first | rfl | omega) | ((repeat' split) <;> first | rfl | (exfalso; omega) | omega)), rfl⟩)
                  · have c_136 : ¬ ((nI mj) < 61) := of_decide_eq_false c_136
                    have n_136 : ¬ (mj < 61) := fun h9 => c_136 ((lt_nI (p := mj) (n := 61) (by omega) (by decide)).mpr h9)
                    refine ps_st (S' := (140, [(0, .ref ac), (1, .int (nI x))], [.ref ac], M)) rfl rfl rfl ?_
                    refine ps_get (S' := (143, [(0, .ref ac), (1, .int (nI x))], [.ref q], M)) rfl h_ac rfl rfl ?_
                    refine ps_st (S' := (144, [(0, .ref ac), (1, .int (nI x))], [.int (nI x), .ref q], M)) rfl rfl rfl ?_
                    refine ps_st (S' := (146, [(0, .ref ac), (1, .int (nI x))], [.ref (g.2.1 8), .int (nI x), .ref q], M)) rfl rfl rfl ?_
                    refine pl_call (a := [.ref q, .int (nI x), .ref (g.2.1 8)]) (rest := []) rfl rfl rfl (dy_textIs (f := f) (n := n) (N := N) (q := q) (E := E) (j := x) (k := 8) (hV) (by omega) (by decide)) (fun v46 M47 q48 => ?_)
                    obtain ⟨rfl, rfl⟩ := q48
                    show pl _ _ _ (149, [(0, .ref ac), (1, .int (nI x))], [.int (nI (eqN (tX f n E x) (ltx 8)))], M) _
                    refine ps_if (S1 := (155, [], [], M)) (S2 := (152, [(0, .ref ac), (1, .int (nI x))], [], M)) rfl rfl rfl (fun c_149 => ?_) (fun c_149 => ?_)
                    · have c_149 : (nI (eqN (tX f n E x) (ltx 8))) = 0 := of_decide_eq_true c_149
                      have n_149 : eqN (tX f n E x) (ltx 8) = 0 := (eq_nI (p := eqN (tX f n E x) (ltx 8)) (n := 0) (Nat.lt_trans (le1_eq _ _) (by decide)) (by decide)).mp c_149
                      refine ps_st (S' := (156, [], [.int 0], M)) rfl rfl rfl ?_
                      exact ps_ret rfl rfl (⟨congrArg (fun x => some (Value.int (nI x))) (show 0 = ckN f n E mj x from by
                          unfold ckN
                          first | ((repeat first | rw [if_pos (by omega)] | rw [if_neg (by omega)]) <;> first | rfl | omega) | ((repeat' split) <;> first | rfl | (exfalso; omega) | omega)), rfl⟩)
                    · have c_149 : ¬ ((nI (eqN (tX f n E x) (ltx 8))) = 0) := of_decide_eq_false c_149
                      have n_149 : ¬ (eqN (tX f n E x) (ltx 8) = 0) := fun h9 => c_149 ((eq_nI (p := eqN (tX f n E x) (ltx 8)) (n := 0) (Nat.lt_trans (le1_eq _ _) (by decide)) (by decide)).mpr h9)
                      refine ps_st (S' := (154, [(0, .ref ac), (1, .int (nI x))], [.int 10], M)) rfl rfl rfl ?_
                      exact ps_ret rfl rfl (⟨congrArg (fun x => some (Value.int (nI x))) (show 10 = ckN f n E mj x from by
                          unfold ckN
                          first | ((repeat first | rw [if_pos (by omega)] | rw [if_neg (by omega)]) <;> first | rfl | omega) | ((repeat' split) <;> first | rfl | (exfalso; omega) | omega)), rfl⟩)
                · have c_121 : ¬ ((nI (eqN (tX f n E x) (ltx 7))) = 0) := of_decide_eq_false c_121
                  have n_121 : ¬ (eqN (tX f n E x) (ltx 7) = 0) := fun h9 => c_121 ((eq_nI (p := eqN (tX f n E x) (ltx 7)) (n := 0) (Nat.lt_trans (le1_eq _ _) (by decide)) (by decide)).mpr h9)
                  refine ps_st (S' := (126, [(0, .ref ac), (1, .int (nI x))], [.int 9], M)) rfl rfl rfl ?_
                  exact ps_ret rfl rfl (⟨congrArg (fun x => some (Value.int (nI x))) (show 9 = ckN f n E mj x from by
                      unfold ckN
                      first | ((repeat first | rw [if_pos (by omega)] | rw [if_neg (by omega)]) <;> first | rfl | omega) | ((repeat' split) <;> first | rfl | (exfalso; omega) | omega)), rfl⟩)
            · have c_93 : ¬ ((nI (eqN (tX f n E x) (ltx 6))) = 0) := of_decide_eq_false c_93
              have n_93 : ¬ (eqN (tX f n E x) (ltx 6) = 0) := fun h9 => c_93 ((eq_nI (p := eqN (tX f n E x) (ltx 6)) (n := 0) (Nat.lt_trans (le1_eq _ _) (by decide)) (by decide)).mpr h9)
              refine ps_st (S' := (98, [(0, .ref ac), (1, .int (nI x))], [.int 8], M)) rfl rfl rfl ?_
              exact ps_ret rfl rfl (⟨congrArg (fun x => some (Value.int (nI x))) (show 8 = ckN f n E mj x from by
                  unfold ckN
                  first | ((repeat first | rw [if_pos (by omega)] | rw [if_neg (by omega)]) <;> first | rfl | omega) | ((repeat' split) <;> first | rfl | (exfalso; omega) | omega)), rfl⟩)
        · have c_65 : ¬ ((nI (eqN (tX f n E x) (ltx 5))) = 0) := of_decide_eq_false c_65
          have n_65 : ¬ (eqN (tX f n E x) (ltx 5) = 0) := fun h9 => c_65 ((eq_nI (p := eqN (tX f n E x) (ltx 5)) (n := 0) (Nat.lt_trans (le1_eq _ _) (by decide)) (by decide)).mpr h9)
          refine ps_st (S' := (70, [(0, .ref ac), (1, .int (nI x))], [.int 7], M)) rfl rfl rfl ?_
          exact ps_ret rfl rfl (⟨congrArg (fun x => some (Value.int (nI x))) (show 7 = ckN f n E mj x from by
              unfold ckN
              first | ((repeat first | rw [if_pos (by omega)] | rw [if_neg (by omega)]) <;> first | rfl | omega) | ((repeat' split) <;> first | rfl | (exfalso; omega) | omega)), rfl⟩)
    · have c_24 : ¬ ((nI mj) < 51) := of_decide_eq_false c_24
      have n_24 : ¬ (mj < 51) := fun h9 => c_24 ((lt_nI (p := mj) (n := 51) (by omega) (by decide)).mpr h9)
      refine ps_st (S' := (28, [(0, .ref ac), (1, .int (nI x))], [.ref ac], M)) rfl rfl rfl ?_
      refine ps_get (S' := (31, [(0, .ref ac), (1, .int (nI x))], [.ref q], M)) rfl h_ac rfl rfl ?_
      refine ps_st (S' := (32, [(0, .ref ac), (1, .int (nI x))], [.int (nI x), .ref q], M)) rfl rfl rfl ?_
      refine ps_st (S' := (34, [(0, .ref ac), (1, .int (nI x))], [.ref (g.2.1 4), .int (nI x), .ref q], M)) rfl rfl rfl ?_
      refine pl_call (a := [.ref q, .int (nI x), .ref (g.2.1 4)]) (rest := []) rfl rfl rfl (dy_textIs (f := f) (n := n) (N := N) (q := q) (E := E) (j := x) (k := 4) (hV) (by omega) (by decide)) (fun v49 M50 q51 => ?_)
      obtain ⟨rfl, rfl⟩ := q51
      show pl _ _ _ (37, [(0, .ref ac), (1, .int (nI x))], [.int (nI (eqN (tX f n E x) (ltx 4)))], M) _
      refine ps_if (S1 := (43, [(0, .ref ac), (1, .int (nI x))], [], M)) (S2 := (40, [(0, .ref ac), (1, .int (nI x))], [], M)) rfl rfl rfl (fun c_37 => ?_) (fun c_37 => ?_)
      · have c_37 : (nI (eqN (tX f n E x) (ltx 4))) = 0 := of_decide_eq_true c_37
        have n_37 : eqN (tX f n E x) (ltx 4) = 0 := (eq_nI (p := eqN (tX f n E x) (ltx 4)) (n := 0) (Nat.lt_trans (le1_eq _ _) (by decide)) (by decide)).mp c_37
        refine ps_st (S' := (44, [(0, .ref ac), (1, .int (nI x))], [.ref ac], M)) rfl rfl rfl ?_
        refine ps_get (S' := (47, [(0, .ref ac), (1, .int (nI x))], [.ref c], M)) rfl h_ac rfl rfl ?_
        refine ps_get (S' := (50, [(0, .ref ac), (1, .int (nI x))], [.int (nI mj)], M)) rfl h_c rfl rfl ?_
        refine ps_st (S' := (52, [(0, .ref ac), (1, .int (nI x))], [.int 55, .int (nI mj)], M)) rfl rfl rfl ?_
        refine ps_if2 (S1 := (71, [(0, .ref ac), (1, .int (nI x))], [], M)) (S2 := (55, [(0, .ref ac), (1, .int (nI x))], [], M)) rfl rfl rfl (fun c_52 => ?_) (fun c_52 => ?_)
        · have c_52 : (nI mj) < 55 := of_decide_eq_true c_52
          have n_52 : mj < 55 := (lt_nI (p := mj) (n := 55) (by omega) (by decide)).mp c_52
          refine ps_st (S' := (72, [(0, .ref ac), (1, .int (nI x))], [.ref ac], M)) rfl rfl rfl ?_
          refine ps_get (S' := (75, [(0, .ref ac), (1, .int (nI x))], [.ref c], M)) rfl h_ac rfl rfl ?_
          refine ps_get (S' := (78, [(0, .ref ac), (1, .int (nI x))], [.int (nI mj)], M)) rfl h_c rfl rfl ?_
          refine ps_st (S' := (80, [(0, .ref ac), (1, .int (nI x))], [.int 55, .int (nI mj)], M)) rfl rfl rfl ?_
          refine ps_if2 (S1 := (99, [(0, .ref ac), (1, .int (nI x))], [], M)) (S2 := (83, [(0, .ref ac), (1, .int (nI x))], [], M)) rfl rfl rfl (fun c_80 => ?_) (fun c_80 => ?_)
          · have c_80 : (nI mj) < 55 := of_decide_eq_true c_80
            have n_80 : mj < 55 := (lt_nI (p := mj) (n := 55) (by omega) (by decide)).mp c_80
            refine ps_st (S' := (100, [(0, .ref ac), (1, .int (nI x))], [.ref ac], M)) rfl rfl rfl ?_
            refine ps_get (S' := (103, [(0, .ref ac), (1, .int (nI x))], [.ref c], M)) rfl h_ac rfl rfl ?_
            refine ps_get (S' := (106, [(0, .ref ac), (1, .int (nI x))], [.int (nI mj)], M)) rfl h_c rfl rfl ?_
            refine ps_st (S' := (108, [(0, .ref ac), (1, .int (nI x))], [.int 60, .int (nI mj)], M)) rfl rfl rfl ?_
            refine ps_if2 (S1 := (127, [(0, .ref ac), (1, .int (nI x))], [], M)) (S2 := (111, [(0, .ref ac), (1, .int (nI x))], [], M)) rfl rfl rfl (fun c_108 => ?_) (fun c_108 => ?_)
            · have c_108 : (nI mj) < 60 := of_decide_eq_true c_108
              have n_108 : mj < 60 := (lt_nI (p := mj) (n := 60) (by omega) (by decide)).mp c_108
              refine ps_st (S' := (128, [(0, .ref ac), (1, .int (nI x))], [.ref ac], M)) rfl rfl rfl ?_
              refine ps_get (S' := (131, [(0, .ref ac), (1, .int (nI x))], [.ref c], M)) rfl h_ac rfl rfl ?_
              refine ps_get (S' := (134, [(0, .ref ac), (1, .int (nI x))], [.int (nI mj)], M)) rfl h_c rfl rfl ?_
              refine ps_st (S' := (136, [(0, .ref ac), (1, .int (nI x))], [.int 61, .int (nI mj)], M)) rfl rfl rfl ?_
              refine ps_if2 (S1 := (155, [], [], M)) (S2 := (139, [(0, .ref ac), (1, .int (nI x))], [], M)) rfl rfl rfl (fun c_136 => ?_) (fun c_136 => ?_)
              · have c_136 : (nI mj) < 61 := of_decide_eq_true c_136
                have n_136 : mj < 61 := (lt_nI (p := mj) (n := 61) (by omega) (by decide)).mp c_136
                refine ps_st (S' := (156, [], [.int 0], M)) rfl rfl rfl ?_
                exact ps_ret rfl rfl (⟨congrArg (fun x => some (Value.int (nI x))) (show 0 = ckN f n E mj x from by
                    unfold ckN
                    first | ((repeat first | rw [if_pos (by omega)] | rw [if_neg (by omega)]) <;> first | rfl | omega) | ((repeat' split) <;> first | rfl | (exfalso; omega) | omega)), rfl⟩)
              · have c_136 : ¬ ((nI mj) < 61) := of_decide_eq_false c_136
                have n_136 : ¬ (mj < 61) := fun h9 => c_136 ((lt_nI (p := mj) (n := 61) (by omega) (by decide)).mpr h9)
                refine ps_st (S' := (140, [(0, .ref ac), (1, .int (nI x))], [.ref ac], M)) rfl rfl rfl ?_
                refine ps_get (S' := (143, [(0, .ref ac), (1, .int (nI x))], [.ref q], M)) rfl h_ac rfl rfl ?_
                refine ps_st (S' := (144, [(0, .ref ac), (1, .int (nI x))], [.int (nI x), .ref q], M)) rfl rfl rfl ?_
                refine ps_st (S' := (146, [(0, .ref ac), (1, .int (nI x))], [.ref (g.2.1 8), .int (nI x), .ref q], M)) rfl rfl rfl ?_
                refine pl_call (a := [.ref q, .int (nI x), .ref (g.2.1 8)]) (rest := []) rfl rfl rfl (dy_textIs (f := f) (n := n) (N := N) (q := q) (E := E) (j := x) (k := 8) (hV) (by omega) (by decide)) (fun v52 M53 q54 => ?_)
                obtain ⟨rfl, rfl⟩ := q54
                show pl _ _ _ (149, [(0, .ref ac), (1, .int (nI x))], [.int (nI (eqN (tX f n E x) (ltx 8)))], M) _
                refine ps_if (S1 := (155, [], [], M)) (S2 := (152, [(0, .ref ac), (1, .int (nI x))], [], M)) rfl rfl rfl (fun c_149 => ?_) (fun c_149 => ?_)
                · have c_149 : (nI (eqN (tX f n E x) (ltx 8))) = 0 := of_decide_eq_true c_149
                  have n_149 : eqN (tX f n E x) (ltx 8) = 0 := (eq_nI (p := eqN (tX f n E x) (ltx 8)) (n := 0) (Nat.lt_trans (le1_eq _ _) (by decide)) (by decide)).mp c_149
                  refine ps_st (S' := (156, [], [.int 0], M)) rfl rfl rfl ?_
                  exact ps_ret rfl rfl (⟨congrArg (fun x => some (Value.int (nI x))) (show 0 = ckN f n E mj x from by
                      unfold ckN
                      first | ((repeat first | rw [if_pos (by omega)] | rw [if_neg (by omega)]) <;> first | rfl | omega) | ((repeat' split) <;> first | rfl | (exfalso; omega) | omega)), rfl⟩)
                · have c_149 : ¬ ((nI (eqN (tX f n E x) (ltx 8))) = 0) := of_decide_eq_false c_149
                  have n_149 : ¬ (eqN (tX f n E x) (ltx 8) = 0) := fun h9 => c_149 ((eq_nI (p := eqN (tX f n E x) (ltx 8)) (n := 0) (Nat.lt_trans (le1_eq _ _) (by decide)) (by decide)).mpr h9)
                  refine ps_st (S' := (154, [(0, .ref ac), (1, .int (nI x))], [.int 10], M)) rfl rfl rfl ?_
                  exact ps_ret rfl rfl (⟨congrArg (fun x => some (Value.int (nI x))) (show 10 = ckN f n E mj x from by
                      unfold ckN
                      first | ((repeat first | rw [if_pos (by omega)] | rw [if_neg (by omega)]) <;> first | rfl | omega) | ((repeat' split) <;> first | rfl | (exfalso; omega) | omega)), rfl⟩)
            · have c_108 : ¬ ((nI mj) < 60) := of_decide_eq_false c_108
              have n_108 : ¬ (mj < 60) := fun h9 => c_108 ((lt_nI (p := mj) (n := 60) (by omega) (by decide)).mpr h9)
              refine ps_st (S' := (112, [(0, .ref ac), (1, .int (nI x))], [.ref ac], M)) rfl rfl rfl ?_
              refine ps_get (S' := (115, [(0, .ref ac), (1, .int (nI x))], [.ref q], M)) rfl h_ac rfl rfl ?_
              refine ps_st (S' := (116, [(0, .ref ac), (1, .int (nI x))], [.int (nI x), .ref q], M)) rfl rfl rfl ?_
              refine ps_st (S' := (118, [(0, .ref ac), (1, .int (nI x))], [.ref (g.2.1 7), .int (nI x), .ref q], M)) rfl rfl rfl ?_
              refine pl_call (a := [.ref q, .int (nI x), .ref (g.2.1 7)]) (rest := []) rfl rfl rfl (dy_textIs (f := f) (n := n) (N := N) (q := q) (E := E) (j := x) (k := 7) (hV) (by omega) (by decide)) (fun v55 M56 q57 => ?_)
              obtain ⟨rfl, rfl⟩ := q57
              show pl _ _ _ (121, [(0, .ref ac), (1, .int (nI x))], [.int (nI (eqN (tX f n E x) (ltx 7)))], M) _
              refine ps_if (S1 := (127, [(0, .ref ac), (1, .int (nI x))], [], M)) (S2 := (124, [(0, .ref ac), (1, .int (nI x))], [], M)) rfl rfl rfl (fun c_121 => ?_) (fun c_121 => ?_)
              · have c_121 : (nI (eqN (tX f n E x) (ltx 7))) = 0 := of_decide_eq_true c_121
                have n_121 : eqN (tX f n E x) (ltx 7) = 0 := (eq_nI (p := eqN (tX f n E x) (ltx 7)) (n := 0) (Nat.lt_trans (le1_eq _ _) (by decide)) (by decide)).mp c_121
                refine ps_st (S' := (128, [(0, .ref ac), (1, .int (nI x))], [.ref ac], M)) rfl rfl rfl ?_
                refine ps_get (S' := (131, [(0, .ref ac), (1, .int (nI x))], [.ref c], M)) rfl h_ac rfl rfl ?_
                refine ps_get (S' := (134, [(0, .ref ac), (1, .int (nI x))], [.int (nI mj)], M)) rfl h_c rfl rfl ?_
                refine ps_st (S' := (136, [(0, .ref ac), (1, .int (nI x))], [.int 61, .int (nI mj)], M)) rfl rfl rfl ?_
                refine ps_if2 (S1 := (155, [], [], M)) (S2 := (139, [(0, .ref ac), (1, .int (nI x))], [], M)) rfl rfl rfl (fun c_136 => ?_) (fun c_136 => ?_)
                · have c_136 : (nI mj) < 61 := of_decide_eq_true c_136
                  have n_136 : mj < 61 := (lt_nI (p := mj) (n := 61) (by omega) (by decide)).mp c_136
                  refine ps_st (S' := (156, [], [.int 0], M)) rfl rfl rfl ?_
                  exact ps_ret rfl rfl (⟨congrArg (fun x => some (Value.int (nI x))) (show 0 = ckN f n E mj x from by
                      unfold ckN
                      first | ((repeat first | rw [if_pos (by omega)] | rw [if_neg (by omega)]) <;> first | rfl | omega) | ((repeat' split) <;> first | rfl | (exfalso; omega) | omega)), rfl⟩)
                · have c_136 : ¬ ((nI mj) < 61) := of_decide_eq_false c_136
                  have n_136 : ¬ (mj < 61) := fun h9 => c_136 ((lt_nI (p := mj) (n := 61) (by omega) (by decide)).mpr h9)
                  refine ps_st (S' := (140, [(0, .ref ac), (1, .int (nI x))], [.ref ac], M)) rfl rfl rfl ?_
                  refine ps_get (S' := (143, [(0, .ref ac), (1, .int (nI x))], [.ref q], M)) rfl h_ac rfl rfl ?_
                  refine ps_st (S' := (144, [(0, .ref ac), (1, .int (nI x))], [.int (nI x), .ref q], M)) rfl rfl rfl ?_
                  refine ps_st (S' := (146, [(0, .ref ac), (1, .int (nI x))], [.ref (g.2.1 8), .int (nI x), .ref q], M)) rfl rfl rfl ?_
                  refine pl_call (a := [.ref q, .int (nI x), .ref (g.2.1 8)]) (rest := []) rfl rfl rfl (dy_textIs (f := f) (n := n) (N := N) (q := q) (E := E) (j := x) (k := 8) (hV) (by omega) (by decide)) (fun v58 M59 q60 => ?_)
                  obtain ⟨rfl, rfl⟩ := q60
                  show pl _ _ _ (149, [(0, .ref ac), (1, .int (nI x))], [.int (nI (eqN (tX f n E x) (ltx 8)))], M) _
                  refine ps_if (S1 := (155, [], [], M)) (S2 := (152, [(0, .ref ac), (1, .int (nI x))], [], M)) rfl rfl rfl (fun c_149 => ?_) (fun c_149 => ?_)
                  · have c_149 : (nI (eqN (tX f n E x) (ltx 8))) = 0 := of_decide_eq_true c_149
                    have n_149 : eqN (tX f n E x) (ltx 8) = 0 := (eq_nI (p := eqN (tX f n E x) (ltx 8)) (n := 0) (Nat.lt_trans (le1_eq _ _) (by decide)) (by decide)).mp c_149
                    refine ps_st (S' := (156, [], [.int 0], M)) rfl rfl rfl ?_
                    exact ps_ret rfl rfl (⟨congrArg (fun x => some (Value.int (nI x))) (show 0 = ckN f n E mj x from by
                        unfold ckN
                        first | ((repeat first | rw [if_pos (by omega)] | rw [if_neg (by omega)]) <;> first | rfl | omega) | ((repeat' split) <;> first | rfl | (exfalso; omega) | omega)), rfl⟩)
                  · have c_149 : ¬ ((nI (eqN (tX f n E x) (ltx 8))) = 0) := of_decide_eq_false c_149
                    have n_149 : ¬ (eqN (tX f n E x) (ltx 8) = 0) := fun h9 => c_149 ((eq_nI (p := eqN (tX f n E x) (ltx 8)) (n := 0) (Nat.lt_trans (le1_eq _ _) (by decide)) (by decide)).mpr h9)
                    refine ps_st (S' := (154, [(0, .ref ac), (1, .int (nI x))], [.int 10], M)) rfl rfl rfl ?_
                    exact ps_ret rfl rfl (⟨congrArg (fun x => some (Value.int (nI x))) (show 10 = ckN f n E mj x from by
                        unfold ckN
                        first | ((repeat first | rw [if_pos (by omega)] | rw [if_neg (by omega)]) <;> first | rfl | omega) | ((repeat' split) <;> first | rfl | (exfalso; omega) | omega)), rfl⟩)
              · have c_121 : ¬ ((nI (eqN (tX f n E x) (ltx 7))) = 0) := of_decide_eq_false c_121
                have n_121 : ¬ (eqN (tX f n E x) (ltx 7) = 0) := fun h9 => c_121 ((eq_nI (p := eqN (tX f n E x) (ltx 7)) (n := 0) (Nat.lt_trans (le1_eq _ _) (by decide)) (by decide)).mpr h9)
                refine ps_st (S' := (126, [(0, .ref ac), (1, .int (nI x))], [.int 9], M)) rfl rfl rfl ?_
                exact ps_ret rfl rfl (⟨congrArg (fun x => some (Value.int (nI x))) (show 9 = ckN f n E mj x from by
                    unfold ckN
                    first | ((repeat first | rw [if_pos (by omega)] | rw [if_neg (by omega)]) <;> first | rfl | omega) | ((repeat' split) <;> first | rfl | (exfalso; omega) | omega)), rfl⟩)
          · have c_80 : ¬ ((nI mj) < 55) := of_decide_eq_false c_80
            have n_80 : ¬ (mj < 55) := fun h9 => c_80 ((lt_nI (p := mj) (n := 55) (by omega) (by decide)).mpr h9)
            refine ps_st (S' := (84, [(0, .ref ac), (1, .int (nI x))], [.ref ac], M)) rfl rfl rfl ?_
            refine ps_get (S' := (87, [(0, .ref ac), (1, .int (nI x))], [.ref q], M)) rfl h_ac rfl rfl ?_
            refine ps_st (S' := (88, [(0, .ref ac), (1, .int (nI x))], [.int (nI x), .ref q], M)) rfl rfl rfl ?_
            refine ps_st (S' := (90, [(0, .ref ac), (1, .int (nI x))], [.ref (g.2.1 6), .int (nI x), .ref q], M)) rfl rfl rfl ?_
            refine pl_call (a := [.ref q, .int (nI x), .ref (g.2.1 6)]) (rest := []) rfl rfl rfl (dy_textIs (f := f) (n := n) (N := N) (q := q) (E := E) (j := x) (k := 6) (hV) (by omega) (by decide)) (fun v61 M62 q63 => ?_)
            obtain ⟨rfl, rfl⟩ := q63
            show pl _ _ _ (93, [(0, .ref ac), (1, .int (nI x))], [.int (nI (eqN (tX f n E x) (ltx 6)))], M) _
            refine ps_if (S1 := (99, [(0, .ref ac), (1, .int (nI x))], [], M)) (S2 := (96, [(0, .ref ac), (1, .int (nI x))], [], M)) rfl rfl rfl (fun c_93 => ?_) (fun c_93 => ?_)
            · have c_93 : (nI (eqN (tX f n E x) (ltx 6))) = 0 := of_decide_eq_true c_93
              have n_93 : eqN (tX f n E x) (ltx 6) = 0 := (eq_nI (p := eqN (tX f n E x) (ltx 6)) (n := 0) (Nat.lt_trans (le1_eq _ _) (by decide)) (by decide)).mp c_93
              refine ps_st (S' := (100, [(0, .ref ac), (1, .int (nI x))], [.ref ac], M)) rfl rfl rfl ?_
              refine ps_get (S' := (103, [(0, .ref ac), (1, .int (nI x))], [.ref c], M)) rfl h_ac rfl rfl ?_
              refine ps_get (S' := (106, [(0, .ref ac), (1, .int (nI x))], [.int (nI mj)], M)) rfl h_c rfl rfl ?_
              refine ps_st (S' := (108, [(0, .ref ac), (1, .int (nI x))], [.int 60, .int (nI mj)], M)) rfl rfl rfl ?_
              refine ps_if2 (S1 := (127, [(0, .ref ac), (1, .int (nI x))], [], M)) (S2 := (111, [(0, .ref ac), (1, .int (nI x))], [], M)) rfl rfl rfl (fun c_108 => ?_) (fun c_108 => ?_)
              · have c_108 : (nI mj) < 60 := of_decide_eq_true c_108
                have n_108 : mj < 60 := (lt_nI (p := mj) (n := 60) (by omega) (by decide)).mp c_108
                refine ps_st (S' := (128, [(0, .ref ac), (1, .int (nI x))], [.ref ac], M)) rfl rfl rfl ?_
                refine ps_get (S' := (131, [(0, .ref ac), (1, .int (nI x))], [.ref c], M)) rfl h_ac rfl rfl ?_
                refine ps_get (S' := (134, [(0, .ref ac), (1, .int (nI x))], [.int (nI mj)], M)) rfl h_c rfl rfl ?_
                refine ps_st (S' := (136, [(0, .ref ac), (1, .int (nI x))], [.int 61, .int (nI mj)], M)) rfl rfl rfl ?_
                refine ps_if2 (S1 := (155, [], [], M)) (S2 := (139, [(0, .ref ac), (1, .int (nI x))], [], M)) rfl rfl rfl (fun c_136 => ?_) (fun c_136 => ?_)
                · have c_136 : (nI mj) < 61 := of_decide_eq_true c_136
                  have n_136 : mj < 61 := (lt_nI (p := mj) (n := 61) (by omega) (by decide)).mp c_136
                  refine ps_st (S' := (156, [], [.int 0], M)) rfl rfl rfl ?_
                  exact ps_ret rfl rfl (⟨congrArg (fun x => some (Value.int (nI x))) (show 0 = ckN f n E mj x from by
                      unfold ckN
                      first | ((repeat first | rw [if_pos (by omega)] | rw [if_neg (by omega)]) <;> first | rfl | omega) | ((repeat' split) <;> first | rfl | (exfalso; omega) | omega)), rfl⟩)
                · have c_136 : ¬ ((nI mj) < 61) := of_decide_eq_false c_136
                  have n_136 : ¬ (mj < 61) := fun h9 => c_136 ((lt_nI (p := mj) (n := 61) (by omega) (by decide)).mpr h9)
                  refine ps_st (S' := (140, [(0, .ref ac), (1, .int (nI x))], [.ref ac], M)) rfl rfl rfl ?_
                  refine ps_get (S' := (143, [(0, .ref ac), (1, .int (nI x))], [.ref q], M)) rfl h_ac rfl rfl ?_
                  refine ps_st (S' := (144, [(0, .ref ac), (1, .int (nI x))], [.int (nI x), .ref q], M)) rfl rfl rfl ?_
                  refine ps_st (S' := (146, [(0, .ref ac), (1, .int (nI x))], [.ref (g.2.1 8), .int (nI x), .ref q], M)) rfl rfl rfl ?_
                  refine pl_call (a := [.ref q, .int (nI x), .ref (g.2.1 8)]) (rest := []) rfl rfl rfl (dy_textIs (f := f) (n := n) (N := N) (q := q) (E := E) (j := x) (k := 8) (hV) (by omega) (by decide)) (fun v64 M65 q66 => ?_)
                  obtain ⟨rfl, rfl⟩ := q66
                  show pl _ _ _ (149, [(0, .ref ac), (1, .int (nI x))], [.int (nI (eqN (tX f n E x) (ltx 8)))], M) _
                  refine ps_if (S1 := (155, [], [], M)) (S2 := (152, [(0, .ref ac), (1, .int (nI x))], [], M)) rfl rfl rfl (fun c_149 => ?_) (fun c_149 => ?_)
                  · have c_149 : (nI (eqN (tX f n E x) (ltx 8))) = 0 := of_decide_eq_true c_149
                    have n_149 : eqN (tX f n E x) (ltx 8) = 0 := (eq_nI (p := eqN (tX f n E x) (ltx 8)) (n := 0) (Nat.lt_trans (le1_eq _ _) (by decide)) (by decide)).mp c_149
                    refine ps_st (S' := (156, [], [.int 0], M)) rfl rfl rfl ?_
                    exact ps_ret rfl rfl (⟨congrArg (fun x => some (Value.int (nI x))) (show 0 = ckN f n E mj x from by
                        unfold ckN
                        first | ((repeat first | rw [if_pos (by omega)] | rw [if_neg (by omega)]) <;> first | rfl | omega) | ((repeat' split) <;> first | rfl | (exfalso; omega) | omega)), rfl⟩)
                  · have c_149 : ¬ ((nI (eqN (tX f n E x) (ltx 8))) = 0) := of_decide_eq_false c_149
                    have n_149 : ¬ (eqN (tX f n E x) (ltx 8) = 0) := fun h9 => c_149 ((eq_nI (p := eqN (tX f n E x) (ltx 8)) (n := 0) (Nat.lt_trans (le1_eq _ _) (by decide)) (by decide)).mpr h9)
                    refine ps_st (S' := (154, [(0, .ref ac), (1, .int (nI x))], [.int 10], M)) rfl rfl rfl ?_
                    exact ps_ret rfl rfl (⟨congrArg (fun x => some (Value.int (nI x))) (show 10 = ckN f n E mj x from by
                        unfold ckN
                        first | ((repeat first | rw [if_pos (by omega)] | rw [if_neg (by omega)]) <;> first | rfl | omega) | ((repeat' split) <;> first | rfl | (exfalso; omega) | omega)), rfl⟩)
              · have c_108 : ¬ ((nI mj) < 60) := of_decide_eq_false c_108
                have n_108 : ¬ (mj < 60) := fun h9 => c_108 ((lt_nI (p := mj) (n := 60) (by omega) (by decide)).mpr h9)
                refine ps_st (S' := (112, [(0, .ref ac), (1, .int (nI x))], [.ref ac], M)) rfl rfl rfl ?_
                refine ps_get (S' := (115, [(0, .ref ac), (1, .int (nI x))], [.ref q], M)) rfl h_ac rfl rfl ?_
                refine ps_st (S' := (116, [(0, .ref ac), (1, .int (nI x))], [.int (nI x), .ref q], M)) rfl rfl rfl ?_
                refine ps_st (S' := (118, [(0, .ref ac), (1, .int (nI x))], [.ref (g.2.1 7), .int (nI x), .ref q], M)) rfl rfl rfl ?_
                refine pl_call (a := [.ref q, .int (nI x), .ref (g.2.1 7)]) (rest := []) rfl rfl rfl (dy_textIs (f := f) (n := n) (N := N) (q := q) (E := E) (j := x) (k := 7) (hV) (by omega) (by decide)) (fun v67 M68 q69 => ?_)
                obtain ⟨rfl, rfl⟩ := q69
                show pl _ _ _ (121, [(0, .ref ac), (1, .int (nI x))], [.int (nI (eqN (tX f n E x) (ltx 7)))], M) _
                refine ps_if (S1 := (127, [(0, .ref ac), (1, .int (nI x))], [], M)) (S2 := (124, [(0, .ref ac), (1, .int (nI x))], [], M)) rfl rfl rfl (fun c_121 => ?_) (fun c_121 => ?_)
                · have c_121 : (nI (eqN (tX f n E x) (ltx 7))) = 0 := of_decide_eq_true c_121
                  have n_121 : eqN (tX f n E x) (ltx 7) = 0 := (eq_nI (p := eqN (tX f n E x) (ltx 7)) (n := 0) (Nat.lt_trans (le1_eq _ _) (by decide)) (by decide)).mp c_121
                  refine ps_st (S' := (128, [(0, .ref ac), (1, .int (nI x))], [.ref ac], M)) rfl rfl rfl ?_
                  refine ps_get (S' := (131, [(0, .ref ac), (1, .int (nI x))], [.ref c], M)) rfl h_ac rfl rfl ?_
                  refine ps_get (S' := (134, [(0, .ref ac), (1, .int (nI x))], [.int (nI mj)], M)) rfl h_c rfl rfl ?_
                  refine ps_st (S' := (136, [(0, .ref ac), (1, .int (nI x))], [.int 61, .int (nI mj)], M)) rfl rfl rfl ?_
                  refine ps_if2 (S1 := (155, [], [], M)) (S2 := (139, [(0, .ref ac), (1, .int (nI x))], [], M)) rfl rfl rfl (fun c_136 => ?_) (fun c_136 => ?_)
                  · have c_136 : (nI mj) < 61 := of_decide_eq_true c_136
                    have n_136 : mj < 61 := (lt_nI (p := mj) (n := 61) (by omega) (by decide)).mp c_136
                    refine ps_st (S' := (156, [], [.int 0], M)) rfl rfl rfl ?_
                    exact ps_ret rfl rfl (⟨congrArg (fun x => some (Value.int (nI x))) (show 0 = ckN f n E mj x from by
                        unfold ckN
                        first | ((repeat first | rw [if_pos (by omega)] | rw [if_neg (by omega)]) <;> first | rfl | omega) | ((repeat' split) <;> first | rfl | (exfalso; omega) | omega)), rfl⟩)
                  · have c_136 : ¬ ((nI mj) < 61) := of_decide_eq_false c_136
                    have n_136 : ¬ (mj < 61) := fun h9 => c_136 ((lt_nI (p := mj) (n := 61) (by omega) (by decide)).mpr h9)
                    refine ps_st (S' := (140, [(0, .ref ac), (1, .int (nI x))], [.ref ac], M)) rfl rfl rfl ?_
                    refine ps_get (S' := (143, [(0, .ref ac), (1, .int (nI x))], [.ref q], M)) rfl h_ac rfl rfl ?_
                    refine ps_st (S' := (144, [(0, .ref ac), (1, .int (nI x))], [.int (nI x), .ref q], M)) rfl rfl rfl ?_
                    refine ps_st (S' := (146, [(0, .ref ac), (1, .int (nI x))], [.ref (g.2.1 8), .int (nI x), .ref q], M)) rfl rfl rfl ?_
                    refine pl_call (a := [.ref q, .int (nI x), .ref (g.2.1 8)]) (rest := []) rfl rfl rfl (dy_textIs (f := f) (n := n) (N := N) (q := q) (E := E) (j := x) (k := 8) (hV) (by omega) (by decide)) (fun v70 M71 q72 => ?_)
                    obtain ⟨rfl, rfl⟩ := q72
                    show pl _ _ _ (149, [(0, .ref ac), (1, .int (nI x))], [.int (nI (eqN (tX f n E x) (ltx 8)))], M) _
                    refine ps_if (S1 := (155, [], [], M)) (S2 := (152, [(0, .ref ac), (1, .int (nI x))], [], M)) rfl rfl rfl (fun c_149 => ?_) (fun c_149 => ?_)
                    · have c_149 : (nI (eqN (tX f n E x) (ltx 8))) = 0 := of_decide_eq_true c_149
                      have n_149 : eqN (tX f n E x) (ltx 8) = 0 := (eq_nI (p := eqN (tX f n E x) (ltx 8)) (n := 0) (Nat.lt_trans (le1_eq _ _) (by decide)) (by decide)).mp c_149
                      refine ps_st (S' := (156, [], [.int 0], M)) rfl rfl rfl ?_
                      exact ps_ret rfl rfl (⟨congrArg (fun x => some (Value.int (nI x))) (show 0 = ckN f n E mj x from by
                          unfold ckN
                          first | ((repeat first | rw [if_pos (by omega)] | rw [if_neg (by omega)]) <;> first | rfl | omega) | ((repeat' split) <;> first | rfl | (exfalso; omega) | omega)), rfl⟩)
                    · have c_149 : ¬ ((nI (eqN (tX f n E x) (ltx 8))) = 0) := of_decide_eq_false c_149
                      have n_149 : ¬ (eqN (tX f n E x) (ltx 8) = 0) := fun h9 => c_149 ((eq_nI (p := eqN (tX f n E x) (ltx 8)) (n := 0) (Nat.lt_trans (le1_eq _ _) (by decide)) (by decide)).mpr h9)
                      refine ps_st (S' := (154, [(0, .ref ac), (1, .int (nI x))], [.int 10], M)) rfl rfl rfl ?_
                      exact ps_ret rfl rfl (⟨congrArg (fun x => some (Value.int (nI x))) (show 10 = ckN f n E mj x from by
                          unfold ckN
                          first | ((repeat first | rw [if_pos (by omega)] | rw [if_neg (by omega)]) <;> first | rfl | omega) | ((repeat' split) <;> first | rfl | (exfalso; omega) | omega)), rfl⟩)
                · have c_121 : ¬ ((nI (eqN (tX f n E x) (ltx 7))) = 0) := of_decide_eq_false c_121
                  have n_121 : ¬ (eqN (tX f n E x) (ltx 7) = 0) := fun h9 => c_121 ((eq_nI (p := eqN (tX f n E x) (ltx 7)) (n := 0) (Nat.lt_trans (le1_eq _ _) (by decide)) (by decide)).mpr h9)
                  refine ps_st (S' := (126, [(0, .ref ac), (1, .int (nI x))], [.int 9], M)) rfl rfl rfl ?_
                  exact ps_ret rfl rfl (⟨congrArg (fun x => some (Value.int (nI x))) (show 9 = ckN f n E mj x from by
                      unfold ckN
                      first | ((repeat first | rw [if_pos (by omega)] | rw [if_neg (by omega)]) <;> first | rfl | omega) | ((repeat' split) <;> first | rfl | (exfalso; omega) | omega)), rfl⟩)
            · have c_93 : ¬ ((nI (eqN (tX f n E x) (ltx 6))) = 0) := of_decide_eq_false c_93
              have n_93 : ¬ (eqN (tX f n E x) (ltx 6) = 0) := fun h9 => c_93 ((eq_nI (p := eqN (tX f n E x) (ltx 6)) (n := 0) (Nat.lt_trans (le1_eq _ _) (by decide)) (by decide)).mpr h9)
              refine ps_st (S' := (98, [(0, .ref ac), (1, .int (nI x))], [.int 8], M)) rfl rfl rfl ?_
              exact ps_ret rfl rfl (⟨congrArg (fun x => some (Value.int (nI x))) (show 8 = ckN f n E mj x from by
                  unfold ckN
                  first | ((repeat first | rw [if_pos (by omega)] | rw [if_neg (by omega)]) <;> first | rfl | omega) | ((repeat' split) <;> first | rfl | (exfalso; omega) | omega)), rfl⟩)
        · have c_52 : ¬ ((nI mj) < 55) := of_decide_eq_false c_52
          have n_52 : ¬ (mj < 55) := fun h9 => c_52 ((lt_nI (p := mj) (n := 55) (by omega) (by decide)).mpr h9)
          refine ps_st (S' := (56, [(0, .ref ac), (1, .int (nI x))], [.ref ac], M)) rfl rfl rfl ?_
          refine ps_get (S' := (59, [(0, .ref ac), (1, .int (nI x))], [.ref q], M)) rfl h_ac rfl rfl ?_
          refine ps_st (S' := (60, [(0, .ref ac), (1, .int (nI x))], [.int (nI x), .ref q], M)) rfl rfl rfl ?_
          refine ps_st (S' := (62, [(0, .ref ac), (1, .int (nI x))], [.ref (g.2.1 5), .int (nI x), .ref q], M)) rfl rfl rfl ?_
          refine pl_call (a := [.ref q, .int (nI x), .ref (g.2.1 5)]) (rest := []) rfl rfl rfl (dy_textIs (f := f) (n := n) (N := N) (q := q) (E := E) (j := x) (k := 5) (hV) (by omega) (by decide)) (fun v73 M74 q75 => ?_)
          obtain ⟨rfl, rfl⟩ := q75
          show pl _ _ _ (65, [(0, .ref ac), (1, .int (nI x))], [.int (nI (eqN (tX f n E x) (ltx 5)))], M) _
          refine ps_if (S1 := (71, [(0, .ref ac), (1, .int (nI x))], [], M)) (S2 := (68, [(0, .ref ac), (1, .int (nI x))], [], M)) rfl rfl rfl (fun c_65 => ?_) (fun c_65 => ?_)
          · have c_65 : (nI (eqN (tX f n E x) (ltx 5))) = 0 := of_decide_eq_true c_65
            have n_65 : eqN (tX f n E x) (ltx 5) = 0 := (eq_nI (p := eqN (tX f n E x) (ltx 5)) (n := 0) (Nat.lt_trans (le1_eq _ _) (by decide)) (by decide)).mp c_65
            refine ps_st (S' := (72, [(0, .ref ac), (1, .int (nI x))], [.ref ac], M)) rfl rfl rfl ?_
            refine ps_get (S' := (75, [(0, .ref ac), (1, .int (nI x))], [.ref c], M)) rfl h_ac rfl rfl ?_
            refine ps_get (S' := (78, [(0, .ref ac), (1, .int (nI x))], [.int (nI mj)], M)) rfl h_c rfl rfl ?_
            refine ps_st (S' := (80, [(0, .ref ac), (1, .int (nI x))], [.int 55, .int (nI mj)], M)) rfl rfl rfl ?_
            refine ps_if2 (S1 := (99, [(0, .ref ac), (1, .int (nI x))], [], M)) (S2 := (83, [(0, .ref ac), (1, .int (nI x))], [], M)) rfl rfl rfl (fun c_80 => ?_) (fun c_80 => ?_)
            · have c_80 : (nI mj) < 55 := of_decide_eq_true c_80
              have n_80 : mj < 55 := (lt_nI (p := mj) (n := 55) (by omega) (by decide)).mp c_80
              refine ps_st (S' := (100, [(0, .ref ac), (1, .int (nI x))], [.ref ac], M)) rfl rfl rfl ?_
              refine ps_get (S' := (103, [(0, .ref ac), (1, .int (nI x))], [.ref c], M)) rfl h_ac rfl rfl ?_
              refine ps_get (S' := (106, [(0, .ref ac), (1, .int (nI x))], [.int (nI mj)], M)) rfl h_c rfl rfl ?_
              refine ps_st (S' := (108, [(0, .ref ac), (1, .int (nI x))], [.int 60, .int (nI mj)], M)) rfl rfl rfl ?_
              refine ps_if2 (S1 := (127, [(0, .ref ac), (1, .int (nI x))], [], M)) (S2 := (111, [(0, .ref ac), (1, .int (nI x))], [], M)) rfl rfl rfl (fun c_108 => ?_) (fun c_108 => ?_)
              · have c_108 : (nI mj) < 60 := of_decide_eq_true c_108
                have n_108 : mj < 60 := (lt_nI (p := mj) (n := 60) (by omega) (by decide)).mp c_108
                refine ps_st (S' := (128, [(0, .ref ac), (1, .int (nI x))], [.ref ac], M)) rfl rfl rfl ?_
                refine ps_get (S' := (131, [(0, .ref ac), (1, .int (nI x))], [.ref c], M)) rfl h_ac rfl rfl ?_
                refine ps_get (S' := (134, [(0, .ref ac), (1, .int (nI x))], [.int (nI mj)], M)) rfl h_c rfl rfl ?_
                refine ps_st (S' := (136, [(0, .ref ac), (1, .int (nI x))], [.int 61, .int (nI mj)], M)) rfl rfl rfl ?_
                refine ps_if2 (S1 := (155, [], [], M)) (S2 := (139, [(0, .ref ac), (1, .int (nI x))], [], M)) rfl rfl rfl (fun c_136 => ?_) (fun c_136 => ?_)
                · have c_136 : (nI mj) < 61 := of_decide_eq_true c_136
                  have n_136 : mj < 61 := (lt_nI (p := mj) (n := 61) (by omega) (by decide)).mp c_136
                  refine ps_st (S' := (156, [], [.int 0], M)) rfl rfl rfl ?_
                  exact ps_ret rfl rfl (⟨congrArg (fun x => some (Value.int (nI x))) (show 0 = ckN f n E mj x from by
                      unfold ckN
                      first | ((repeat first | rw [if_pos (by omega)] | rw [if_neg (by omega)]) <;> first | rfl | omega) | ((repeat' split) <;> first | rfl | (exfalso; omega) | omega)), rfl⟩)
                · have c_136 : ¬ ((nI mj) < 61) := of_decide_eq_false c_136
                  have n_136 : ¬ (mj < 61) := fun h9 => c_136 ((lt_nI (p := mj) (n := 61) (by omega) (by decide)).mpr h9)
                  refine ps_st (S' := (140, [(0, .ref ac), (1, .int (nI x))], [.ref ac], M)) rfl rfl rfl ?_
                  refine ps_get (S' := (143, [(0, .ref ac), (1, .int (nI x))], [.ref q], M)) rfl h_ac rfl rfl ?_
                  refine ps_st (S' := (144, [(0, .ref ac), (1, .int (nI x))], [.int (nI x), .ref q], M)) rfl rfl rfl ?_
                  refine ps_st (S' := (146, [(0, .ref ac), (1, .int (nI x))], [.ref (g.2.1 8), .int (nI x), .ref q], M)) rfl rfl rfl ?_
                  refine pl_call (a := [.ref q, .int (nI x), .ref (g.2.1 8)]) (rest := []) rfl rfl rfl (dy_textIs (f := f) (n := n) (N := N) (q := q) (E := E) (j := x) (k := 8) (hV) (by omega) (by decide)) (fun v76 M77 q78 => ?_)
                  obtain ⟨rfl, rfl⟩ := q78
                  show pl _ _ _ (149, [(0, .ref ac), (1, .int (nI x))], [.int (nI (eqN (tX f n E x) (ltx 8)))], M) _
                  refine ps_if (S1 := (155, [], [], M)) (S2 := (152, [(0, .ref ac), (1, .int (nI x))], [], M)) rfl rfl rfl (fun c_149 => ?_) (fun c_149 => ?_)
                  · have c_149 : (nI (eqN (tX f n E x) (ltx 8))) = 0 := of_decide_eq_true c_149
                    have n_149 : eqN (tX f n E x) (ltx 8) = 0 := (eq_nI (p := eqN (tX f n E x) (ltx 8)) (n := 0) (Nat.lt_trans (le1_eq _ _) (by decide)) (by decide)).mp c_149
                    refine ps_st (S' := (156, [], [.int 0], M)) rfl rfl rfl ?_
                    exact ps_ret rfl rfl (⟨congrArg (fun x => some (Value.int (nI x))) (show 0 = ckN f n E mj x from by
                        unfold ckN
                        first | ((repeat first | rw [if_pos (by omega)] | rw [if_neg (by omega)]) <;> first | rfl | omega) | ((repeat' split) <;> first | rfl | (exfalso; omega) | omega)), rfl⟩)
                  · have c_149 : ¬ ((nI (eqN (tX f n E x) (ltx 8))) = 0) := of_decide_eq_false c_149
                    have n_149 : ¬ (eqN (tX f n E x) (ltx 8) = 0) := fun h9 => c_149 ((eq_nI (p := eqN (tX f n E x) (ltx 8)) (n := 0) (Nat.lt_trans (le1_eq _ _) (by decide)) (by decide)).mpr h9)
                    refine ps_st (S' := (154, [(0, .ref ac), (1, .int (nI x))], [.int 10], M)) rfl rfl rfl ?_
                    exact ps_ret rfl rfl (⟨congrArg (fun x => some (Value.int (nI x))) (show 10 = ckN f n E mj x from by
                        unfold ckN
                        first | ((repeat first | rw [if_pos (by omega)] | rw [if_neg (by omega)]) <;> first | rfl | omega) | ((repeat' split) <;> first | rfl | (exfalso; omega) | omega)), rfl⟩)
              · have c_108 : ¬ ((nI mj) < 60) := of_decide_eq_false c_108
                have n_108 : ¬ (mj < 60) := fun h9 => c_108 ((lt_nI (p := mj) (n := 60) (by omega) (by decide)).mpr h9)
                refine ps_st (S' := (112, [(0, .ref ac), (1, .int (nI x))], [.ref ac], M)) rfl rfl rfl ?_
                refine ps_get (S' := (115, [(0, .ref ac), (1, .int (nI x))], [.ref q], M)) rfl h_ac rfl rfl ?_
                refine ps_st (S' := (116, [(0, .ref ac), (1, .int (nI x))], [.int (nI x), .ref q], M)) rfl rfl rfl ?_
                refine ps_st (S' := (118, [(0, .ref ac), (1, .int (nI x))], [.ref (g.2.1 7), .int (nI x), .ref q], M)) rfl rfl rfl ?_
                refine pl_call (a := [.ref q, .int (nI x), .ref (g.2.1 7)]) (rest := []) rfl rfl rfl (dy_textIs (f := f) (n := n) (N := N) (q := q) (E := E) (j := x) (k := 7) (hV) (by omega) (by decide)) (fun v79 M80 q81 => ?_)
                obtain ⟨rfl, rfl⟩ := q81
                show pl _ _ _ (121, [(0, .ref ac), (1, .int (nI x))], [.int (nI (eqN (tX f n E x) (ltx 7)))], M) _
                refine ps_if (S1 := (127, [(0, .ref ac), (1, .int (nI x))], [], M)) (S2 := (124, [(0, .ref ac), (1, .int (nI x))], [], M)) rfl rfl rfl (fun c_121 => ?_) (fun c_121 => ?_)
                · have c_121 : (nI (eqN (tX f n E x) (ltx 7))) = 0 := of_decide_eq_true c_121
                  have n_121 : eqN (tX f n E x) (ltx 7) = 0 := (eq_nI (p := eqN (tX f n E x) (ltx 7)) (n := 0) (Nat.lt_trans (le1_eq _ _) (by decide)) (by decide)).mp c_121
                  refine ps_st (S' := (128, [(0, .ref ac), (1, .int (nI x))], [.ref ac], M)) rfl rfl rfl ?_
                  refine ps_get (S' := (131, [(0, .ref ac), (1, .int (nI x))], [.ref c], M)) rfl h_ac rfl rfl ?_
                  refine ps_get (S' := (134, [(0, .ref ac), (1, .int (nI x))], [.int (nI mj)], M)) rfl h_c rfl rfl ?_
                  refine ps_st (S' := (136, [(0, .ref ac), (1, .int (nI x))], [.int 61, .int (nI mj)], M)) rfl rfl rfl ?_
                  refine ps_if2 (S1 := (155, [], [], M)) (S2 := (139, [(0, .ref ac), (1, .int (nI x))], [], M)) rfl rfl rfl (fun c_136 => ?_) (fun c_136 => ?_)
                  · have c_136 : (nI mj) < 61 := of_decide_eq_true c_136
                    have n_136 : mj < 61 := (lt_nI (p := mj) (n := 61) (by omega) (by decide)).mp c_136
                    refine ps_st (S' := (156, [], [.int 0], M)) rfl rfl rfl ?_
                    exact ps_ret rfl rfl (⟨congrArg (fun x => some (Value.int (nI x))) (show 0 = ckN f n E mj x from by
                        unfold ckN
                        first | ((repeat first | rw [if_pos (by omega)] | rw [if_neg (by omega)]) <;> first | rfl | omega) | ((repeat' split) <;> first | rfl | (exfalso; omega) | omega)), rfl⟩)
                  · have c_136 : ¬ ((nI mj) < 61) := of_decide_eq_false c_136
                    have n_136 : ¬ (mj < 61) := fun h9 => c_136 ((lt_nI (p := mj) (n := 61) (by omega) (by decide)).mpr h9)
                    refine ps_st (S' := (140, [(0, .ref ac), (1, .int (nI x))], [.ref ac], M)) rfl rfl rfl ?_
                    refine ps_get (S' := (143, [(0, .ref ac), (1, .int (nI x))], [.ref q], M)) rfl h_ac rfl rfl ?_
                    refine ps_st (S' := (144, [(0, .ref ac), (1, .int (nI x))], [.int (nI x), .ref q], M)) rfl rfl rfl ?_
                    refine ps_st (S' := (146, [(0, .ref ac), (1, .int (nI x))], [.ref (g.2.1 8), .int (nI x), .ref q], M)) rfl rfl rfl ?_
                    refine pl_call (a := [.ref q, .int (nI x), .ref (g.2.1 8)]) (rest := []) rfl rfl rfl (dy_textIs (f := f) (n := n) (N := N) (q := q) (E := E) (j := x) (k := 8) (hV) (by omega) (by decide)) (fun v82 M83 q84 => ?_)
                    obtain ⟨rfl, rfl⟩ := q84
                    show pl _ _ _ (149, [(0, .ref ac), (1, .int (nI x))], [.int (nI (eqN (tX f n E x) (ltx 8)))], M) _
                    refine ps_if (S1 := (155, [], [], M)) (S2 := (152, [(0, .ref ac), (1, .int (nI x))], [], M)) rfl rfl rfl (fun c_149 => ?_) (fun c_149 => ?_)
                    · have c_149 : (nI (eqN (tX f n E x) (ltx 8))) = 0 := of_decide_eq_true c_149
                      have n_149 : eqN (tX f n E x) (ltx 8) = 0 := (eq_nI (p := eqN (tX f n E x) (ltx 8)) (n := 0) (Nat.lt_trans (le1_eq _ _) (by decide)) (by decide)).mp c_149
                      refine ps_st (S' := (156, [], [.int 0], M)) rfl rfl rfl ?_
                      exact ps_ret rfl rfl (⟨congrArg (fun x => some (Value.int (nI x))) (show 0 = ckN f n E mj x from by
                          unfold ckN
                          first | ((repeat first | rw [if_pos (by omega)] | rw [if_neg (by omega)]) <;> first | rfl | omega) | ((repeat' split) <;> first | rfl | (exfalso; omega) | omega)), rfl⟩)
                    · have c_149 : ¬ ((nI (eqN (tX f n E x) (ltx 8))) = 0) := of_decide_eq_false c_149
                      have n_149 : ¬ (eqN (tX f n E x) (ltx 8) = 0) := fun h9 => c_149 ((eq_nI (p := eqN (tX f n E x) (ltx 8)) (n := 0) (Nat.lt_trans (le1_eq _ _) (by decide)) (by decide)).mpr h9)
                      refine ps_st (S' := (154, [(0, .ref ac), (1, .int (nI x))], [.int 10], M)) rfl rfl rfl ?_
                      exact ps_ret rfl rfl (⟨congrArg (fun x => some (Value.int (nI x))) (show 10 = ckN f n E mj x from by
                          unfold ckN
                          first | ((repeat first | rw [if_pos (by omega)] | rw [if_neg (by omega)]) <;> first | rfl | omega) | ((repeat' split) <;> first | rfl | (exfalso; omega) | omega)), rfl⟩)
                · have c_121 : ¬ ((nI (eqN (tX f n E x) (ltx 7))) = 0) := of_decide_eq_false c_121
                  have n_121 : ¬ (eqN (tX f n E x) (ltx 7) = 0) := fun h9 => c_121 ((eq_nI (p := eqN (tX f n E x) (ltx 7)) (n := 0) (Nat.lt_trans (le1_eq _ _) (by decide)) (by decide)).mpr h9)
                  refine ps_st (S' := (126, [(0, .ref ac), (1, .int (nI x))], [.int 9], M)) rfl rfl rfl ?_
                  exact ps_ret rfl rfl (⟨congrArg (fun x => some (Value.int (nI x))) (show 9 = ckN f n E mj x from by
                      unfold ckN
                      first | ((repeat first | rw [if_pos (by omega)] | rw [if_neg (by omega)]) <;> first | rfl | omega) | ((repeat' split) <;> first | rfl | (exfalso; omega) | omega)), rfl⟩)
            · have c_80 : ¬ ((nI mj) < 55) := of_decide_eq_false c_80
              have n_80 : ¬ (mj < 55) := fun h9 => c_80 ((lt_nI (p := mj) (n := 55) (by omega) (by decide)).mpr h9)
              refine ps_st (S' := (84, [(0, .ref ac), (1, .int (nI x))], [.ref ac], M)) rfl rfl rfl ?_
              refine ps_get (S' := (87, [(0, .ref ac), (1, .int (nI x))], [.ref q], M)) rfl h_ac rfl rfl ?_
              refine ps_st (S' := (88, [(0, .ref ac), (1, .int (nI x))], [.int (nI x), .ref q], M)) rfl rfl rfl ?_
              refine ps_st (S' := (90, [(0, .ref ac), (1, .int (nI x))], [.ref (g.2.1 6), .int (nI x), .ref q], M)) rfl rfl rfl ?_
              refine pl_call (a := [.ref q, .int (nI x), .ref (g.2.1 6)]) (rest := []) rfl rfl rfl (dy_textIs (f := f) (n := n) (N := N) (q := q) (E := E) (j := x) (k := 6) (hV) (by omega) (by decide)) (fun v85 M86 q87 => ?_)
              obtain ⟨rfl, rfl⟩ := q87
              show pl _ _ _ (93, [(0, .ref ac), (1, .int (nI x))], [.int (nI (eqN (tX f n E x) (ltx 6)))], M) _
              refine ps_if (S1 := (99, [(0, .ref ac), (1, .int (nI x))], [], M)) (S2 := (96, [(0, .ref ac), (1, .int (nI x))], [], M)) rfl rfl rfl (fun c_93 => ?_) (fun c_93 => ?_)
              · have c_93 : (nI (eqN (tX f n E x) (ltx 6))) = 0 := of_decide_eq_true c_93
                have n_93 : eqN (tX f n E x) (ltx 6) = 0 := (eq_nI (p := eqN (tX f n E x) (ltx 6)) (n := 0) (Nat.lt_trans (le1_eq _ _) (by decide)) (by decide)).mp c_93
                refine ps_st (S' := (100, [(0, .ref ac), (1, .int (nI x))], [.ref ac], M)) rfl rfl rfl ?_
                refine ps_get (S' := (103, [(0, .ref ac), (1, .int (nI x))], [.ref c], M)) rfl h_ac rfl rfl ?_
                refine ps_get (S' := (106, [(0, .ref ac), (1, .int (nI x))], [.int (nI mj)], M)) rfl h_c rfl rfl ?_
                refine ps_st (S' := (108, [(0, .ref ac), (1, .int (nI x))], [.int 60, .int (nI mj)], M)) rfl rfl rfl ?_
                refine ps_if2 (S1 := (127, [(0, .ref ac), (1, .int (nI x))], [], M)) (S2 := (111, [(0, .ref ac), (1, .int (nI x))], [], M)) rfl rfl rfl (fun c_108 => ?_) (fun c_108 => ?_)
                · have c_108 : (nI mj) < 60 := of_decide_eq_true c_108
                  have n_108 : mj < 60 := (lt_nI (p := mj) (n := 60) (by omega) (by decide)).mp c_108
                  refine ps_st (S' := (128, [(0, .ref ac), (1, .int (nI x))], [.ref ac], M)) rfl rfl rfl ?_
                  refine ps_get (S' := (131, [(0, .ref ac), (1, .int (nI x))], [.ref c], M)) rfl h_ac rfl rfl ?_
                  refine ps_get (S' := (134, [(0, .ref ac), (1, .int (nI x))], [.int (nI mj)], M)) rfl h_c rfl rfl ?_
                  refine ps_st (S' := (136, [(0, .ref ac), (1, .int (nI x))], [.int 61, .int (nI mj)], M)) rfl rfl rfl ?_
                  refine ps_if2 (S1 := (155, [], [], M)) (S2 := (139, [(0, .ref ac), (1, .int (nI x))], [], M)) rfl rfl rfl (fun c_136 => ?_) (fun c_136 => ?_)
                  · have c_136 : (nI mj) < 61 := of_decide_eq_true c_136
                    have n_136 : mj < 61 := (lt_nI (p := mj) (n := 61) (by omega) (by decide)).mp c_136
                    refine ps_st (S' := (156, [], [.int 0], M)) rfl rfl rfl ?_
                    exact ps_ret rfl rfl (⟨congrArg (fun x => some (Value.int (nI x))) (show 0 = ckN f n E mj x from by
                        unfold ckN
                        first | ((repeat first | rw [if_pos (by omega)] | rw [if_neg (by omega)]) <;> first | rfl | omega) | ((repeat' split) <;> first | rfl | (exfalso; omega) | omega)), rfl⟩)
                  · have c_136 : ¬ ((nI mj) < 61) := of_decide_eq_false c_136
                    have n_136 : ¬ (mj < 61) := fun h9 => c_136 ((lt_nI (p := mj) (n := 61) (by omega) (by decide)).mpr h9)
                    refine ps_st (S' := (140, [(0, .ref ac), (1, .int (nI x))], [.ref ac], M)) rfl rfl rfl ?_
                    refine ps_get (S' := (143, [(0, .ref ac), (1, .int (nI x))], [.ref q], M)) rfl h_ac rfl rfl ?_
                    refine ps_st (S' := (144, [(0, .ref ac), (1, .int (nI x))], [.int (nI x), .ref q], M)) rfl rfl rfl ?_
                    refine ps_st (S' := (146, [(0, .ref ac), (1, .int (nI x))], [.ref (g.2.1 8), .int (nI x), .ref q], M)) rfl rfl rfl ?_
                    refine pl_call (a := [.ref q, .int (nI x), .ref (g.2.1 8)]) (rest := []) rfl rfl rfl (dy_textIs (f := f) (n := n) (N := N) (q := q) (E := E) (j := x) (k := 8) (hV) (by omega) (by decide)) (fun v88 M89 q90 => ?_)
                    obtain ⟨rfl, rfl⟩ := q90
                    show pl _ _ _ (149, [(0, .ref ac), (1, .int (nI x))], [.int (nI (eqN (tX f n E x) (ltx 8)))], M) _
                    refine ps_if (S1 := (155, [], [], M)) (S2 := (152, [(0, .ref ac), (1, .int (nI x))], [], M)) rfl rfl rfl (fun c_149 => ?_) (fun c_149 => ?_)
                    · have c_149 : (nI (eqN (tX f n E x) (ltx 8))) = 0 := of_decide_eq_true c_149
                      have n_149 : eqN (tX f n E x) (ltx 8) = 0 := (eq_nI (p := eqN (tX f n E x) (ltx 8)) (n := 0) (Nat.lt_trans (le1_eq _ _) (by decide)) (by decide)).mp c_149
                      refine ps_st (S' := (156, [], [.int 0], M)) rfl rfl rfl ?_
                      exact ps_ret rfl rfl (⟨congrArg (fun x => some (Value.int (nI x))) (show 0 = ckN f n E mj x from by
                          unfold ckN
                          first | ((repeat first | rw [if_pos (by omega)] | rw [if_neg (by omega)]) <;> first | rfl | omega) | ((repeat' split) <;> first | rfl | (exfalso; omega) | omega)), rfl⟩)
                    · have c_149 : ¬ ((nI (eqN (tX f n E x) (ltx 8))) = 0) := of_decide_eq_false c_149
                      have n_149 : ¬ (eqN (tX f n E x) (ltx 8) = 0) := fun h9 => c_149 ((eq_nI (p := eqN (tX f n E x) (ltx 8)) (n := 0) (Nat.lt_trans (le1_eq _ _) (by decide)) (by decide)).mpr h9)
                      refine ps_st (S' := (154, [(0, .ref ac), (1, .int (nI x))], [.int 10], M)) rfl rfl rfl ?_
                      exact ps_ret rfl rfl (⟨congrArg (fun x => some (Value.int (nI x))) (show 10 = ckN f n E mj x from by
                          unfold ckN
                          first | ((repeat first | rw [if_pos (by omega)] | rw [if_neg (by omega)]) <;> first | rfl | omega) | ((repeat' split) <;> first | rfl | (exfalso; omega) | omega)), rfl⟩)
                · have c_108 : ¬ ((nI mj) < 60) := of_decide_eq_false c_108
                  have n_108 : ¬ (mj < 60) := fun h9 => c_108 ((lt_nI (p := mj) (n := 60) (by omega) (by decide)).mpr h9)
                  refine ps_st (S' := (112, [(0, .ref ac), (1, .int (nI x))], [.ref ac], M)) rfl rfl rfl ?_
                  refine ps_get (S' := (115, [(0, .ref ac), (1, .int (nI x))], [.ref q], M)) rfl h_ac rfl rfl ?_
                  refine ps_st (S' := (116, [(0, .ref ac), (1, .int (nI x))], [.int (nI x), .ref q], M)) rfl rfl rfl ?_
                  refine ps_st (S' := (118, [(0, .ref ac), (1, .int (nI x))], [.ref (g.2.1 7), .int (nI x), .ref q], M)) rfl rfl rfl ?_
                  refine pl_call (a := [.ref q, .int (nI x), .ref (g.2.1 7)]) (rest := []) rfl rfl rfl (dy_textIs (f := f) (n := n) (N := N) (q := q) (E := E) (j := x) (k := 7) (hV) (by omega) (by decide)) (fun v91 M92 q93 => ?_)
                  obtain ⟨rfl, rfl⟩ := q93
                  show pl _ _ _ (121, [(0, .ref ac), (1, .int (nI x))], [.int (nI (eqN (tX f n E x) (ltx 7)))], M) _
                  refine ps_if (S1 := (127, [(0, .ref ac), (1, .int (nI x))], [], M)) (S2 := (124, [(0, .ref ac), (1, .int (nI x))], [], M)) rfl rfl rfl (fun c_121 => ?_) (fun c_121 => ?_)
                  · have c_121 : (nI (eqN (tX f n E x) (ltx 7))) = 0 := of_decide_eq_true c_121
                    have n_121 : eqN (tX f n E x) (ltx 7) = 0 := (eq_nI (p := eqN (tX f n E x) (ltx 7)) (n := 0) (Nat.lt_trans (le1_eq _ _) (by decide)) (by decide)).mp c_121
                    refine ps_st (S' := (128, [(0, .ref ac), (1, .int (nI x))], [.ref ac], M)) rfl rfl rfl ?_
                    refine ps_get (S' := (131, [(0, .ref ac), (1, .int (nI x))], [.ref c], M)) rfl h_ac rfl rfl ?_
                    refine ps_get (S' := (134, [(0, .ref ac), (1, .int (nI x))], [.int (nI mj)], M)) rfl h_c rfl rfl ?_
                    refine ps_st (S' := (136, [(0, .ref ac), (1, .int (nI x))], [.int 61, .int (nI mj)], M)) rfl rfl rfl ?_
                    refine ps_if2 (S1 := (155, [], [], M)) (S2 := (139, [(0, .ref ac), (1, .int (nI x))], [], M)) rfl rfl rfl (fun c_136 => ?_) (fun c_136 => ?_)
                    · have c_136 : (nI mj) < 61 := of_decide_eq_true c_136
                      have n_136 : mj < 61 := (lt_nI (p := mj) (n := 61) (by omega) (by decide)).mp c_136
                      refine ps_st (S' := (156, [], [.int 0], M)) rfl rfl rfl ?_
                      exact ps_ret rfl rfl (⟨congrArg (fun x => some (Value.int (nI x))) (show 0 = ckN f n E mj x from by
                          unfold ckN
                          first | ((repeat first | rw [if_pos (by omega)] | rw [if_neg (by omega)]) <;> first | rfl | omega) | ((repeat' split) <;> first | rfl | (exfalso; omega) | omega)), rfl⟩)
                    · have c_136 : ¬ ((nI mj) < 61) := of_decide_eq_false c_136
                      have n_136 : ¬ (mj < 61) := fun h9 => c_136 ((lt_nI (p := mj) (n := 61) (by omega) (by decide)).mpr h9)
                      refine ps_st (S' := (140, [(0, .ref ac), (1, .int (nI x))], [.ref ac], M)) rfl rfl rfl ?_
                      refine ps_get (S' := (143, [(0, .ref ac), (1, .int (nI x))], [.ref q], M)) rfl h_ac rfl rfl ?_
                      refine ps_st (S' := (144, [(0, .ref ac), (1, .int (nI x))], [.int (nI x), .ref q], M)) rfl rfl rfl ?_
                      refine ps_st (S' := (146, [(0, .ref ac), (1, .int (nI x))], [.ref (g.2.1 8), .int (nI x), .ref q], M)) rfl rfl rfl ?_
                      refine pl_call (a := [.ref q, .int (nI x), .ref (g.2.1 8)]) (rest := []) rfl rfl rfl (dy_textIs (f := f) (n := n) (N := N) (q := q) (E := E) (j := x) (k := 8) (hV) (by omega) (by decide)) (fun v94 M95 q96 => ?_)
                      obtain ⟨rfl, rfl⟩ := q96
                      show pl _ _ _ (149, [(0, .ref ac), (1, .int (nI x))], [.int (nI (eqN (tX f n E x) (ltx 8)))], M) _
                      refine ps_if (S1 := (155, [], [], M)) (S2 := (152, [(0, .ref ac), (1, .int (nI x))], [], M)) rfl rfl rfl (fun c_149 => ?_) (fun c_149 => ?_)
                      · have c_149 : (nI (eqN (tX f n E x) (ltx 8))) = 0 := of_decide_eq_true c_149
                        have n_149 : eqN (tX f n E x) (ltx 8) = 0 := (eq_nI (p := eqN (tX f n E x) (ltx 8)) (n := 0) (Nat.lt_trans (le1_eq _ _) (by decide)) (by decide)).mp c_149
                        refine ps_st (S' := (156, [], [.int 0], M)) rfl rfl rfl ?_
                        exact ps_ret rfl rfl (⟨congrArg (fun x => some (Value.int (nI x))) (show 0 = ckN f n E mj x from by
                            unfold ckN
                            first | ((repeat first | rw [if_pos (by omega)] | rw [if_neg (by omega)]) <;> first | rfl | omega) | ((repeat' split) <;> first | rfl | (exfalso; omega) | omega)), rfl⟩)
                      · have c_149 : ¬ ((nI (eqN (tX f n E x) (ltx 8))) = 0) := of_decide_eq_false c_149
                        have n_149 : ¬ (eqN (tX f n E x) (ltx 8) = 0) := fun h9 => c_149 ((eq_nI (p := eqN (tX f n E x) (ltx 8)) (n := 0) (Nat.lt_trans (le1_eq _ _) (by decide)) (by decide)).mpr h9)
                        refine ps_st (S' := (154, [(0, .ref ac), (1, .int (nI x))], [.int 10], M)) rfl rfl rfl ?_
                        exact ps_ret rfl rfl (⟨congrArg (fun x => some (Value.int (nI x))) (show 10 = ckN f n E mj x from by
                            unfold ckN
                            first | ((repeat first | rw [if_pos (by omega)] | rw [if_neg (by omega)]) <;> first | rfl | omega) | ((repeat' split) <;> first | rfl | (exfalso; omega) | omega)), rfl⟩)
                  · have c_121 : ¬ ((nI (eqN (tX f n E x) (ltx 7))) = 0) := of_decide_eq_false c_121
                    have n_121 : ¬ (eqN (tX f n E x) (ltx 7) = 0) := fun h9 => c_121 ((eq_nI (p := eqN (tX f n E x) (ltx 7)) (n := 0) (Nat.lt_trans (le1_eq _ _) (by decide)) (by decide)).mpr h9)
                    refine ps_st (S' := (126, [(0, .ref ac), (1, .int (nI x))], [.int 9], M)) rfl rfl rfl ?_
                    exact ps_ret rfl rfl (⟨congrArg (fun x => some (Value.int (nI x))) (show 9 = ckN f n E mj x from by
                        unfold ckN
                        first | ((repeat first | rw [if_pos (by omega)] | rw [if_neg (by omega)]) <;> first | rfl | omega) | ((repeat' split) <;> first | rfl | (exfalso; omega) | omega)), rfl⟩)
              · have c_93 : ¬ ((nI (eqN (tX f n E x) (ltx 6))) = 0) := of_decide_eq_false c_93
                have n_93 : ¬ (eqN (tX f n E x) (ltx 6) = 0) := fun h9 => c_93 ((eq_nI (p := eqN (tX f n E x) (ltx 6)) (n := 0) (Nat.lt_trans (le1_eq _ _) (by decide)) (by decide)).mpr h9)
                refine ps_st (S' := (98, [(0, .ref ac), (1, .int (nI x))], [.int 8], M)) rfl rfl rfl ?_
                exact ps_ret rfl rfl (⟨congrArg (fun x => some (Value.int (nI x))) (show 8 = ckN f n E mj x from by
                    unfold ckN
                    first | ((repeat first | rw [if_pos (by omega)] | rw [if_neg (by omega)]) <;> first | rfl | omega) | ((repeat' split) <;> first | rfl | (exfalso; omega) | omega)), rfl⟩)
          · have c_65 : ¬ ((nI (eqN (tX f n E x) (ltx 5))) = 0) := of_decide_eq_false c_65
            have n_65 : ¬ (eqN (tX f n E x) (ltx 5) = 0) := fun h9 => c_65 ((eq_nI (p := eqN (tX f n E x) (ltx 5)) (n := 0) (Nat.lt_trans (le1_eq _ _) (by decide)) (by decide)).mpr h9)
            refine ps_st (S' := (70, [(0, .ref ac), (1, .int (nI x))], [.int 7], M)) rfl rfl rfl ?_
            exact ps_ret rfl rfl (⟨congrArg (fun x => some (Value.int (nI x))) (show 7 = ckN f n E mj x from by
                unfold ckN
                first | ((repeat first | rw [if_pos (by omega)] | rw [if_neg (by omega)]) <;> first | rfl | omega) | ((repeat' split) <;> first | rfl | (exfalso; omega) | omega)), rfl⟩)
      · have c_37 : ¬ ((nI (eqN (tX f n E x) (ltx 4))) = 0) := of_decide_eq_false c_37
        have n_37 : ¬ (eqN (tX f n E x) (ltx 4) = 0) := fun h9 => c_37 ((eq_nI (p := eqN (tX f n E x) (ltx 4)) (n := 0) (Nat.lt_trans (le1_eq _ _) (by decide)) (by decide)).mpr h9)
        refine ps_st (S' := (42, [(0, .ref ac), (1, .int (nI x))], [.int 6], M)) rfl rfl rfl ?_
        exact ps_ret rfl rfl (⟨congrArg (fun x => some (Value.int (nI x))) (show 6 = ckN f n E mj x from by
            unfold ckN
            first | ((repeat first | rw [if_pos (by omega)] | rw [if_neg (by omega)]) <;> first | rfl | omega) | ((repeat' split) <;> first | rfl | (exfalso; omega) | omega)), rfl⟩)
  · have c_10 : ¬ ((nI (eqN (tX f n E x) (ltx 3))) = 0) := of_decide_eq_false c_10
    have n_10 : ¬ (eqN (tX f n E x) (ltx 3) = 0) := fun h9 => c_10 ((eq_nI (p := eqN (tX f n E x) (ltx 3)) (n := 0) (Nat.lt_trans (le1_eq _ _) (by decide)) (by decide)).mpr h9)
    refine ps_st (S' := (14, [(0, .ref ac), (1, .int (nI x))], [.int 5], M)) rfl rfl rfl ?_
    exact ps_ret rfl rfl (⟨congrArg (fun x => some (Value.int (nI x))) (show 5 = ckN f n E mj x from by
        unfold ckN
        first | ((repeat first | rw [if_pos (by omega)] | rw [if_neg (by omega)]) <;> first | rfl | omega) | ((repeat' split) <;> first | rfl | (exfalso; omega) | omega)), rfl⟩)
set_option maxHeartbeats 1000000 in
theorem dk_isLoadable {g : xe_G} {M : mi_H} {t : Nat}  (ht : t < 65536) : pt (mT g) 35 [.int (nI t)] M (fun v M' => (v = some (.int (nI (ldN t))) ∧ M = M')) := by
  refine pt_in (b := mb_35 g) rfl (fun kf => ?_)
  show pl (mT g) kf (mb_35 g).2 (0, [(0, .int (nI t))], [], M) _
  refine ps_st (S' := (1, [(0, .int (nI t))], [.int (nI t)], M)) rfl rfl rfl ?_
  refine ps_st (S' := (2, [(0, .int (nI t))], [.int 3, .int (nI t)], M)) rfl rfl rfl ?_
  refine ps_if2 (S1 := (11, [(0, .int (nI t))], [], M)) (S2 := (5, [(0, .int (nI t))], [], M)) rfl rfl rfl (fun c_2 => ?_) (fun c_2 => ?_)
  · have c_2 : (nI t) < 3 := of_decide_eq_true c_2
    have n_2 : t < 3 := (lt_nI (p := t) (n := 3) (by omega) (by decide)).mp c_2
    refine ps_st (S' := (12, [(0, .int (nI t))], [.int (nI t)], M)) rfl rfl rfl ?_
    refine ps_st (S' := (14, [(0, .int (nI t))], [.int 15, .int (nI t)], M)) rfl rfl rfl ?_
    refine ps_if2 (S1 := (27, [], [], M)) (S2 := (17, [(0, .int (nI t))], [], M)) rfl rfl rfl (fun c_14 => ?_) (fun c_14 => ?_)
    · have c_14 : (nI t) < 15 := of_decide_eq_true c_14
      have n_14 : t < 15 := (lt_nI (p := t) (n := 15) (by omega) (by decide)).mp c_14
      refine ps_st (S' := (28, [], [.int 0], M)) rfl rfl rfl ?_
      exact ps_ret rfl rfl (⟨congrArg (fun x => some (Value.int (nI x))) (show 0 = ldN t from by
          unfold ldN
          first | ((repeat first | rw [if_pos (by omega)] | rw [if_neg (by omega)]) <;> first | rfl | omega) | ((repeat' split) <;> first | rfl | (exfalso; omega) | omega)), rfl⟩)
    · have c_14 : ¬ ((nI t) < 15) := of_decide_eq_false c_14
      have n_14 : ¬ (t < 15) := fun h9 => c_14 ((lt_nI (p := t) (n := 15) (by omega) (by decide)).mpr h9)
      refine ps_st (S' := (18, [(0, .int (nI t))], [.int (nI t)], M)) rfl rfl rfl ?_
      refine ps_st (S' := (20, [(0, .int (nI t))], [.int 17, .int (nI t)], M)) rfl rfl rfl ?_
      refine ps_if2 (S1 := (27, [], [], M)) (S2 := (23, [], [], M)) rfl rfl rfl (fun c_20 => ?_) (fun c_20 => ?_)
      · have c_20 : 17 < (nI t) := of_decide_eq_true c_20
        have n_20 : 17 < t := (lt_nI (p := 17) (n := t) (by decide) (by omega)).mp c_20
        refine ps_st (S' := (28, [], [.int 0], M)) rfl rfl rfl ?_
        exact ps_ret rfl rfl (⟨congrArg (fun x => some (Value.int (nI x))) (show 0 = ldN t from by
            unfold ldN
            first | ((repeat first | rw [if_pos (by omega)] | rw [if_neg (by omega)]) <;> first | rfl | omega) | ((repeat' split) <;> first | rfl | (exfalso; omega) | omega)), rfl⟩)
      · have c_20 : ¬ (17 < (nI t)) := of_decide_eq_false c_20
        have n_20 : ¬ (17 < t) := fun h9 => c_20 ((lt_nI (p := 17) (n := t) (by decide) (by omega)).mpr h9)
        refine ps_st (S' := (24, [], [.int 1], M)) rfl rfl rfl ?_
        refine ps_st (S' := (28, [], [.int 1], M)) rfl rfl rfl ?_
        exact ps_ret rfl rfl (⟨congrArg (fun x => some (Value.int (nI x))) (show 1 = ldN t from by
            unfold ldN
            first | ((repeat first | rw [if_pos (by omega)] | rw [if_neg (by omega)]) <;> first | rfl | omega) | ((repeat' split) <;> first | rfl | (exfalso; omega) | omega)), rfl⟩)
  · have c_2 : ¬ ((nI t) < 3) := of_decide_eq_false c_2
    have n_2 : ¬ (t < 3) := fun h9 => c_2 ((lt_nI (p := t) (n := 3) (by omega) (by decide)).mpr h9)
    refine ps_st (S' := (6, [(0, .int (nI t))], [.int (nI t)], M)) rfl rfl rfl ?_
    refine ps_st (S' := (8, [(0, .int (nI t))], [.int 8, .int (nI t)], M)) rfl rfl rfl ?_
    refine ps_if2 (S1 := (23, [], [], M)) (S2 := (11, [(0, .int (nI t))], [], M)) rfl rfl rfl (fun c_8 => ?_) (fun c_8 => ?_)
    · have c_8 : (nI t) ≤ 8 := of_decide_eq_true c_8
      have n_8 : t ≤ 8 := (le_nI (p := t) (n := 8) (by omega) (by decide)).mp c_8
      refine ps_st (S' := (24, [], [.int 1], M)) rfl rfl rfl ?_
      refine ps_st (S' := (28, [], [.int 1], M)) rfl rfl rfl ?_
      exact ps_ret rfl rfl (⟨congrArg (fun x => some (Value.int (nI x))) (show 1 = ldN t from by
          unfold ldN
          first | ((repeat first | rw [if_pos (by omega)] | rw [if_neg (by omega)]) <;> first | rfl | omega) | ((repeat' split) <;> first | rfl | (exfalso; omega) | omega)), rfl⟩)
    · have c_8 : ¬ ((nI t) ≤ 8) := of_decide_eq_false c_8
      have n_8 : ¬ (t ≤ 8) := fun h9 => c_8 ((le_nI (p := t) (n := 8) (by omega) (by decide)).mpr h9)
      refine ps_st (S' := (12, [(0, .int (nI t))], [.int (nI t)], M)) rfl rfl rfl ?_
      refine ps_st (S' := (14, [(0, .int (nI t))], [.int 15, .int (nI t)], M)) rfl rfl rfl ?_
      refine ps_if2 (S1 := (27, [], [], M)) (S2 := (17, [(0, .int (nI t))], [], M)) rfl rfl rfl (fun c_14 => ?_) (fun c_14 => ?_)
      · have c_14 : (nI t) < 15 := of_decide_eq_true c_14
        have n_14 : t < 15 := (lt_nI (p := t) (n := 15) (by omega) (by decide)).mp c_14
        refine ps_st (S' := (28, [], [.int 0], M)) rfl rfl rfl ?_
        exact ps_ret rfl rfl (⟨congrArg (fun x => some (Value.int (nI x))) (show 0 = ldN t from by
            unfold ldN
            first | ((repeat first | rw [if_pos (by omega)] | rw [if_neg (by omega)]) <;> first | rfl | omega) | ((repeat' split) <;> first | rfl | (exfalso; omega) | omega)), rfl⟩)
      · have c_14 : ¬ ((nI t) < 15) := of_decide_eq_false c_14
        have n_14 : ¬ (t < 15) := fun h9 => c_14 ((lt_nI (p := t) (n := 15) (by omega) (by decide)).mpr h9)
        refine ps_st (S' := (18, [(0, .int (nI t))], [.int (nI t)], M)) rfl rfl rfl ?_
        refine ps_st (S' := (20, [(0, .int (nI t))], [.int 17, .int (nI t)], M)) rfl rfl rfl ?_
        refine ps_if2 (S1 := (27, [], [], M)) (S2 := (23, [], [], M)) rfl rfl rfl (fun c_20 => ?_) (fun c_20 => ?_)
        · have c_20 : 17 < (nI t) := of_decide_eq_true c_20
          have n_20 : 17 < t := (lt_nI (p := 17) (n := t) (by decide) (by omega)).mp c_20
          refine ps_st (S' := (28, [], [.int 0], M)) rfl rfl rfl ?_
          exact ps_ret rfl rfl (⟨congrArg (fun x => some (Value.int (nI x))) (show 0 = ldN t from by
              unfold ldN
              first | ((repeat first | rw [if_pos (by omega)] | rw [if_neg (by omega)]) <;> first | rfl | omega) | ((repeat' split) <;> first | rfl | (exfalso; omega) | omega)), rfl⟩)
        · have c_20 : ¬ (17 < (nI t)) := of_decide_eq_false c_20
          have n_20 : ¬ (17 < t) := fun h9 => c_20 ((lt_nI (p := 17) (n := t) (by decide) (by omega)).mpr h9)
          refine ps_st (S' := (24, [], [.int 1], M)) rfl rfl rfl ?_
          refine ps_st (S' := (28, [], [.int 1], M)) rfl rfl rfl ?_
          exact ps_ret rfl rfl (⟨congrArg (fun x => some (Value.int (nI x))) (show 1 = ldN t from by
              unfold ldN
              first | ((repeat first | rw [if_pos (by omega)] | rw [if_neg (by omega)]) <;> first | rfl | omega) | ((repeat' split) <;> first | rfl | (exfalso; omega) | omega)), rfl⟩)
set_option maxHeartbeats 1000000 in
theorem dk_areClasses {g : xe_G} {M : mi_H} {f : Nat → Int32} {n N q : Nat} {E : List (Nat × Nat)} {ac c b da vd fr mr fa ic mj na pa : Nat} {mi ru wa s1 k1 k2 k3 k4 k5 k6 k7 : Int32} {p : Nat} (h_ac : M.1 ac = some (ob 0 [.ref c, .ref b, .ref q, .ref vd, .int s1])) (h_b : M.1 b = some (ob 1 [.ref da])) (h_da : M.1 da = some (ar .byte n f)) (hn : n ≤ 65540) (hin : p + 8 + 2 * by2 f (p + 6) ≤ n) (hV : PV g f n N E q M) : pt (mT g) 22 [.ref ac, .int (nI p)] M (fun v M' => (v = some (.int (nI (clA f E (p + 8) (by2 f (p + 6)) 0))) ∧ M = M')) := by
  refine pt_in (b := mb_22 g) rfl (fun kf => ?_)
  show pl (mT g) kf (mb_22 g).2 (0, [(0, .ref ac), (1, .int (nI p))], [], M) _
  have LL : ∀ (kf : Nat), (∀ (i : Nat), (i ≤ by2 f (p + 6)) → (clA f E (p + 8) (by2 f (p + 6) - i) i = clA f E (p + 8) (by2 f (p + 6)) 0) →  pl (mT g) kf (mb_22 g).2 (14, [(0, .ref ac), (1, .int (nI p)), (2, .int (nI (by2 f (p + 6)))), (3, .int (nI i))], [], M) (fun v M' => (v = some (.int (nI (clA f E (p + 8) (by2 f (p + 6)) 0))) ∧ M = M'))) := by
    intro kf
    induction kf with
    | zero => exact (by intros; exact pl_0)
    | succ kf ih =>
      intro i hi hs
      have hu9 := by2_lt f (p + 6)
      refine ps_st1 (S' := (15, [(0, .ref ac), (1, .int (nI p)), (2, .int (nI (by2 f (p + 6)))), (3, .int (nI i))], [.int (nI i)], M)) rfl rfl rfl ?_
      refine ps_st (S' := (16, [(0, .ref ac), (1, .int (nI p)), (2, .int (nI (by2 f (p + 6)))), (3, .int (nI i))], [.int (nI (by2 f (p + 6))), .int (nI i)], M)) rfl rfl rfl ?_
      refine ps_if2 (S1 := (54, [(0, .ref ac), (1, .int (nI p)), (2, .int (nI (by2 f (p + 6)))), (3, .int (nI i))], [], M)) (S2 := (19, [(0, .ref ac), (1, .int (nI p)), (2, .int (nI (by2 f (p + 6)))), (3, .int (nI i))], [], M)) rfl rfl rfl (fun c_16 => ?_) (fun c_16 => ?_)
      · have c_16 : (nI (by2 f (p + 6))) ≤ (nI i) := of_decide_eq_true c_16
        have n_16 : by2 f (p + 6) ≤ i := (le_nI (p := by2 f (p + 6)) (n := i) (Nat.lt_trans (by2_lt _ _) (by decide)) (by omega)).mp c_16
        refine ps_st (S' := (55, [(0, .ref ac), (1, .int (nI p)), (2, .int (nI (by2 f (p + 6)))), (3, .int (nI i))], [.int 1], M)) rfl rfl rfl ?_
        exact ps_ret rfl rfl (⟨congrArg (fun x => some (Value.int (nI x))) (show 1 = clA f E (p + 8) (by2 f (p + 6)) 0 from by rw [← hs, show by2 f (p + 6) - i = 0 by omega, clA]), rfl⟩)
      · have c_16 : ¬ ((nI (by2 f (p + 6))) ≤ (nI i)) := of_decide_eq_false c_16
        have n_16 : ¬ (by2 f (p + 6) ≤ i) := fun h9 => c_16 ((le_nI (p := by2 f (p + 6)) (n := i) (Nat.lt_trans (by2_lt _ _) (by decide)) (by omega)).mpr h9)
        refine ps_st (S' := (20, [(0, .ref ac), (1, .int (nI p)), (2, .int (nI (by2 f (p + 6)))), (3, .int (nI i))], [.ref ac], M)) rfl rfl rfl ?_
        refine ps_get (S' := (23, [(0, .ref ac), (1, .int (nI p)), (2, .int (nI (by2 f (p + 6)))), (3, .int (nI i))], [.ref q], M)) rfl h_ac rfl rfl ?_
        refine ps_st (S' := (24, [(0, .ref ac), (1, .int (nI p)), (2, .int (nI (by2 f (p + 6)))), (3, .int (nI i))], [.ref ac, .ref q], M)) rfl rfl rfl ?_
        refine ps_get (S' := (27, [(0, .ref ac), (1, .int (nI p)), (2, .int (nI (by2 f (p + 6)))), (3, .int (nI i))], [.ref b, .ref q], M)) rfl h_ac rfl rfl ?_
        refine ps_st (S' := (28, [(0, .ref ac), (1, .int (nI p)), (2, .int (nI (by2 f (p + 6)))), (3, .int (nI i))], [.int (nI p), .ref b, .ref q], M)) rfl rfl rfl ?_
        refine ps_st (S' := (30, [(0, .ref ac), (1, .int (nI p)), (2, .int (nI (by2 f (p + 6)))), (3, .int (nI i))], [.int 8, .int (nI p), .ref b, .ref q], M)) rfl rfl rfl ?_
        refine ps_st (S' := (31, [(0, .ref ac), (1, .int (nI p)), (2, .int (nI (by2 f (p + 6)))), (3, .int (nI i))], [.int ((nI p) + 8), .ref b, .ref q], M)) rfl rfl rfl ?_
        rw [nI_add1 (p := p) (k := 8) (x := 8) rfl (by omega)]
        show pl _ _ _ (_, [(0, .ref ac), (1, .int (nI p)), (2, .int (nI (by2 f (p + 6)))), (3, .int (nI i))], [.int (nI (p + 8)), .ref b, .ref q], M) _
        refine ps_st (S' := (32, [(0, .ref ac), (1, .int (nI p)), (2, .int (nI (by2 f (p + 6)))), (3, .int (nI i))], [.int 2, .int (nI (p + 8)), .ref b, .ref q], M)) rfl rfl rfl ?_
        refine ps_st (S' := (33, [(0, .ref ac), (1, .int (nI p)), (2, .int (nI (by2 f (p + 6)))), (3, .int (nI i))], [.int (nI i), .int 2, .int (nI (p + 8)), .ref b, .ref q], M)) rfl rfl rfl ?_
        refine ps_st (S' := (34, [(0, .ref ac), (1, .int (nI p)), (2, .int (nI (by2 f (p + 6)))), (3, .int (nI i))], [.int (2 * (nI i)), .int (nI (p + 8)), .ref b, .ref q], M)) rfl rfl rfl ?_
        rw [nI_mul1 (p := 2) (k := i) (x := 2) (y := (nI i)) rfl rfl (by omega)]
        show pl _ _ _ (_, [(0, .ref ac), (1, .int (nI p)), (2, .int (nI (by2 f (p + 6)))), (3, .int (nI i))], [.int (nI (2 * i)), .int (nI (p + 8)), .ref b, .ref q], M) _
        refine ps_st (S' := (35, [(0, .ref ac), (1, .int (nI p)), (2, .int (nI (by2 f (p + 6)))), (3, .int (nI i))], [.int ((nI (p + 8)) + (nI (2 * i))), .ref b, .ref q], M)) rfl rfl rfl ?_
        rw [nI_add1 (p := p + 8) (k := 2 * i) (x := (nI (2 * i))) rfl (by omega)]
        show pl _ _ _ (_, [(0, .ref ac), (1, .int (nI p)), (2, .int (nI (by2 f (p + 6)))), (3, .int (nI i))], [.int (nI (p + 8 + 2 * i)), .ref b, .ref q], M) _
        refine pl_call (a := [.ref b, .int (nI (p + 8 + 2 * i))]) (rest := [.ref q]) rfl rfl rfl (dk_u2 (f := f) (n := n) (b := b) (da := da) (p := (p + 8 + 2 * i)) h_b h_da (hn) (by omega)) (fun v1 M2 q3 => ?_)
        obtain ⟨rfl, rfl⟩ := q3
        show pl _ _ _ (38, [(0, .ref ac), (1, .int (nI p)), (2, .int (nI (by2 f (p + 6)))), (3, .int (nI i))], [.int (nI (by2 f (p + 8 + 2 * i))), .ref q], M) _
        have hu_35 := by2_lt f (p + 8 + 2 * i)
        refine pl_call (a := [.ref q, .int (nI (by2 f (p + 8 + 2 * i)))]) (rest := []) rfl rfl rfl (dy_tagOf (f := f) (n := n) (N := N) (q := q) (E := E) (j := (by2 f (p + 8 + 2 * i))) (hV) (by2_lt _ _)) (fun v4 M5 q6 => ?_)
        obtain ⟨rfl, rfl⟩ := q6
        show pl _ _ _ (41, [(0, .ref ac), (1, .int (nI p)), (2, .int (nI (by2 f (p + 6)))), (3, .int (nI i))], [.int (nI (tg f E (by2 f (p + 8 + 2 * i))))], M) _
        refine ps_st (S' := (43, [(0, .ref ac), (1, .int (nI p)), (2, .int (nI (by2 f (p + 6)))), (3, .int (nI i))], [.int 7, .int (nI (tg f E (by2 f (p + 8 + 2 * i))))], M)) rfl rfl rfl ?_
        refine ps_if2 (S1 := (48, [(0, .ref ac), (1, .int (nI p)), (2, .int (nI (by2 f (p + 6)))), (3, .int (nI i))], [], M)) (S2 := (46, [(0, .ref ac), (1, .int (nI p)), (2, .int (nI (by2 f (p + 6)))), (3, .int (nI i))], [], M)) rfl rfl rfl (fun c_43 => ?_) (fun c_43 => ?_)
        · have c_43 : (nI (tg f E (by2 f (p + 8 + 2 * i)))) = 7 := of_decide_eq_true c_43
          have n_43 : tg f E (by2 f (p + 8 + 2 * i)) = 7 := (eq_nI (p := tg f E (by2 f (p + 8 + 2 * i))) (n := 7) (Nat.lt_trans (tg_lt _ _ _) (by decide)) (by decide)).mp c_43
          refine ps_st (S' := (51, [(3, .int ((nI i) + 1)), (0, .ref ac), (1, .int (nI p)), (2, .int (nI (by2 f (p + 6))))], [], M)) rfl rfl rfl ?_
          rw [nI_add1 (p := i) (k := 1) (x := 1) rfl (by omega)]
          show pl _ _ _ (_, [(3, .int (nI (i + 1))), (0, .ref ac), (1, .int (nI p)), (2, .int (nI (by2 f (p + 6))))], [], M) _
          refine ps_st (S' := (14, [(0, .ref ac), (1, .int (nI p)), (2, .int (nI (by2 f (p + 6)))), (3, .int (nI (i + 1)))], [], M)) rfl rfl rfl ?_
          exact ih (i + 1)  (by omega) (by
              rw [← hs, clA_st (i := i) (by omega), if_pos (by omega)])
        · have c_43 : ¬ ((nI (tg f E (by2 f (p + 8 + 2 * i)))) = 7) := of_decide_eq_false c_43
          have n_43 : ¬ (tg f E (by2 f (p + 8 + 2 * i)) = 7) := fun h9 => c_43 ((eq_nI (p := tg f E (by2 f (p + 8 + 2 * i))) (n := 7) (Nat.lt_trans (tg_lt _ _ _) (by decide)) (by decide)).mpr h9)
          refine ps_st (S' := (47, [(0, .ref ac), (1, .int (nI p)), (2, .int (nI (by2 f (p + 6)))), (3, .int (nI i))], [.int 0], M)) rfl rfl rfl ?_
          exact ps_ret rfl rfl (⟨congrArg (fun x => some (Value.int (nI x))) (show 0 = clA f E (p + 8) (by2 f (p + 6)) 0 from by rw [← hs, clA_st (i := i) (by omega), if_neg (by omega)]), rfl⟩)
  refine ps_st (S' := (1, [(0, .ref ac), (1, .int (nI p))], [.ref ac], M)) rfl rfl rfl ?_
  refine ps_get (S' := (4, [(0, .ref ac), (1, .int (nI p))], [.ref b], M)) rfl h_ac rfl rfl ?_
  refine ps_st (S' := (5, [(0, .ref ac), (1, .int (nI p))], [.int (nI p), .ref b], M)) rfl rfl rfl ?_
  refine ps_st (S' := (7, [(0, .ref ac), (1, .int (nI p))], [.int 6, .int (nI p), .ref b], M)) rfl rfl rfl ?_
  refine ps_st (S' := (8, [(0, .ref ac), (1, .int (nI p))], [.int ((nI p) + 6), .ref b], M)) rfl rfl rfl ?_
  rw [nI_add1 (p := p) (k := 6) (x := 6) rfl (by omega)]
  show pl _ _ _ (_, [(0, .ref ac), (1, .int (nI p))], [.int (nI (p + 6)), .ref b], M) _
  refine pl_call (a := [.ref b, .int (nI (p + 6))]) (rest := []) rfl rfl rfl (dk_u2 (f := f) (n := n) (b := b) (da := da) (p := (p + 6)) h_b h_da (hn) (by omega)) (fun v7 M8 q9 => ?_)
  obtain ⟨rfl, rfl⟩ := q9
  show pl _ _ _ (11, [(0, .ref ac), (1, .int (nI p))], [.int (nI (by2 f (p + 6)))], M) _
  have hu_8 := by2_lt f (p + 6)
  refine ps_st (S' := (12, [(2, .int (nI (by2 f (p + 6)))), (0, .ref ac), (1, .int (nI p))], [], M)) rfl rfl rfl ?_
  refine ps_st (S' := (13, [(2, .int (nI (by2 f (p + 6)))), (0, .ref ac), (1, .int (nI p))], [.int 0], M)) rfl rfl rfl ?_
  refine ps_st (S' := (14, [(0, .ref ac), (1, .int (nI p)), (2, .int (nI (by2 f (p + 6)))), (3, .int 0)], [], M)) rfl rfl rfl ?_
  exact (LL kf) (0)  (by omega) (rfl)
set_option maxHeartbeats 1000000 in
theorem dk_innerClassesHold {g : xe_G} {M : mi_H} {f : Nat → Int32} {n N q : Nat} {E : List (Nat × Nat)} {ac c b da vd fr mr fa ic mj na pa : Nat} {mi ru wa s1 k1 k2 k3 k4 k5 k6 k7 : Int32} {p ct : Nat} (h_ac : M.1 ac = some (ob 0 [.ref c, .ref b, .ref q, .ref vd, .int s1])) (h_b : M.1 b = some (ob 1 [.ref da])) (h_da : M.1 da = some (ar .byte n f)) (h_c : M.1 c = some (ob 3 [.ref b, .ref q, .int mi, .int (nI mj), .int (nI fa), .int (nI ic), .ref fr, .ref mr, .int (nI na), .int (nI pa), .int k1, .int k2, .int k3, .int (nI ct), .int k5, .int k6, .int k7])) (hn : n ≤ 65540) (hct : ct < 65536) (hin : p + 8 + 8 * ct ≤ n) (hV : PV g f n N E q M) : pt (mT g) 34 [.ref ac, .int (nI p)] M (fun v M' => (v = some (.int (nI (inA f E (p + 8) ct 0))) ∧ M = M')) := by
  refine pt_in (b := mb_34 g) rfl (fun kf => ?_)
  show pl (mT g) kf (mb_34 g).2 (0, [(0, .ref ac), (1, .int (nI p))], [], M) _
  have LL : ∀ (kf : Nat), (∀ (i : Nat), (i ≤ ct) → (inA f E (p + 8) (ct - i) i = inA f E (p + 8) ct 0) →  pl (mT g) kf (mb_34 g).2 (2, [(0, .ref ac), (1, .int (nI p)), (2, .int (nI i))], [], M) (fun v M' => (v = some (.int (nI (inA f E (p + 8) ct 0))) ∧ M = M'))) := by
    intro kf
    induction kf with
    | zero => exact (by intros; exact pl_0)
    | succ kf ih =>
      intro i hi hs
      refine ps_st1 (S' := (3, [(0, .ref ac), (1, .int (nI p)), (2, .int (nI i))], [.int (nI i)], M)) rfl rfl rfl ?_
      refine ps_st (S' := (4, [(0, .ref ac), (1, .int (nI p)), (2, .int (nI i))], [.ref ac, .int (nI i)], M)) rfl rfl rfl ?_
      refine ps_get (S' := (7, [(0, .ref ac), (1, .int (nI p)), (2, .int (nI i))], [.ref c, .int (nI i)], M)) rfl h_ac rfl rfl ?_
      refine ps_get (S' := (10, [(0, .ref ac), (1, .int (nI p)), (2, .int (nI i))], [.int (nI ct), .int (nI i)], M)) rfl h_c rfl rfl ?_
      refine ps_if2 (S1 := (112, [(0, .ref ac), (1, .int (nI p)), (2, .int (nI i))], [], M)) (S2 := (13, [(0, .ref ac), (1, .int (nI p)), (2, .int (nI i))], [], M)) rfl rfl rfl (fun c_10 => ?_) (fun c_10 => ?_)
      · have c_10 : (nI ct) ≤ (nI i) := of_decide_eq_true c_10
        have n_10 : ct ≤ i := (le_nI (p := ct) (n := i) (by omega) (by omega)).mp c_10
        refine ps_st (S' := (113, [(0, .ref ac), (1, .int (nI p)), (2, .int (nI i))], [.int 1], M)) rfl rfl rfl ?_
        exact ps_ret rfl rfl (⟨congrArg (fun x => some (Value.int (nI x))) (show 1 = inA f E (p + 8) ct 0 from by rw [← hs, show ct - i = 0 by omega, inA]), rfl⟩)
      · have c_10 : ¬ ((nI ct) ≤ (nI i)) := of_decide_eq_false c_10
        have n_10 : ¬ (ct ≤ i) := fun h9 => c_10 ((le_nI (p := ct) (n := i) (by omega) (by omega)).mpr h9)
        refine ps_st (S' := (14, [(0, .ref ac), (1, .int (nI p)), (2, .int (nI i))], [.int (nI p)], M)) rfl rfl rfl ?_
        refine ps_st (S' := (16, [(0, .ref ac), (1, .int (nI p)), (2, .int (nI i))], [.int 8, .int (nI p)], M)) rfl rfl rfl ?_
        refine ps_st (S' := (17, [(0, .ref ac), (1, .int (nI p)), (2, .int (nI i))], [.int ((nI p) + 8)], M)) rfl rfl rfl ?_
        rw [nI_add1 (p := p) (k := 8) (x := 8) rfl (by omega)]
        show pl _ _ _ (_, [(0, .ref ac), (1, .int (nI p)), (2, .int (nI i))], [.int (nI (p + 8))], M) _
        refine ps_st (S' := (19, [(0, .ref ac), (1, .int (nI p)), (2, .int (nI i))], [.int 8, .int (nI (p + 8))], M)) rfl rfl rfl ?_
        refine ps_st (S' := (20, [(0, .ref ac), (1, .int (nI p)), (2, .int (nI i))], [.int (nI i), .int 8, .int (nI (p + 8))], M)) rfl rfl rfl ?_
        refine ps_st (S' := (21, [(0, .ref ac), (1, .int (nI p)), (2, .int (nI i))], [.int (8 * (nI i)), .int (nI (p + 8))], M)) rfl rfl rfl ?_
        rw [nI_mul1 (p := 8) (k := i) (x := 8) (y := (nI i)) rfl rfl (by omega)]
        show pl _ _ _ (_, [(0, .ref ac), (1, .int (nI p)), (2, .int (nI i))], [.int (nI (8 * i)), .int (nI (p + 8))], M) _
        refine ps_st (S' := (22, [(0, .ref ac), (1, .int (nI p)), (2, .int (nI i))], [.int ((nI (p + 8)) + (nI (8 * i)))], M)) rfl rfl rfl ?_
        rw [nI_add1 (p := p + 8) (k := 8 * i) (x := (nI (8 * i))) rfl (by omega)]
        show pl _ _ _ (_, [(0, .ref ac), (1, .int (nI p)), (2, .int (nI i))], [.int (nI (p + 8 + 8 * i))], M) _
        refine ps_st (S' := (23, [(3, .int (nI (p + 8 + 8 * i))), (0, .ref ac), (1, .int (nI p)), (2, .int (nI i))], [], M)) rfl rfl rfl ?_
        refine ps_st (S' := (24, [(3, .int (nI (p + 8 + 8 * i))), (0, .ref ac), (1, .int (nI p)), (2, .int (nI i))], [.ref ac], M)) rfl rfl rfl ?_
        refine ps_get (S' := (27, [(3, .int (nI (p + 8 + 8 * i))), (0, .ref ac), (1, .int (nI p)), (2, .int (nI i))], [.ref b], M)) rfl h_ac rfl rfl ?_
        refine ps_st (S' := (28, [(3, .int (nI (p + 8 + 8 * i))), (0, .ref ac), (1, .int (nI p)), (2, .int (nI i))], [.int (nI (p + 8 + 8 * i)), .ref b], M)) rfl rfl rfl ?_
        refine ps_st (S' := (29, [(3, .int (nI (p + 8 + 8 * i))), (0, .ref ac), (1, .int (nI p)), (2, .int (nI i))], [.int 2, .int (nI (p + 8 + 8 * i)), .ref b], M)) rfl rfl rfl ?_
        refine ps_st (S' := (30, [(3, .int (nI (p + 8 + 8 * i))), (0, .ref ac), (1, .int (nI p)), (2, .int (nI i))], [.int ((nI (p + 8 + 8 * i)) + 2), .ref b], M)) rfl rfl rfl ?_
        rw [nI_add1 (p := p + 8 + 8 * i) (k := 2) (x := 2) rfl (by omega)]
        show pl _ _ _ (_, [(3, .int (nI (p + 8 + 8 * i))), (0, .ref ac), (1, .int (nI p)), (2, .int (nI i))], [.int (nI (p + 8 + 8 * i + 2)), .ref b], M) _
        refine pl_call (a := [.ref b, .int (nI (p + 8 + 8 * i + 2))]) (rest := []) rfl rfl rfl (dk_u2 (f := f) (n := n) (b := b) (da := da) (p := (p + 8 + 8 * i + 2)) h_b h_da (hn) (by omega)) (fun v1 M2 q3 => ?_)
        obtain ⟨rfl, rfl⟩ := q3
        show pl _ _ _ (33, [(3, .int (nI (p + 8 + 8 * i))), (0, .ref ac), (1, .int (nI p)), (2, .int (nI i))], [.int (nI (by2 f (p + 8 + 8 * i + 2)))], M) _
        have hu_30 := by2_lt f (p + 8 + 8 * i + 2)
        refine ps_st (S' := (35, [(4, .int (nI (by2 f (p + 8 + 8 * i + 2)))), (3, .int (nI (p + 8 + 8 * i))), (0, .ref ac), (1, .int (nI p)), (2, .int (nI i))], [], M)) rfl rfl rfl ?_
        refine ps_st (S' := (36, [(4, .int (nI (by2 f (p + 8 + 8 * i + 2)))), (3, .int (nI (p + 8 + 8 * i))), (0, .ref ac), (1, .int (nI p)), (2, .int (nI i))], [.ref ac], M)) rfl rfl rfl ?_
        refine ps_get (S' := (39, [(4, .int (nI (by2 f (p + 8 + 8 * i + 2)))), (3, .int (nI (p + 8 + 8 * i))), (0, .ref ac), (1, .int (nI p)), (2, .int (nI i))], [.ref b], M)) rfl h_ac rfl rfl ?_
        refine ps_st (S' := (40, [(4, .int (nI (by2 f (p + 8 + 8 * i + 2)))), (3, .int (nI (p + 8 + 8 * i))), (0, .ref ac), (1, .int (nI p)), (2, .int (nI i))], [.int (nI (p + 8 + 8 * i)), .ref b], M)) rfl rfl rfl ?_
        refine ps_st (S' := (41, [(4, .int (nI (by2 f (p + 8 + 8 * i + 2)))), (3, .int (nI (p + 8 + 8 * i))), (0, .ref ac), (1, .int (nI p)), (2, .int (nI i))], [.int 4, .int (nI (p + 8 + 8 * i)), .ref b], M)) rfl rfl rfl ?_
        refine ps_st (S' := (42, [(4, .int (nI (by2 f (p + 8 + 8 * i + 2)))), (3, .int (nI (p + 8 + 8 * i))), (0, .ref ac), (1, .int (nI p)), (2, .int (nI i))], [.int ((nI (p + 8 + 8 * i)) + 4), .ref b], M)) rfl rfl rfl ?_
        rw [nI_add1 (p := p + 8 + 8 * i) (k := 4) (x := 4) rfl (by omega)]
        show pl _ _ _ (_, [(4, .int (nI (by2 f (p + 8 + 8 * i + 2)))), (3, .int (nI (p + 8 + 8 * i))), (0, .ref ac), (1, .int (nI p)), (2, .int (nI i))], [.int (nI (p + 8 + 8 * i + 4)), .ref b], M) _
        refine pl_call (a := [.ref b, .int (nI (p + 8 + 8 * i + 4))]) (rest := []) rfl rfl rfl (dk_u2 (f := f) (n := n) (b := b) (da := da) (p := (p + 8 + 8 * i + 4)) h_b h_da (hn) (by omega)) (fun v4 M5 q6 => ?_)
        obtain ⟨rfl, rfl⟩ := q6
        show pl _ _ _ (45, [(4, .int (nI (by2 f (p + 8 + 8 * i + 2)))), (3, .int (nI (p + 8 + 8 * i))), (0, .ref ac), (1, .int (nI p)), (2, .int (nI i))], [.int (nI (by2 f (p + 8 + 8 * i + 4)))], M) _
        have hu_42 := by2_lt f (p + 8 + 8 * i + 4)
        refine ps_st (S' := (47, [(5, .int (nI (by2 f (p + 8 + 8 * i + 4)))), (4, .int (nI (by2 f (p + 8 + 8 * i + 2)))), (3, .int (nI (p + 8 + 8 * i))), (0, .ref ac), (1, .int (nI p)), (2, .int (nI i))], [], M)) rfl rfl rfl ?_
        refine ps_st (S' := (48, [(5, .int (nI (by2 f (p + 8 + 8 * i + 4)))), (4, .int (nI (by2 f (p + 8 + 8 * i + 2)))), (3, .int (nI (p + 8 + 8 * i))), (0, .ref ac), (1, .int (nI p)), (2, .int (nI i))], [.ref ac], M)) rfl rfl rfl ?_
        refine ps_get (S' := (51, [(5, .int (nI (by2 f (p + 8 + 8 * i + 4)))), (4, .int (nI (by2 f (p + 8 + 8 * i + 2)))), (3, .int (nI (p + 8 + 8 * i))), (0, .ref ac), (1, .int (nI p)), (2, .int (nI i))], [.ref q], M)) rfl h_ac rfl rfl ?_
        refine ps_st (S' := (52, [(5, .int (nI (by2 f (p + 8 + 8 * i + 4)))), (4, .int (nI (by2 f (p + 8 + 8 * i + 2)))), (3, .int (nI (p + 8 + 8 * i))), (0, .ref ac), (1, .int (nI p)), (2, .int (nI i))], [.ref ac, .ref q], M)) rfl rfl rfl ?_
        refine ps_get (S' := (55, [(5, .int (nI (by2 f (p + 8 + 8 * i + 4)))), (4, .int (nI (by2 f (p + 8 + 8 * i + 2)))), (3, .int (nI (p + 8 + 8 * i))), (0, .ref ac), (1, .int (nI p)), (2, .int (nI i))], [.ref b, .ref q], M)) rfl h_ac rfl rfl ?_
        refine ps_st (S' := (56, [(5, .int (nI (by2 f (p + 8 + 8 * i + 4)))), (4, .int (nI (by2 f (p + 8 + 8 * i + 2)))), (3, .int (nI (p + 8 + 8 * i))), (0, .ref ac), (1, .int (nI p)), (2, .int (nI i))], [.int (nI (p + 8 + 8 * i)), .ref b, .ref q], M)) rfl rfl rfl ?_
        refine pl_call (a := [.ref b, .int (nI (p + 8 + 8 * i))]) (rest := [.ref q]) rfl rfl rfl (dk_u2 (f := f) (n := n) (b := b) (da := da) (p := (p + 8 + 8 * i)) h_b h_da (hn) (by omega)) (fun v7 M8 q9 => ?_)
        obtain ⟨rfl, rfl⟩ := q9
        show pl _ _ _ (59, [(5, .int (nI (by2 f (p + 8 + 8 * i + 4)))), (4, .int (nI (by2 f (p + 8 + 8 * i + 2)))), (3, .int (nI (p + 8 + 8 * i))), (0, .ref ac), (1, .int (nI p)), (2, .int (nI i))], [.int (nI (by2 f (p + 8 + 8 * i))), .ref q], M) _
        have hu_56 := by2_lt f (p + 8 + 8 * i)
        refine pl_call (a := [.ref q, .int (nI (by2 f (p + 8 + 8 * i)))]) (rest := []) rfl rfl rfl (dy_tagOf (f := f) (n := n) (N := N) (q := q) (E := E) (j := (by2 f (p + 8 + 8 * i))) (hV) (by2_lt _ _)) (fun v10 M11 q12 => ?_)
        obtain ⟨rfl, rfl⟩ := q12
        show pl _ _ _ (62, [(5, .int (nI (by2 f (p + 8 + 8 * i + 4)))), (4, .int (nI (by2 f (p + 8 + 8 * i + 2)))), (3, .int (nI (p + 8 + 8 * i))), (0, .ref ac), (1, .int (nI p)), (2, .int (nI i))], [.int (nI (tg f E (by2 f (p + 8 + 8 * i))))], M) _
        refine ps_st (S' := (64, [(5, .int (nI (by2 f (p + 8 + 8 * i + 4)))), (4, .int (nI (by2 f (p + 8 + 8 * i + 2)))), (3, .int (nI (p + 8 + 8 * i))), (0, .ref ac), (1, .int (nI p)), (2, .int (nI i))], [.int 7, .int (nI (tg f E (by2 f (p + 8 + 8 * i))))], M)) rfl rfl rfl ?_
        refine ps_if2 (S1 := (104, [], [], M)) (S2 := (67, [(5, .int (nI (by2 f (p + 8 + 8 * i + 4)))), (4, .int (nI (by2 f (p + 8 + 8 * i + 2)))), (3, .int (nI (p + 8 + 8 * i))), (0, .ref ac), (1, .int (nI p)), (2, .int (nI i))], [], M)) rfl rfl rfl (fun c_64 => ?_) (fun c_64 => ?_)
        · have c_64 : ¬ (nI (tg f E (by2 f (p + 8 + 8 * i)))) = 7 := of_decide_eq_true c_64
          have n_64 : ¬ (tg f E (by2 f (p + 8 + 8 * i)) = 7) := fun h9 => c_64 ((eq_nI (p := tg f E (by2 f (p + 8 + 8 * i))) (n := 7) (Nat.lt_trans (tg_lt _ _ _) (by decide)) (by decide)).mpr h9)
          refine ps_st (S' := (105, [], [.int 0], M)) rfl rfl rfl ?_
          exact ps_ret rfl rfl (⟨congrArg (fun x => some (Value.int (nI x))) (show 0 = inA f E (p + 8) ct 0 from by rw [← hs, inA_st (i := i) (by omega), if_pos (by unfold inR; rw [if_neg (by omega)])]), rfl⟩)
        · have c_64 : ¬ (¬ (nI (tg f E (by2 f (p + 8 + 8 * i)))) = 7) := of_decide_eq_false c_64
          have n_64 : tg f E (by2 f (p + 8 + 8 * i)) = 7 := (eq_nI (p := tg f E (by2 f (p + 8 + 8 * i))) (n := 7) (Nat.lt_trans (tg_lt _ _ _) (by decide)) (by decide)).mp (Decidable.not_not.mp c_64)
          refine ps_st (S' := (69, [(5, .int (nI (by2 f (p + 8 + 8 * i + 4)))), (4, .int (nI (by2 f (p + 8 + 8 * i + 2)))), (3, .int (nI (p + 8 + 8 * i))), (0, .ref ac), (1, .int (nI p)), (2, .int (nI i))], [.int (nI (by2 f (p + 8 + 8 * i + 2)))], M)) rfl rfl rfl ?_
          refine ps_if (S1 := (86, [(0, .ref ac), (1, .int (nI p)), (2, .int (nI i)), (5, .int (nI (by2 f (p + 8 + 8 * i + 4))))], [], M)) (S2 := (72, [(5, .int (nI (by2 f (p + 8 + 8 * i + 4)))), (4, .int (nI (by2 f (p + 8 + 8 * i + 2)))), (3, .int (nI (p + 8 + 8 * i))), (0, .ref ac), (1, .int (nI p)), (2, .int (nI i))], [], M)) rfl rfl rfl (fun c_69 => ?_) (fun c_69 => ?_)
          · have c_69 : (nI (by2 f (p + 8 + 8 * i + 2))) = 0 := of_decide_eq_true c_69
            have n_69 : by2 f (p + 8 + 8 * i + 2) = 0 := (eq_nI (p := by2 f (p + 8 + 8 * i + 2)) (n := 0) (Nat.lt_trans (by2_lt _ _) (by decide)) (by decide)).mp c_69
            refine ps_st (S' := (88, [(0, .ref ac), (1, .int (nI p)), (2, .int (nI i)), (5, .int (nI (by2 f (p + 8 + 8 * i + 4))))], [.int (nI (by2 f (p + 8 + 8 * i + 4)))], M)) rfl rfl rfl ?_
            refine ps_if (S1 := (106, [(0, .ref ac), (1, .int (nI p)), (2, .int (nI i))], [], M)) (S2 := (91, [(0, .ref ac), (1, .int (nI p)), (2, .int (nI i)), (5, .int (nI (by2 f (p + 8 + 8 * i + 4))))], [], M)) rfl rfl rfl (fun c_88 => ?_) (fun c_88 => ?_)
            · have c_88 : (nI (by2 f (p + 8 + 8 * i + 4))) = 0 := of_decide_eq_true c_88
              have n_88 : by2 f (p + 8 + 8 * i + 4) = 0 := (eq_nI (p := by2 f (p + 8 + 8 * i + 4)) (n := 0) (Nat.lt_trans (by2_lt _ _) (by decide)) (by decide)).mp c_88
              refine ps_st (S' := (109, [(2, .int ((nI i) + 1)), (0, .ref ac), (1, .int (nI p))], [], M)) rfl rfl rfl ?_
              rw [nI_add1 (p := i) (k := 1) (x := 1) rfl (by omega)]
              show pl _ _ _ (_, [(2, .int (nI (i + 1))), (0, .ref ac), (1, .int (nI p))], [], M) _
              refine ps_st (S' := (2, [(0, .ref ac), (1, .int (nI p)), (2, .int (nI (i + 1)))], [], M)) rfl rfl rfl ?_
              exact ih (i + 1)  (by omega) (by
                  rw [← hs, inA_st (i := i) (by omega), if_neg (by unfold inR; rw [if_pos (by omega)]; decide)])
            · have c_88 : ¬ ((nI (by2 f (p + 8 + 8 * i + 4))) = 0) := of_decide_eq_false c_88
              have n_88 : ¬ (by2 f (p + 8 + 8 * i + 4) = 0) := fun h9 => c_88 ((eq_nI (p := by2 f (p + 8 + 8 * i + 4)) (n := 0) (Nat.lt_trans (by2_lt _ _) (by decide)) (by decide)).mpr h9)
              refine ps_st (S' := (92, [(0, .ref ac), (1, .int (nI p)), (2, .int (nI i)), (5, .int (nI (by2 f (p + 8 + 8 * i + 4))))], [.ref ac], M)) rfl rfl rfl ?_
              refine ps_get (S' := (95, [(0, .ref ac), (1, .int (nI p)), (2, .int (nI i)), (5, .int (nI (by2 f (p + 8 + 8 * i + 4))))], [.ref q], M)) rfl h_ac rfl rfl ?_
              refine ps_st (S' := (97, [(0, .ref ac), (1, .int (nI p)), (2, .int (nI i)), (5, .int (nI (by2 f (p + 8 + 8 * i + 4))))], [.int (nI (by2 f (p + 8 + 8 * i + 4))), .ref q], M)) rfl rfl rfl ?_
              refine pl_call (a := [.ref q, .int (nI (by2 f (p + 8 + 8 * i + 4)))]) (rest := []) rfl rfl rfl (dy_tagOf (f := f) (n := n) (N := N) (q := q) (E := E) (j := (by2 f (p + 8 + 8 * i + 4))) (hV) (by2_lt _ _)) (fun v13 M14 q15 => ?_)
              obtain ⟨rfl, rfl⟩ := q15
              show pl _ _ _ (100, [(0, .ref ac), (1, .int (nI p)), (2, .int (nI i)), (5, .int (nI (by2 f (p + 8 + 8 * i + 4))))], [.int (nI (tg f E (by2 f (p + 8 + 8 * i + 4))))], M) _
              refine ps_st (S' := (101, [(0, .ref ac), (1, .int (nI p)), (2, .int (nI i)), (5, .int (nI (by2 f (p + 8 + 8 * i + 4))))], [.int 1, .int (nI (tg f E (by2 f (p + 8 + 8 * i + 4))))], M)) rfl rfl rfl ?_
              refine ps_if2 (S1 := (106, [(0, .ref ac), (1, .int (nI p)), (2, .int (nI i))], [], M)) (S2 := (104, [], [], M)) rfl rfl rfl (fun c_101 => ?_) (fun c_101 => ?_)
              · have c_101 : (nI (tg f E (by2 f (p + 8 + 8 * i + 4)))) = 1 := of_decide_eq_true c_101
                have n_101 : tg f E (by2 f (p + 8 + 8 * i + 4)) = 1 := (eq_nI (p := tg f E (by2 f (p + 8 + 8 * i + 4))) (n := 1) (Nat.lt_trans (tg_lt _ _ _) (by decide)) (by decide)).mp c_101
                refine ps_st (S' := (109, [(2, .int ((nI i) + 1)), (0, .ref ac), (1, .int (nI p))], [], M)) rfl rfl rfl ?_
                rw [nI_add1 (p := i) (k := 1) (x := 1) rfl (by omega)]
                show pl _ _ _ (_, [(2, .int (nI (i + 1))), (0, .ref ac), (1, .int (nI p))], [], M) _
                refine ps_st (S' := (2, [(0, .ref ac), (1, .int (nI p)), (2, .int (nI (i + 1)))], [], M)) rfl rfl rfl ?_
                exact ih (i + 1)  (by omega) (by
                    rw [← hs, inA_st (i := i) (by omega), if_neg (by unfold inR; rw [if_pos (by omega)]; decide)])
              · have c_101 : ¬ ((nI (tg f E (by2 f (p + 8 + 8 * i + 4)))) = 1) := of_decide_eq_false c_101
                have n_101 : ¬ (tg f E (by2 f (p + 8 + 8 * i + 4)) = 1) := fun h9 => c_101 ((eq_nI (p := tg f E (by2 f (p + 8 + 8 * i + 4))) (n := 1) (Nat.lt_trans (tg_lt _ _ _) (by decide)) (by decide)).mpr h9)
                refine ps_st (S' := (105, [], [.int 0], M)) rfl rfl rfl ?_
                exact ps_ret rfl rfl (⟨congrArg (fun x => some (Value.int (nI x))) (show 0 = inA f E (p + 8) ct 0 from by rw [← hs, inA_st (i := i) (by omega), if_pos (by unfold inR; rw [if_neg (by omega)])]), rfl⟩)
          · have c_69 : ¬ ((nI (by2 f (p + 8 + 8 * i + 2))) = 0) := of_decide_eq_false c_69
            have n_69 : ¬ (by2 f (p + 8 + 8 * i + 2) = 0) := fun h9 => c_69 ((eq_nI (p := by2 f (p + 8 + 8 * i + 2)) (n := 0) (Nat.lt_trans (by2_lt _ _) (by decide)) (by decide)).mpr h9)
            refine ps_st (S' := (73, [(5, .int (nI (by2 f (p + 8 + 8 * i + 4)))), (4, .int (nI (by2 f (p + 8 + 8 * i + 2)))), (3, .int (nI (p + 8 + 8 * i))), (0, .ref ac), (1, .int (nI p)), (2, .int (nI i))], [.ref ac], M)) rfl rfl rfl ?_
            refine ps_get (S' := (76, [(5, .int (nI (by2 f (p + 8 + 8 * i + 4)))), (4, .int (nI (by2 f (p + 8 + 8 * i + 2)))), (3, .int (nI (p + 8 + 8 * i))), (0, .ref ac), (1, .int (nI p)), (2, .int (nI i))], [.ref q], M)) rfl h_ac rfl rfl ?_
            refine ps_st (S' := (78, [(5, .int (nI (by2 f (p + 8 + 8 * i + 4)))), (4, .int (nI (by2 f (p + 8 + 8 * i + 2)))), (3, .int (nI (p + 8 + 8 * i))), (0, .ref ac), (1, .int (nI p)), (2, .int (nI i))], [.int (nI (by2 f (p + 8 + 8 * i + 2))), .ref q], M)) rfl rfl rfl ?_
            refine pl_call (a := [.ref q, .int (nI (by2 f (p + 8 + 8 * i + 2)))]) (rest := []) rfl rfl rfl (dy_tagOf (f := f) (n := n) (N := N) (q := q) (E := E) (j := (by2 f (p + 8 + 8 * i + 2))) (hV) (by2_lt _ _)) (fun v16 M17 q18 => ?_)
            obtain ⟨rfl, rfl⟩ := q18
            show pl _ _ _ (81, [(5, .int (nI (by2 f (p + 8 + 8 * i + 4)))), (4, .int (nI (by2 f (p + 8 + 8 * i + 2)))), (3, .int (nI (p + 8 + 8 * i))), (0, .ref ac), (1, .int (nI p)), (2, .int (nI i))], [.int (nI (tg f E (by2 f (p + 8 + 8 * i + 2))))], M) _
            refine ps_st (S' := (83, [(5, .int (nI (by2 f (p + 8 + 8 * i + 4)))), (4, .int (nI (by2 f (p + 8 + 8 * i + 2)))), (3, .int (nI (p + 8 + 8 * i))), (0, .ref ac), (1, .int (nI p)), (2, .int (nI i))], [.int 7, .int (nI (tg f E (by2 f (p + 8 + 8 * i + 2))))], M)) rfl rfl rfl ?_
            refine ps_if2 (S1 := (104, [], [], M)) (S2 := (86, [(0, .ref ac), (1, .int (nI p)), (2, .int (nI i)), (5, .int (nI (by2 f (p + 8 + 8 * i + 4))))], [], M)) rfl rfl rfl (fun c_83 => ?_) (fun c_83 => ?_)
            · have c_83 : ¬ (nI (tg f E (by2 f (p + 8 + 8 * i + 2)))) = 7 := of_decide_eq_true c_83
              have n_83 : ¬ (tg f E (by2 f (p + 8 + 8 * i + 2)) = 7) := fun h9 => c_83 ((eq_nI (p := tg f E (by2 f (p + 8 + 8 * i + 2))) (n := 7) (Nat.lt_trans (tg_lt _ _ _) (by decide)) (by decide)).mpr h9)
              refine ps_st (S' := (105, [], [.int 0], M)) rfl rfl rfl ?_
              exact ps_ret rfl rfl (⟨congrArg (fun x => some (Value.int (nI x))) (show 0 = inA f E (p + 8) ct 0 from by rw [← hs, inA_st (i := i) (by omega), if_pos (by unfold inR; rw [if_neg (by omega)])]), rfl⟩)
            · have c_83 : ¬ (¬ (nI (tg f E (by2 f (p + 8 + 8 * i + 2)))) = 7) := of_decide_eq_false c_83
              have n_83 : tg f E (by2 f (p + 8 + 8 * i + 2)) = 7 := (eq_nI (p := tg f E (by2 f (p + 8 + 8 * i + 2))) (n := 7) (Nat.lt_trans (tg_lt _ _ _) (by decide)) (by decide)).mp (Decidable.not_not.mp c_83)
              refine ps_st (S' := (88, [(0, .ref ac), (1, .int (nI p)), (2, .int (nI i)), (5, .int (nI (by2 f (p + 8 + 8 * i + 4))))], [.int (nI (by2 f (p + 8 + 8 * i + 4)))], M)) rfl rfl rfl ?_
              refine ps_if (S1 := (106, [(0, .ref ac), (1, .int (nI p)), (2, .int (nI i))], [], M)) (S2 := (91, [(0, .ref ac), (1, .int (nI p)), (2, .int (nI i)), (5, .int (nI (by2 f (p + 8 + 8 * i + 4))))], [], M)) rfl rfl rfl (fun c_88 => ?_) (fun c_88 => ?_)
              · have c_88 : (nI (by2 f (p + 8 + 8 * i + 4))) = 0 := of_decide_eq_true c_88
                have n_88 : by2 f (p + 8 + 8 * i + 4) = 0 := (eq_nI (p := by2 f (p + 8 + 8 * i + 4)) (n := 0) (Nat.lt_trans (by2_lt _ _) (by decide)) (by decide)).mp c_88
                refine ps_st (S' := (109, [(2, .int ((nI i) + 1)), (0, .ref ac), (1, .int (nI p))], [], M)) rfl rfl rfl ?_
                rw [nI_add1 (p := i) (k := 1) (x := 1) rfl (by omega)]
                show pl _ _ _ (_, [(2, .int (nI (i + 1))), (0, .ref ac), (1, .int (nI p))], [], M) _
                refine ps_st (S' := (2, [(0, .ref ac), (1, .int (nI p)), (2, .int (nI (i + 1)))], [], M)) rfl rfl rfl ?_
                exact ih (i + 1)  (by omega) (by
                    rw [← hs, inA_st (i := i) (by omega), if_neg (by unfold inR; rw [if_pos (by omega)]; decide)])
              · have c_88 : ¬ ((nI (by2 f (p + 8 + 8 * i + 4))) = 0) := of_decide_eq_false c_88
                have n_88 : ¬ (by2 f (p + 8 + 8 * i + 4) = 0) := fun h9 => c_88 ((eq_nI (p := by2 f (p + 8 + 8 * i + 4)) (n := 0) (Nat.lt_trans (by2_lt _ _) (by decide)) (by decide)).mpr h9)
                refine ps_st (S' := (92, [(0, .ref ac), (1, .int (nI p)), (2, .int (nI i)), (5, .int (nI (by2 f (p + 8 + 8 * i + 4))))], [.ref ac], M)) rfl rfl rfl ?_
                refine ps_get (S' := (95, [(0, .ref ac), (1, .int (nI p)), (2, .int (nI i)), (5, .int (nI (by2 f (p + 8 + 8 * i + 4))))], [.ref q], M)) rfl h_ac rfl rfl ?_
                refine ps_st (S' := (97, [(0, .ref ac), (1, .int (nI p)), (2, .int (nI i)), (5, .int (nI (by2 f (p + 8 + 8 * i + 4))))], [.int (nI (by2 f (p + 8 + 8 * i + 4))), .ref q], M)) rfl rfl rfl ?_
                refine pl_call (a := [.ref q, .int (nI (by2 f (p + 8 + 8 * i + 4)))]) (rest := []) rfl rfl rfl (dy_tagOf (f := f) (n := n) (N := N) (q := q) (E := E) (j := (by2 f (p + 8 + 8 * i + 4))) (hV) (by2_lt _ _)) (fun v19 M20 q21 => ?_)
                obtain ⟨rfl, rfl⟩ := q21
                show pl _ _ _ (100, [(0, .ref ac), (1, .int (nI p)), (2, .int (nI i)), (5, .int (nI (by2 f (p + 8 + 8 * i + 4))))], [.int (nI (tg f E (by2 f (p + 8 + 8 * i + 4))))], M) _
                refine ps_st (S' := (101, [(0, .ref ac), (1, .int (nI p)), (2, .int (nI i)), (5, .int (nI (by2 f (p + 8 + 8 * i + 4))))], [.int 1, .int (nI (tg f E (by2 f (p + 8 + 8 * i + 4))))], M)) rfl rfl rfl ?_
                refine ps_if2 (S1 := (106, [(0, .ref ac), (1, .int (nI p)), (2, .int (nI i))], [], M)) (S2 := (104, [], [], M)) rfl rfl rfl (fun c_101 => ?_) (fun c_101 => ?_)
                · have c_101 : (nI (tg f E (by2 f (p + 8 + 8 * i + 4)))) = 1 := of_decide_eq_true c_101
                  have n_101 : tg f E (by2 f (p + 8 + 8 * i + 4)) = 1 := (eq_nI (p := tg f E (by2 f (p + 8 + 8 * i + 4))) (n := 1) (Nat.lt_trans (tg_lt _ _ _) (by decide)) (by decide)).mp c_101
                  refine ps_st (S' := (109, [(2, .int ((nI i) + 1)), (0, .ref ac), (1, .int (nI p))], [], M)) rfl rfl rfl ?_
                  rw [nI_add1 (p := i) (k := 1) (x := 1) rfl (by omega)]
                  show pl _ _ _ (_, [(2, .int (nI (i + 1))), (0, .ref ac), (1, .int (nI p))], [], M) _
                  refine ps_st (S' := (2, [(0, .ref ac), (1, .int (nI p)), (2, .int (nI (i + 1)))], [], M)) rfl rfl rfl ?_
                  exact ih (i + 1)  (by omega) (by
                      rw [← hs, inA_st (i := i) (by omega), if_neg (by unfold inR; rw [if_pos (by omega)]; decide)])
                · have c_101 : ¬ ((nI (tg f E (by2 f (p + 8 + 8 * i + 4)))) = 1) := of_decide_eq_false c_101
                  have n_101 : ¬ (tg f E (by2 f (p + 8 + 8 * i + 4)) = 1) := fun h9 => c_101 ((eq_nI (p := tg f E (by2 f (p + 8 + 8 * i + 4))) (n := 1) (Nat.lt_trans (tg_lt _ _ _) (by decide)) (by decide)).mpr h9)
                  refine ps_st (S' := (105, [], [.int 0], M)) rfl rfl rfl ?_
                  exact ps_ret rfl rfl (⟨congrArg (fun x => some (Value.int (nI x))) (show 0 = inA f E (p + 8) ct 0 from by rw [← hs, inA_st (i := i) (by omega), if_pos (by unfold inR; rw [if_neg (by omega)])]), rfl⟩)
  refine ps_st (S' := (1, [(0, .ref ac), (1, .int (nI p))], [.int 0], M)) rfl rfl rfl ?_
  refine ps_st (S' := (2, [(0, .ref ac), (1, .int (nI p)), (2, .int 0)], [], M)) rfl rfl rfl ?_
  exact (LL kf) (0)  (by omega) (rfl)
set_option maxHeartbeats 1000000 in
theorem dk_bsHold {g : xe_G} {M : mi_H} {f : Nat → Int32} {n N q : Nat} {E : List (Nat × Nat)} {ac c b da vd fr mr fa ic mj na pa : Nat} {mi ru wa s1 k1 k2 k3 k4 k5 k6 k7 : Int32} {p0 ct e : Nat} (h_ac : M.1 ac = some (ob 0 [.ref c, .ref b, .ref q, .ref vd, .int s1])) (h_b : M.1 b = some (ob 1 [.ref da])) (h_da : M.1 da = some (ar .byte n f)) (h_c : M.1 c = some (ob 3 [.ref b, .ref q, .int mi, .int (nI mj), .int (nI fa), .int (nI ic), .ref fr, .ref mr, .int (nI na), .int (nI pa), .int k1, .int (nI ct), .int (nI p0), .int k4, .int k5, .int k6, .int k7])) (hn : n ≤ 65540) (hct : ct < 65536) (he : e ≤ n) (hf0 : s_bsE f e ct p0 = some e) (hV : PV g f n N E q M) : pt (mT g) 25 [.ref ac] M (fun v M' => (v = some (.int (nI (bsA f E ct p0))) ∧ M = M')) := by
  refine pt_in (b := mb_25 g) rfl (fun kf => ?_)
  show pl (mT g) kf (mb_25 g).2 (0, [(0, .ref ac)], [], M) _
  have LL : ∀ (kf : Nat), (∀ (i p : Nat), (i ≤ ct) → (s_bsE f e (ct - i) p = some e) → (bsA f E (ct - i) p = bsA f E ct p0) →  pl (mT g) kf (mb_25 g).2 (10, [(0, .ref ac), (1, .int (nI p)), (2, .int (nI i))], [], M) (fun v M' => (v = some (.int (nI (bsA f E ct p0))) ∧ M = M'))) ∧ (∀ (i p j : Nat), (i < ct) → (j ≤ by2 f (p + 2)) → (p + 4 + 2 * by2 f (p + 2) ≤ e) → (s_bsE f e (ct - (i + 1)) (p + 4 + 2 * by2 f (p + 2)) = some e) → (tg f E (by2 f p) = 15) → (bsA f E (ct - i) p = bsA f E ct p0) → (ldA f E (by2 f (p + 2) - j) (p + 4 + 2 * j) = ldA f E (by2 f (p + 2)) (p + 4)) →  pl (mT g) kf (mb_25 g).2 (60, [(0, .ref ac), (1, .int (nI (p + 4 + 2 * j))), (2, .int (nI i)), (3, .int (nI (by2 f (p + 2)))), (4, .int (nI j))], [], M) (fun v M' => (v = some (.int (nI (bsA f E ct p0))) ∧ M = M'))) := by
    intro kf
    induction kf with
    | zero => exact ⟨by intros; exact pl_0, by intros; exact pl_0⟩
    | succ kf ih =>
      refine ⟨?_, ?_⟩
      · skip
        intro i p hi hf hs
        have hq9 := s_bsE_in (i := i) (p := p) hf
        refine ps_st1 (S' := (11, [(0, .ref ac), (1, .int (nI p)), (2, .int (nI i))], [.int (nI i)], M)) rfl rfl rfl ?_
        refine ps_st (S' := (12, [(0, .ref ac), (1, .int (nI p)), (2, .int (nI i))], [.ref ac, .int (nI i)], M)) rfl rfl rfl ?_
        refine ps_get (S' := (15, [(0, .ref ac), (1, .int (nI p)), (2, .int (nI i))], [.ref c, .int (nI i)], M)) rfl h_ac rfl rfl ?_
        refine ps_get (S' := (18, [(0, .ref ac), (1, .int (nI p)), (2, .int (nI i))], [.int (nI ct), .int (nI i)], M)) rfl h_c rfl rfl ?_
        refine ps_if2 (S1 := (104, [(0, .ref ac), (1, .int (nI p)), (2, .int (nI i))], [], M)) (S2 := (21, [(0, .ref ac), (1, .int (nI p)), (2, .int (nI i))], [], M)) rfl rfl rfl (fun c_18 => ?_) (fun c_18 => ?_)
        · have c_18 : (nI ct) ≤ (nI i) := of_decide_eq_true c_18
          have n_18 : ct ≤ i := (le_nI (p := ct) (n := i) (by omega) (by omega)).mp c_18
          refine ps_st (S' := (105, [(0, .ref ac), (1, .int (nI p)), (2, .int (nI i))], [.int 1], M)) rfl rfl rfl ?_
          exact ps_ret rfl rfl (⟨congrArg (fun x => some (Value.int (nI x))) (show 1 = bsA f E ct p0 from by rw [← hs, show ct - i = 0 by omega, bsA]), rfl⟩)
        · have c_18 : ¬ ((nI ct) ≤ (nI i)) := of_decide_eq_false c_18
          have n_18 : ¬ (ct ≤ i) := fun h9 => c_18 ((le_nI (p := ct) (n := i) (by omega) (by omega)).mpr h9)
          refine ps_st (S' := (22, [(0, .ref ac), (1, .int (nI p)), (2, .int (nI i))], [.ref ac], M)) rfl rfl rfl ?_
          refine ps_get (S' := (25, [(0, .ref ac), (1, .int (nI p)), (2, .int (nI i))], [.ref q], M)) rfl h_ac rfl rfl ?_
          refine ps_st (S' := (26, [(0, .ref ac), (1, .int (nI p)), (2, .int (nI i))], [.ref ac, .ref q], M)) rfl rfl rfl ?_
          refine ps_get (S' := (29, [(0, .ref ac), (1, .int (nI p)), (2, .int (nI i))], [.ref b, .ref q], M)) rfl h_ac rfl rfl ?_
          refine ps_st (S' := (30, [(0, .ref ac), (1, .int (nI p)), (2, .int (nI i))], [.int (nI p), .ref b, .ref q], M)) rfl rfl rfl ?_
          refine pl_call (a := [.ref b, .int (nI p)]) (rest := [.ref q]) rfl rfl rfl (dk_u2 (f := f) (n := n) (b := b) (da := da) (p := p) h_b h_da (hn) (by omega)) (fun v1 M2 q3 => ?_)
          obtain ⟨rfl, rfl⟩ := q3
          show pl _ _ _ (33, [(0, .ref ac), (1, .int (nI p)), (2, .int (nI i))], [.int (nI (by2 f p)), .ref q], M) _
          have hu_30 := by2_lt f p
          refine pl_call (a := [.ref q, .int (nI (by2 f p))]) (rest := []) rfl rfl rfl (dy_tagOf (f := f) (n := n) (N := N) (q := q) (E := E) (j := (by2 f p)) (hV) (by2_lt _ _)) (fun v4 M5 q6 => ?_)
          obtain ⟨rfl, rfl⟩ := q6
          show pl _ _ _ (36, [(0, .ref ac), (1, .int (nI p)), (2, .int (nI i))], [.int (nI (tg f E (by2 f p)))], M) _
          refine ps_st (S' := (38, [(0, .ref ac), (1, .int (nI p)), (2, .int (nI i))], [.int 15, .int (nI (tg f E (by2 f p)))], M)) rfl rfl rfl ?_
          refine ps_if2 (S1 := (43, [(0, .ref ac), (1, .int (nI p)), (2, .int (nI i))], [], M)) (S2 := (41, [(0, .ref ac), (1, .int (nI p)), (2, .int (nI i))], [], M)) rfl rfl rfl (fun c_38 => ?_) (fun c_38 => ?_)
          · have c_38 : (nI (tg f E (by2 f p))) = 15 := of_decide_eq_true c_38
            have n_38 : tg f E (by2 f p) = 15 := (eq_nI (p := tg f E (by2 f p)) (n := 15) (Nat.lt_trans (tg_lt _ _ _) (by decide)) (by decide)).mp c_38
            refine ps_st (S' := (44, [(0, .ref ac), (1, .int (nI p)), (2, .int (nI i))], [.ref ac], M)) rfl rfl rfl ?_
            refine ps_get (S' := (47, [(0, .ref ac), (1, .int (nI p)), (2, .int (nI i))], [.ref b], M)) rfl h_ac rfl rfl ?_
            refine ps_st (S' := (48, [(0, .ref ac), (1, .int (nI p)), (2, .int (nI i))], [.int (nI p), .ref b], M)) rfl rfl rfl ?_
            refine ps_st (S' := (49, [(0, .ref ac), (1, .int (nI p)), (2, .int (nI i))], [.int 2, .int (nI p), .ref b], M)) rfl rfl rfl ?_
            refine ps_st (S' := (50, [(0, .ref ac), (1, .int (nI p)), (2, .int (nI i))], [.int ((nI p) + 2), .ref b], M)) rfl rfl rfl ?_
            rw [nI_add1 (p := p) (k := 2) (x := 2) rfl (by omega)]
            show pl _ _ _ (_, [(0, .ref ac), (1, .int (nI p)), (2, .int (nI i))], [.int (nI (p + 2)), .ref b], M) _
            refine pl_call (a := [.ref b, .int (nI (p + 2))]) (rest := []) rfl rfl rfl (dk_u2 (f := f) (n := n) (b := b) (da := da) (p := (p + 2)) h_b h_da (hn) (by omega)) (fun v7 M8 q9 => ?_)
            obtain ⟨rfl, rfl⟩ := q9
            show pl _ _ _ (53, [(0, .ref ac), (1, .int (nI p)), (2, .int (nI i))], [.int (nI (by2 f (p + 2)))], M) _
            have hu_50 := by2_lt f (p + 2)
            refine ps_st (S' := (54, [(3, .int (nI (by2 f (p + 2)))), (0, .ref ac), (1, .int (nI p)), (2, .int (nI i))], [], M)) rfl rfl rfl ?_
            refine ps_st (S' := (57, [(1, .int ((nI p) + 4)), (3, .int (nI (by2 f (p + 2)))), (0, .ref ac), (2, .int (nI i))], [], M)) rfl rfl rfl ?_
            rw [nI_add1 (p := p) (k := 4) (x := 4) rfl (by omega)]
            show pl _ _ _ (_, [(1, .int (nI (p + 4))), (3, .int (nI (by2 f (p + 2)))), (0, .ref ac), (2, .int (nI i))], [], M) _
            refine ps_st (S' := (58, [(1, .int (nI (p + 4))), (3, .int (nI (by2 f (p + 2)))), (0, .ref ac), (2, .int (nI i))], [.int 0], M)) rfl rfl rfl ?_
            refine ps_st (S' := (60, [(0, .ref ac), (1, .int (nI (p + 4))), (2, .int (nI i)), (3, .int (nI (by2 f (p + 2)))), (4, .int 0)], [], M)) rfl rfl rfl ?_
            exact ih.2 (i) (p) (0)  (by omega) (by omega) ((hq9 (by omega)).2.1) ((hq9 (by omega)).2.2) (by omega) (hs) (rfl)
          · have c_38 : ¬ ((nI (tg f E (by2 f p))) = 15) := of_decide_eq_false c_38
            have n_38 : ¬ (tg f E (by2 f p) = 15) := fun h9 => c_38 ((eq_nI (p := tg f E (by2 f p)) (n := 15) (Nat.lt_trans (tg_lt _ _ _) (by decide)) (by decide)).mpr h9)
            refine ps_st (S' := (42, [(0, .ref ac), (1, .int (nI p)), (2, .int (nI i))], [.int 0], M)) rfl rfl rfl ?_
            exact ps_ret rfl rfl (⟨congrArg (fun x => some (Value.int (nI x))) (show 0 = bsA f E ct p0 from by rw [← hs, bsA_st (i := i) (p := p) (by omega), if_pos (by omega)]), rfl⟩)
      · skip
        intro i p j hi hj hle hf2 h15 hs hd
        have hu9 := by2_lt f (p + 2)
        refine ps_st1 (S' := (62, [(0, .ref ac), (1, .int (nI (p + 4 + 2 * j))), (2, .int (nI i)), (3, .int (nI (by2 f (p + 2)))), (4, .int (nI j))], [.int (nI j)], M)) rfl rfl rfl ?_
        refine ps_st (S' := (63, [(0, .ref ac), (1, .int (nI (p + 4 + 2 * j))), (2, .int (nI i)), (3, .int (nI (by2 f (p + 2)))), (4, .int (nI j))], [.int (nI (by2 f (p + 2))), .int (nI j)], M)) rfl rfl rfl ?_
        refine ps_if2 (S1 := (98, [(0, .ref ac), (1, .int (nI (p + 4 + 2 * j))), (2, .int (nI i)), (3, .int (nI (by2 f (p + 2)))), (4, .int (nI j))], [], M)) (S2 := (66, [(0, .ref ac), (1, .int (nI (p + 4 + 2 * j))), (2, .int (nI i)), (3, .int (nI (by2 f (p + 2)))), (4, .int (nI j))], [], M)) rfl rfl rfl (fun c_63 => ?_) (fun c_63 => ?_)
        · have c_63 : (nI (by2 f (p + 2))) ≤ (nI j) := of_decide_eq_true c_63
          have n_63 : by2 f (p + 2) ≤ j := (le_nI (p := by2 f (p + 2)) (n := j) (Nat.lt_trans (by2_lt _ _) (by decide)) (by omega)).mp c_63
          refine ps_st (S' := (101, [(2, .int ((nI i) + 1)), (0, .ref ac), (1, .int (nI (p + 4 + 2 * j))), (3, .int (nI (by2 f (p + 2)))), (4, .int (nI j))], [], M)) rfl rfl rfl ?_
          rw [nI_add1 (p := i) (k := 1) (x := 1) rfl (by omega)]
          show pl _ _ _ (_, [(2, .int (nI (i + 1))), (0, .ref ac), (1, .int (nI (p + 4 + 2 * j))), (3, .int (nI (by2 f (p + 2)))), (4, .int (nI j))], [], M) _
          refine ps_st (S' := (10, [(0, .ref ac), (1, .int (nI (p + 4 + 2 * j))), (2, .int (nI (i + 1)))], [], M)) rfl rfl rfl ?_
          rw [show p + 4 + 2 * j = p + 4 + 2 * by2 f (p + 2) by omega]
          exact ih.1 (i + 1) (p + 4 + 2 * by2 f (p + 2))  (by omega) (hf2) (by rw [← hs, bsA_st (i := i) (p := p) hi, if_neg (by omega), if_neg (by rw [← hd, show by2 f (p + 2) - j = 0 by omega]; exact Nat.one_ne_zero)])
        · have c_63 : ¬ ((nI (by2 f (p + 2))) ≤ (nI j)) := of_decide_eq_false c_63
          have n_63 : ¬ (by2 f (p + 2) ≤ j) := fun h9 => c_63 ((le_nI (p := by2 f (p + 2)) (n := j) (Nat.lt_trans (by2_lt _ _) (by decide)) (by omega)).mpr h9)
          refine ps_st (S' := (67, [(0, .ref ac), (1, .int (nI (p + 4 + 2 * j))), (2, .int (nI i)), (3, .int (nI (by2 f (p + 2)))), (4, .int (nI j))], [.ref ac], M)) rfl rfl rfl ?_
          refine ps_get (S' := (70, [(0, .ref ac), (1, .int (nI (p + 4 + 2 * j))), (2, .int (nI i)), (3, .int (nI (by2 f (p + 2)))), (4, .int (nI j))], [.ref q], M)) rfl h_ac rfl rfl ?_
          refine ps_st (S' := (71, [(0, .ref ac), (1, .int (nI (p + 4 + 2 * j))), (2, .int (nI i)), (3, .int (nI (by2 f (p + 2)))), (4, .int (nI j))], [.ref ac, .ref q], M)) rfl rfl rfl ?_
          refine ps_get (S' := (74, [(0, .ref ac), (1, .int (nI (p + 4 + 2 * j))), (2, .int (nI i)), (3, .int (nI (by2 f (p + 2)))), (4, .int (nI j))], [.ref b, .ref q], M)) rfl h_ac rfl rfl ?_
          refine ps_st (S' := (75, [(0, .ref ac), (1, .int (nI (p + 4 + 2 * j))), (2, .int (nI i)), (3, .int (nI (by2 f (p + 2)))), (4, .int (nI j))], [.int (nI (p + 4 + 2 * j)), .ref b, .ref q], M)) rfl rfl rfl ?_
          refine pl_call (a := [.ref b, .int (nI (p + 4 + 2 * j))]) (rest := [.ref q]) rfl rfl rfl (dk_u2 (f := f) (n := n) (b := b) (da := da) (p := (p + 4 + 2 * j)) h_b h_da (hn) (by omega)) (fun v10 M11 q12 => ?_)
          obtain ⟨rfl, rfl⟩ := q12
          show pl _ _ _ (78, [(0, .ref ac), (1, .int (nI (p + 4 + 2 * j))), (2, .int (nI i)), (3, .int (nI (by2 f (p + 2)))), (4, .int (nI j))], [.int (nI (by2 f (p + 4 + 2 * j))), .ref q], M) _
          have hu_75 := by2_lt f (p + 4 + 2 * j)
          refine pl_call (a := [.ref q, .int (nI (by2 f (p + 4 + 2 * j)))]) (rest := []) rfl rfl rfl (dy_tagOf (f := f) (n := n) (N := N) (q := q) (E := E) (j := (by2 f (p + 4 + 2 * j))) (hV) (by2_lt _ _)) (fun v13 M14 q15 => ?_)
          obtain ⟨rfl, rfl⟩ := q15
          show pl _ _ _ (81, [(0, .ref ac), (1, .int (nI (p + 4 + 2 * j))), (2, .int (nI i)), (3, .int (nI (by2 f (p + 2)))), (4, .int (nI j))], [.int (nI (tg f E (by2 f (p + 4 + 2 * j))))], M) _
          refine pl_call (a := [.int (nI (tg f E (by2 f (p + 4 + 2 * j))))]) (rest := []) rfl rfl rfl (dk_isLoadable (t := (tg f E (by2 f (p + 4 + 2 * j)))) (Nat.lt_trans (tg_lt _ _ _) (by decide))) (fun v16 M17 q18 => ?_)
          obtain ⟨rfl, rfl⟩ := q18
          show pl _ _ _ (84, [(0, .ref ac), (1, .int (nI (p + 4 + 2 * j))), (2, .int (nI i)), (3, .int (nI (by2 f (p + 2)))), (4, .int (nI j))], [.int (nI (ldN (tg f E (by2 f (p + 4 + 2 * j)))))], M) _
          refine ps_if (S1 := (89, [(0, .ref ac), (1, .int (nI (p + 4 + 2 * j))), (2, .int (nI i)), (3, .int (nI (by2 f (p + 2)))), (4, .int (nI j))], [], M)) (S2 := (87, [(0, .ref ac), (1, .int (nI (p + 4 + 2 * j))), (2, .int (nI i)), (3, .int (nI (by2 f (p + 2)))), (4, .int (nI j))], [], M)) rfl rfl rfl (fun c_84 => ?_) (fun c_84 => ?_)
          · have c_84 : ¬ (nI (ldN (tg f E (by2 f (p + 4 + 2 * j))))) = 0 := of_decide_eq_true c_84
            have n_84 : ¬ (ldN (tg f E (by2 f (p + 4 + 2 * j))) = 0) := fun h9 => c_84 ((eq_nI (p := ldN (tg f E (by2 f (p + 4 + 2 * j)))) (n := 0) (Nat.lt_trans (le1_ld _) (by decide)) (by decide)).mpr h9)
            refine ps_st (S' := (92, [(1, .int ((nI (p + 4 + 2 * j)) + 2)), (0, .ref ac), (2, .int (nI i)), (3, .int (nI (by2 f (p + 2)))), (4, .int (nI j))], [], M)) rfl rfl rfl ?_
            rw [nI_add1 (p := p + 4 + 2 * j) (k := 2) (x := 2) rfl (by omega)]
            show pl _ _ _ (_, [(1, .int (nI (p + 4 + 2 * j + 2))), (0, .ref ac), (2, .int (nI i)), (3, .int (nI (by2 f (p + 2)))), (4, .int (nI j))], [], M) _
            refine ps_st (S' := (95, [(4, .int ((nI j) + 1)), (1, .int (nI (p + 4 + 2 * j + 2))), (0, .ref ac), (2, .int (nI i)), (3, .int (nI (by2 f (p + 2))))], [], M)) rfl rfl rfl ?_
            rw [nI_add1 (p := j) (k := 1) (x := 1) rfl (by omega)]
            show pl _ _ _ (_, [(4, .int (nI (j + 1))), (1, .int (nI (p + 4 + 2 * j + 2))), (0, .ref ac), (2, .int (nI i)), (3, .int (nI (by2 f (p + 2))))], [], M) _
            refine ps_st (S' := (60, [(0, .ref ac), (1, .int (nI (p + 4 + 2 * j + 2))), (2, .int (nI i)), (3, .int (nI (by2 f (p + 2)))), (4, .int (nI (j + 1)))], [], M)) rfl rfl rfl ?_
            exact ih.2 (i) (p) (j + 1)  (hi) (by omega) (hle) (hf2) (h15) (hs) (by
                rw [← hd, ldA_st (i := j) (by omega), if_neg (by omega)]
                rfl)
          · have c_84 : ¬ (¬ (nI (ldN (tg f E (by2 f (p + 4 + 2 * j))))) = 0) := of_decide_eq_false c_84
            have n_84 : ldN (tg f E (by2 f (p + 4 + 2 * j))) = 0 := (eq_nI (p := ldN (tg f E (by2 f (p + 4 + 2 * j)))) (n := 0) (Nat.lt_trans (le1_ld _) (by decide)) (by decide)).mp (Decidable.not_not.mp c_84)
            refine ps_st (S' := (88, [(0, .ref ac), (1, .int (nI (p + 4 + 2 * j))), (2, .int (nI i)), (3, .int (nI (by2 f (p + 2)))), (4, .int (nI j))], [.int 0], M)) rfl rfl rfl ?_
            exact ps_ret rfl rfl (⟨congrArg (fun x => some (Value.int (nI x))) (show 0 = bsA f E ct p0 from by rw [← hs, bsA_st (i := i) (p := p) hi, if_neg (by omega), if_pos (by rw [← hd, ldA_st (i := j) (by omega), if_pos (by omega)])]), rfl⟩)
  refine ps_st (S' := (1, [(0, .ref ac)], [.ref ac], M)) rfl rfl rfl ?_
  refine ps_get (S' := (4, [(0, .ref ac)], [.ref c], M)) rfl h_ac rfl rfl ?_
  refine ps_get (S' := (7, [(0, .ref ac)], [.int (nI p0)], M)) rfl h_c rfl rfl ?_
  refine ps_st (S' := (8, [(1, .int (nI p0)), (0, .ref ac)], [], M)) rfl rfl rfl ?_
  refine ps_st (S' := (9, [(1, .int (nI p0)), (0, .ref ac)], [.int 0], M)) rfl rfl rfl ?_
  refine ps_st (S' := (10, [(0, .ref ac), (1, .int (nI p0)), (2, .int 0)], [], M)) rfl rfl rfl ?_
  exact (LL kf).1 (0) (p0)  (by omega) (hf0) (rfl)
set_option maxHeartbeats 1000000 in
theorem dk_rowHolds {g : xe_G} {M : mi_H} {f : Nat → Int32} {n N q : Nat} {E : List (Nat × Nat)} {ac c b da vd fr mr fa ic mj na pa : Nat} {mi ru wa s1 k1 k2 k3 k4 k5 k6 k7 : Int32} {cd0 p len : Nat} {y1 y2 y3 y4 y6 y8 : Int32} {v5 v7 v9 v10 : Value} (h_ac : M.1 ac = some (ob 0 [.ref c, .ref b, .ref q, .ref vd, .int s1])) (h_b : M.1 b = some (ob 1 [.ref da])) (h_da : M.1 da = some (ar .byte n f)) (h_cd0 : M.1 cd0 = some (ob 4 [.int y1, .int y2, .int (nI len), .int y3, .int y4, v5, .int y6, v7, .int y8, v9, v10])) (hn : n ≤ 65540) (hl : len < 65536) (hin : p + 8 ≤ n) (hV : PV g f n N E q M) : pt (mT g) 43 [.ref ac, .ref cd0, .int (nI p)] M (fun v M' => (v = some (.int (nI (rwN f E len p))) ∧ M = M')) := by
  refine pt_in (b := mb_43 g) rfl (fun kf => ?_)
  show pl (mT g) kf (mb_43 g).2 (0, [(0, .ref ac), (1, .ref cd0), (2, .int (nI p))], [], M) _
  refine ps_st (S' := (1, [(0, .ref ac), (1, .ref cd0), (2, .int (nI p))], [.ref ac], M)) rfl rfl rfl ?_
  refine ps_get (S' := (4, [(0, .ref ac), (1, .ref cd0), (2, .int (nI p))], [.ref b], M)) rfl h_ac rfl rfl ?_
  refine ps_st (S' := (5, [(0, .ref ac), (1, .ref cd0), (2, .int (nI p))], [.int (nI p), .ref b], M)) rfl rfl rfl ?_
  refine ps_st (S' := (6, [(0, .ref ac), (1, .ref cd0), (2, .int (nI p))], [.int 2, .int (nI p), .ref b], M)) rfl rfl rfl ?_
  refine ps_st (S' := (7, [(0, .ref ac), (1, .ref cd0), (2, .int (nI p))], [.int ((nI p) + 2), .ref b], M)) rfl rfl rfl ?_
  rw [nI_add1 (p := p) (k := 2) (x := 2) rfl (by omega)]
  show pl _ _ _ (_, [(0, .ref ac), (1, .ref cd0), (2, .int (nI p))], [.int (nI (p + 2)), .ref b], M) _
  refine pl_call (a := [.ref b, .int (nI (p + 2))]) (rest := []) rfl rfl rfl (dk_u2 (f := f) (n := n) (b := b) (da := da) (p := (p + 2)) h_b h_da (hn) (by omega)) (fun v1 M2 q3 => ?_)
  obtain ⟨rfl, rfl⟩ := q3
  show pl _ _ _ (10, [(0, .ref ac), (1, .ref cd0), (2, .int (nI p))], [.int (nI (by2 f (p + 2)))], M) _
  have hu_7 := by2_lt f (p + 2)
  refine ps_st (S' := (11, [(3, .int (nI (by2 f (p + 2)))), (0, .ref ac), (1, .ref cd0), (2, .int (nI p))], [], M)) rfl rfl rfl ?_
  refine ps_st (S' := (12, [(3, .int (nI (by2 f (p + 2)))), (0, .ref ac), (1, .ref cd0), (2, .int (nI p))], [.ref ac], M)) rfl rfl rfl ?_
  refine ps_get (S' := (15, [(3, .int (nI (by2 f (p + 2)))), (0, .ref ac), (1, .ref cd0), (2, .int (nI p))], [.ref b], M)) rfl h_ac rfl rfl ?_
  refine ps_st (S' := (16, [(3, .int (nI (by2 f (p + 2)))), (0, .ref ac), (1, .ref cd0), (2, .int (nI p))], [.int (nI p), .ref b], M)) rfl rfl rfl ?_
  refine ps_st (S' := (18, [(3, .int (nI (by2 f (p + 2)))), (0, .ref ac), (1, .ref cd0), (2, .int (nI p))], [.int 6, .int (nI p), .ref b], M)) rfl rfl rfl ?_
  refine ps_st (S' := (19, [(3, .int (nI (by2 f (p + 2)))), (0, .ref ac), (1, .ref cd0), (2, .int (nI p))], [.int ((nI p) + 6), .ref b], M)) rfl rfl rfl ?_
  rw [nI_add1 (p := p) (k := 6) (x := 6) rfl (by omega)]
  show pl _ _ _ (_, [(3, .int (nI (by2 f (p + 2)))), (0, .ref ac), (1, .ref cd0), (2, .int (nI p))], [.int (nI (p + 6)), .ref b], M) _
  refine pl_call (a := [.ref b, .int (nI (p + 6))]) (rest := []) rfl rfl rfl (dk_u2 (f := f) (n := n) (b := b) (da := da) (p := (p + 6)) h_b h_da (hn) (by omega)) (fun v4 M5 q6 => ?_)
  obtain ⟨rfl, rfl⟩ := q6
  show pl _ _ _ (22, [(3, .int (nI (by2 f (p + 2)))), (0, .ref ac), (1, .ref cd0), (2, .int (nI p))], [.int (nI (by2 f (p + 6)))], M) _
  have hu_19 := by2_lt f (p + 6)
  refine ps_st (S' := (24, [(4, .int (nI (by2 f (p + 6)))), (3, .int (nI (by2 f (p + 2)))), (0, .ref ac), (1, .ref cd0), (2, .int (nI p))], [], M)) rfl rfl rfl ?_
  refine ps_st (S' := (25, [(4, .int (nI (by2 f (p + 6)))), (3, .int (nI (by2 f (p + 2)))), (0, .ref ac), (1, .ref cd0), (2, .int (nI p))], [.ref ac], M)) rfl rfl rfl ?_
  refine ps_get (S' := (28, [(4, .int (nI (by2 f (p + 6)))), (3, .int (nI (by2 f (p + 2)))), (0, .ref ac), (1, .ref cd0), (2, .int (nI p))], [.ref b], M)) rfl h_ac rfl rfl ?_
  refine ps_st (S' := (29, [(4, .int (nI (by2 f (p + 6)))), (3, .int (nI (by2 f (p + 2)))), (0, .ref ac), (1, .ref cd0), (2, .int (nI p))], [.int (nI p), .ref b], M)) rfl rfl rfl ?_
  refine pl_call (a := [.ref b, .int (nI p)]) (rest := []) rfl rfl rfl (dk_u2 (f := f) (n := n) (b := b) (da := da) (p := p) h_b h_da (hn) (by omega)) (fun v7 M8 q9 => ?_)
  obtain ⟨rfl, rfl⟩ := q9
  show pl _ _ _ (32, [(4, .int (nI (by2 f (p + 6)))), (3, .int (nI (by2 f (p + 2)))), (0, .ref ac), (1, .ref cd0), (2, .int (nI p))], [.int (nI (by2 f p))], M) _
  have hu_29 := by2_lt f p
  refine ps_st (S' := (33, [(4, .int (nI (by2 f (p + 6)))), (3, .int (nI (by2 f (p + 2)))), (0, .ref ac), (1, .ref cd0), (2, .int (nI p))], [.int (nI (by2 f (p + 2))), .int (nI (by2 f p))], M)) rfl rfl rfl ?_
  refine ps_if2 (S1 := (84, [], [], M)) (S2 := (36, [(4, .int (nI (by2 f (p + 6)))), (3, .int (nI (by2 f (p + 2)))), (0, .ref ac), (1, .ref cd0), (2, .int (nI p))], [], M)) rfl rfl rfl (fun c_33 => ?_) (fun c_33 => ?_)
  · have c_33 : (nI (by2 f (p + 2))) ≤ (nI (by2 f p)) := of_decide_eq_true c_33
    have n_33 : by2 f (p + 2) ≤ by2 f p := (le_nI (p := by2 f (p + 2)) (n := by2 f p) (Nat.lt_trans (by2_lt _ _) (by decide)) (Nat.lt_trans (by2_lt _ _) (by decide))).mp c_33
    refine ps_st (S' := (85, [], [.int 0], M)) rfl rfl rfl ?_
    exact ps_ret rfl rfl (⟨congrArg (fun x => some (Value.int (nI x))) (show 0 = rwN f E len p from by
        unfold rwN
        first | ((repeat first | rw [if_pos (by omega)] | rw [if_neg (by omega)]) <;> first | rfl | omega) | ((repeat' split) <;> first | rfl | (exfalso; omega) | omega)), rfl⟩)
  · have c_33 : ¬ ((nI (by2 f (p + 2))) ≤ (nI (by2 f p))) := of_decide_eq_false c_33
    have n_33 : ¬ (by2 f (p + 2) ≤ by2 f p) := fun h9 => c_33 ((le_nI (p := by2 f (p + 2)) (n := by2 f p) (Nat.lt_trans (by2_lt _ _) (by decide)) (Nat.lt_trans (by2_lt _ _) (by decide))).mpr h9)
    refine ps_st (S' := (37, [(4, .int (nI (by2 f (p + 6)))), (3, .int (nI (by2 f (p + 2)))), (0, .ref ac), (1, .ref cd0), (2, .int (nI p))], [.int (nI (by2 f (p + 2)))], M)) rfl rfl rfl ?_
    refine ps_st (S' := (38, [(4, .int (nI (by2 f (p + 6)))), (3, .int (nI (by2 f (p + 2)))), (0, .ref ac), (1, .ref cd0), (2, .int (nI p))], [.ref cd0, .int (nI (by2 f (p + 2)))], M)) rfl rfl rfl ?_
    refine ps_get (S' := (41, [(4, .int (nI (by2 f (p + 6)))), (3, .int (nI (by2 f (p + 2)))), (0, .ref ac), (1, .ref cd0), (2, .int (nI p))], [.int (nI len), .int (nI (by2 f (p + 2)))], M)) rfl h_cd0 rfl rfl ?_
    refine ps_if2 (S1 := (84, [], [], M)) (S2 := (44, [(4, .int (nI (by2 f (p + 6)))), (3, .int (nI (by2 f (p + 2)))), (0, .ref ac), (1, .ref cd0), (2, .int (nI p))], [], M)) rfl rfl rfl (fun c_41 => ?_) (fun c_41 => ?_)
    · have c_41 : (nI len) < (nI (by2 f (p + 2))) := of_decide_eq_true c_41
      have n_41 : len < by2 f (p + 2) := (lt_nI (p := len) (n := by2 f (p + 2)) (by omega) (Nat.lt_trans (by2_lt _ _) (by decide))).mp c_41
      refine ps_st (S' := (85, [], [.int 0], M)) rfl rfl rfl ?_
      exact ps_ret rfl rfl (⟨congrArg (fun x => some (Value.int (nI x))) (show 0 = rwN f E len p from by
          unfold rwN
          first | ((repeat first | rw [if_pos (by omega)] | rw [if_neg (by omega)]) <;> first | rfl | omega) | ((repeat' split) <;> first | rfl | (exfalso; omega) | omega)), rfl⟩)
    · have c_41 : ¬ ((nI len) < (nI (by2 f (p + 2)))) := of_decide_eq_false c_41
      have n_41 : ¬ (len < by2 f (p + 2)) := fun h9 => c_41 ((lt_nI (p := len) (n := by2 f (p + 2)) (by omega) (Nat.lt_trans (by2_lt _ _) (by decide))).mpr h9)
      refine ps_st (S' := (45, [(4, .int (nI (by2 f (p + 6)))), (3, .int (nI (by2 f (p + 2)))), (0, .ref ac), (1, .ref cd0), (2, .int (nI p))], [.ref ac], M)) rfl rfl rfl ?_
      refine ps_get (S' := (48, [(4, .int (nI (by2 f (p + 6)))), (3, .int (nI (by2 f (p + 2)))), (0, .ref ac), (1, .ref cd0), (2, .int (nI p))], [.ref b], M)) rfl h_ac rfl rfl ?_
      refine ps_st (S' := (49, [(4, .int (nI (by2 f (p + 6)))), (3, .int (nI (by2 f (p + 2)))), (0, .ref ac), (1, .ref cd0), (2, .int (nI p))], [.int (nI p), .ref b], M)) rfl rfl rfl ?_
      refine ps_st (S' := (50, [(4, .int (nI (by2 f (p + 6)))), (3, .int (nI (by2 f (p + 2)))), (0, .ref ac), (1, .ref cd0), (2, .int (nI p))], [.int 4, .int (nI p), .ref b], M)) rfl rfl rfl ?_
      refine ps_st (S' := (51, [(4, .int (nI (by2 f (p + 6)))), (3, .int (nI (by2 f (p + 2)))), (0, .ref ac), (1, .ref cd0), (2, .int (nI p))], [.int ((nI p) + 4), .ref b], M)) rfl rfl rfl ?_
      rw [nI_add1 (p := p) (k := 4) (x := 4) rfl (by omega)]
      show pl _ _ _ (_, [(4, .int (nI (by2 f (p + 6)))), (3, .int (nI (by2 f (p + 2)))), (0, .ref ac), (1, .ref cd0), (2, .int (nI p))], [.int (nI (p + 4)), .ref b], M) _
      refine pl_call (a := [.ref b, .int (nI (p + 4))]) (rest := []) rfl rfl rfl (dk_u2 (f := f) (n := n) (b := b) (da := da) (p := (p + 4)) h_b h_da (hn) (by omega)) (fun v10 M11 q12 => ?_)
      obtain ⟨rfl, rfl⟩ := q12
      show pl _ _ _ (54, [(4, .int (nI (by2 f (p + 6)))), (3, .int (nI (by2 f (p + 2)))), (0, .ref ac), (1, .ref cd0), (2, .int (nI p))], [.int (nI (by2 f (p + 4)))], M) _
      have hu_51 := by2_lt f (p + 4)
      refine ps_st (S' := (55, [(4, .int (nI (by2 f (p + 6)))), (3, .int (nI (by2 f (p + 2)))), (0, .ref ac), (1, .ref cd0), (2, .int (nI p))], [.ref cd0, .int (nI (by2 f (p + 4)))], M)) rfl rfl rfl ?_
      refine ps_get (S' := (58, [(4, .int (nI (by2 f (p + 6)))), (3, .int (nI (by2 f (p + 2)))), (0, .ref ac), (1, .ref cd0), (2, .int (nI p))], [.int (nI len), .int (nI (by2 f (p + 4)))], M)) rfl h_cd0 rfl rfl ?_
      refine ps_if2 (S1 := (84, [], [], M)) (S2 := (61, [(4, .int (nI (by2 f (p + 6)))), (3, .int (nI (by2 f (p + 2)))), (0, .ref ac), (1, .ref cd0), (2, .int (nI p))], [], M)) rfl rfl rfl (fun c_58 => ?_) (fun c_58 => ?_)
      · have c_58 : (nI len) ≤ (nI (by2 f (p + 4))) := of_decide_eq_true c_58
        have n_58 : len ≤ by2 f (p + 4) := (le_nI (p := len) (n := by2 f (p + 4)) (by omega) (Nat.lt_trans (by2_lt _ _) (by decide))).mp c_58
        refine ps_st (S' := (85, [], [.int 0], M)) rfl rfl rfl ?_
        exact ps_ret rfl rfl (⟨congrArg (fun x => some (Value.int (nI x))) (show 0 = rwN f E len p from by
            unfold rwN
            first | ((repeat first | rw [if_pos (by omega)] | rw [if_neg (by omega)]) <;> first | rfl | omega) | ((repeat' split) <;> first | rfl | (exfalso; omega) | omega)), rfl⟩)
      · have c_58 : ¬ ((nI len) ≤ (nI (by2 f (p + 4)))) := of_decide_eq_false c_58
        have n_58 : ¬ (len ≤ by2 f (p + 4)) := fun h9 => c_58 ((le_nI (p := len) (n := by2 f (p + 4)) (by omega) (Nat.lt_trans (by2_lt _ _) (by decide))).mpr h9)
        refine ps_st (S' := (63, [(4, .int (nI (by2 f (p + 6)))), (3, .int (nI (by2 f (p + 2)))), (0, .ref ac), (1, .ref cd0), (2, .int (nI p))], [.int (nI (by2 f (p + 6)))], M)) rfl rfl rfl ?_
        refine ps_if (S1 := (80, [], [], M)) (S2 := (66, [(4, .int (nI (by2 f (p + 6)))), (3, .int (nI (by2 f (p + 2)))), (0, .ref ac), (1, .ref cd0), (2, .int (nI p))], [], M)) rfl rfl rfl (fun c_63 => ?_) (fun c_63 => ?_)
        · have c_63 : (nI (by2 f (p + 6))) = 0 := of_decide_eq_true c_63
          have n_63 : by2 f (p + 6) = 0 := (eq_nI (p := by2 f (p + 6)) (n := 0) (Nat.lt_trans (by2_lt _ _) (by decide)) (by decide)).mp c_63
          refine ps_st (S' := (81, [], [.int 1], M)) rfl rfl rfl ?_
          refine ps_st (S' := (85, [], [.int 1], M)) rfl rfl rfl ?_
          exact ps_ret rfl rfl (⟨congrArg (fun x => some (Value.int (nI x))) (show 1 = rwN f E len p from by
              unfold rwN
              first | ((repeat first | rw [if_pos (by omega)] | rw [if_neg (by omega)]) <;> first | rfl | omega) | ((repeat' split) <;> first | rfl | (exfalso; omega) | omega)), rfl⟩)
        · have c_63 : ¬ ((nI (by2 f (p + 6))) = 0) := of_decide_eq_false c_63
          have n_63 : ¬ (by2 f (p + 6) = 0) := fun h9 => c_63 ((eq_nI (p := by2 f (p + 6)) (n := 0) (Nat.lt_trans (by2_lt _ _) (by decide)) (by decide)).mpr h9)
          refine ps_st (S' := (67, [(4, .int (nI (by2 f (p + 6)))), (3, .int (nI (by2 f (p + 2)))), (0, .ref ac), (1, .ref cd0), (2, .int (nI p))], [.ref ac], M)) rfl rfl rfl ?_
          refine ps_get (S' := (70, [(4, .int (nI (by2 f (p + 6)))), (3, .int (nI (by2 f (p + 2)))), (0, .ref ac), (1, .ref cd0), (2, .int (nI p))], [.ref q], M)) rfl h_ac rfl rfl ?_
          refine ps_st (S' := (72, [(4, .int (nI (by2 f (p + 6)))), (3, .int (nI (by2 f (p + 2)))), (0, .ref ac), (1, .ref cd0), (2, .int (nI p))], [.int (nI (by2 f (p + 6))), .ref q], M)) rfl rfl rfl ?_
          refine pl_call (a := [.ref q, .int (nI (by2 f (p + 6)))]) (rest := []) rfl rfl rfl (dy_tagOf (f := f) (n := n) (N := N) (q := q) (E := E) (j := (by2 f (p + 6))) (hV) (by2_lt _ _)) (fun v13 M14 q15 => ?_)
          obtain ⟨rfl, rfl⟩ := q15
          show pl _ _ _ (75, [(4, .int (nI (by2 f (p + 6)))), (3, .int (nI (by2 f (p + 2)))), (0, .ref ac), (1, .ref cd0), (2, .int (nI p))], [.int (nI (tg f E (by2 f (p + 6))))], M) _
          refine ps_st (S' := (77, [(4, .int (nI (by2 f (p + 6)))), (3, .int (nI (by2 f (p + 2)))), (0, .ref ac), (1, .ref cd0), (2, .int (nI p))], [.int 7, .int (nI (tg f E (by2 f (p + 6))))], M)) rfl rfl rfl ?_
          refine ps_if2 (S1 := (84, [], [], M)) (S2 := (80, [], [], M)) rfl rfl rfl (fun c_77 => ?_) (fun c_77 => ?_)
          · have c_77 : ¬ (nI (tg f E (by2 f (p + 6)))) = 7 := of_decide_eq_true c_77
            have n_77 : ¬ (tg f E (by2 f (p + 6)) = 7) := fun h9 => c_77 ((eq_nI (p := tg f E (by2 f (p + 6))) (n := 7) (Nat.lt_trans (tg_lt _ _ _) (by decide)) (by decide)).mpr h9)
            refine ps_st (S' := (85, [], [.int 0], M)) rfl rfl rfl ?_
            exact ps_ret rfl rfl (⟨congrArg (fun x => some (Value.int (nI x))) (show 0 = rwN f E len p from by
                unfold rwN
                first | ((repeat first | rw [if_pos (by omega)] | rw [if_neg (by omega)]) <;> first | rfl | omega) | ((repeat' split) <;> first | rfl | (exfalso; omega) | omega)), rfl⟩)
          · have c_77 : ¬ (¬ (nI (tg f E (by2 f (p + 6)))) = 7) := of_decide_eq_false c_77
            have n_77 : tg f E (by2 f (p + 6)) = 7 := (eq_nI (p := tg f E (by2 f (p + 6))) (n := 7) (Nat.lt_trans (tg_lt _ _ _) (by decide)) (by decide)).mp (Decidable.not_not.mp c_77)
            refine ps_st (S' := (81, [], [.int 1], M)) rfl rfl rfl ?_
            refine ps_st (S' := (85, [], [.int 1], M)) rfl rfl rfl ?_
            exact ps_ret rfl rfl (⟨congrArg (fun x => some (Value.int (nI x))) (show 1 = rwN f E len p from by
                unfold rwN
                first | ((repeat first | rw [if_pos (by omega)] | rw [if_neg (by omega)]) <;> first | rfl | omega) | ((repeat' split) <;> first | rfl | (exfalso; omega) | omega)), rfl⟩)
set_option maxHeartbeats 1000000 in
theorem dk_isNew {g : xe_G} {M : mi_H} {f : Nat → Int32} {n N q : Nat} {E : List (Nat × Nat)} {ac c b da vd fr mr fa ic mj na pa : Nat} {mi ru wa k1 k2 k3 k4 k5 k6 k7 : Int32} {s k p : Nat} (h_ac : M.1 ac = some (ob 0 [.ref c, .ref b, .ref q, .ref vd, .int (nI s)])) (h_b : M.1 b = some (ob 1 [.ref da])) (h_da : M.1 da = some (ar .byte n f)) (h_vd : M.1 vd = some (ob 10 [.int ru, .int wa])) (hn : n ≤ 65540) (hin : p + 2 ≤ n) (hk : k < 11) (hs : s < 2048) (hV : PV g f n N E q M) : pt (mT g) 36 [.ref ac, .int (nI p), .int (nI k)] M (fun v M' => (∃ (e : Nat × Nat), (nwS f E s k p = .inl e) ∧ v = some (.int 0) ∧ M'.1 vd = some (ob 10 [.int (nI e.1), .int (nI e.2)]) ∧ fm [ac, vd] M M') ∨ (∃ (s' : Nat), (nwS f E s k p = .inr s') ∧ (s' < 2048) ∧ v = some (.int 1) ∧ M'.1 ac = some (ob 0 [.ref c, .ref b, .ref q, .ref vd, .int (nI s')]) ∧ M'.1 vd = some (ob 10 [.int ru, .int wa]) ∧ fm [ac, vd] M M')) := by
  refine pt_in (b := mb_36 g) rfl (fun kf => ?_)
  show pl (mT g) kf (mb_36 g).2 (0, [(0, .ref ac), (1, .int (nI p)), (2, .int (nI k))], [], M) _
  have hF : fm [ac, vd] M M := fm.rf
  refine ps_st (S' := (1, [(0, .ref ac), (1, .int (nI p)), (2, .int (nI k))], [.ref ac], M)) rfl rfl rfl ?_
  refine ps_get (S' := (4, [(0, .ref ac), (1, .int (nI p)), (2, .int (nI k))], [.ref q], M)) rfl h_ac rfl rfl ?_
  refine ps_st (S' := (5, [(0, .ref ac), (1, .int (nI p)), (2, .int (nI k))], [.ref ac, .ref q], M)) rfl rfl rfl ?_
  refine ps_get (S' := (8, [(0, .ref ac), (1, .int (nI p)), (2, .int (nI k))], [.ref b, .ref q], M)) rfl h_ac rfl rfl ?_
  refine ps_st (S' := (9, [(0, .ref ac), (1, .int (nI p)), (2, .int (nI k))], [.int (nI p), .ref b, .ref q], M)) rfl rfl rfl ?_
  refine pl_call (a := [.ref b, .int (nI p)]) (rest := [.ref q]) rfl rfl rfl (dk_u2 (f := f) (n := n) (b := b) (da := da) (p := p) h_b h_da (hn) (by omega)) (fun v1 M2 q3 => ?_)
  obtain ⟨rfl, rfl⟩ := q3
  show pl _ _ _ (12, [(0, .ref ac), (1, .int (nI p)), (2, .int (nI k))], [.int (nI (by2 f p)), .ref q], M) _
  have hu_9 := by2_lt f p
  refine pl_call (a := [.ref q, .int (nI (by2 f p))]) (rest := []) rfl rfl rfl (dy_tagOf (f := f) (n := n) (N := N) (q := q) (E := E) (j := (by2 f p)) (hV) (by2_lt _ _)) (fun v4 M5 q6 => ?_)
  obtain ⟨rfl, rfl⟩ := q6
  show pl _ _ _ (15, [(0, .ref ac), (1, .int (nI p)), (2, .int (nI k))], [.int (nI (tg f E (by2 f p)))], M) _
  refine ps_st (S' := (16, [(0, .ref ac), (1, .int (nI p)), (2, .int (nI k))], [.int 1, .int (nI (tg f E (by2 f p)))], M)) rfl rfl rfl ?_
  refine ps_if2 (S1 := (30, [(0, .ref ac), (1, .int (nI p)), (2, .int (nI k))], [], M)) (S2 := (19, [(0, .ref ac), (1, .int (nI p)), (2, .int (nI k))], [], M)) rfl rfl rfl (fun c_16 => ?_) (fun c_16 => ?_)
  · have c_16 : (nI (tg f E (by2 f p))) = 1 := of_decide_eq_true c_16
    have n_16 : tg f E (by2 f p) = 1 := (eq_nI (p := tg f E (by2 f p)) (n := 1) (Nat.lt_trans (tg_lt _ _ _) (by decide)) (by decide)).mp c_16
    refine ps_st (S' := (31, [(0, .ref ac), (1, .int (nI p)), (2, .int (nI k))], [.int (nI k)], M)) rfl rfl rfl ?_
    refine ps_if (S1 := (36, [(0, .ref ac), (1, .int (nI p)), (2, .int (nI k))], [], M)) (S2 := (34, [(0, .ref ac), (1, .int (nI p)), (2, .int (nI k))], [], M)) rfl rfl rfl (fun c_31 => ?_) (fun c_31 => ?_)
    · have c_31 : ¬ (nI k) = 0 := of_decide_eq_true c_31
      have n_31 : ¬ (k = 0) := fun h9 => c_31 ((eq_nI (p := k) (n := 0) (by omega) (by decide)).mpr h9)
      refine ps_st (S' := (37, [(0, .ref ac), (1, .int (nI p)), (2, .int (nI k))], [.ref ac], M)) rfl rfl rfl ?_
      refine ps_st (S' := (38, [(0, .ref ac), (1, .int (nI p)), (2, .int (nI k))], [.int (nI k), .ref ac], M)) rfl rfl rfl ?_
      refine pl_call (a := [.ref ac, .int (nI k)]) (rest := []) rfl rfl rfl (dk_hasSeen (q := q) (ac := ac) (c := c) (b := b) (vd := vd) (s := s) (k := k) h_ac (by omega) (by omega)) (fun v7 M8 q9 => ?_)
      obtain ⟨rfl, rfl⟩ := q9
      show pl _ _ _ (41, [(0, .ref ac), (1, .int (nI p)), (2, .int (nI k))], [.int (nI (sb s k))], M) _
      refine ps_if (S1 := (55, [(0, .ref ac), (1, .int (nI p)), (2, .int (nI k))], [], M)) (S2 := (44, [(0, .ref ac), (1, .int (nI p)), (2, .int (nI k))], [], M)) rfl rfl rfl (fun c_41 => ?_) (fun c_41 => ?_)
      · have c_41 : (nI (sb s k)) = 0 := of_decide_eq_true c_41
        have n_41 : sb s k = 0 := (eq_nI (p := sb s k) (n := 0) (Nat.lt_trans (sb_lt _ _) (by decide)) (by decide)).mp c_41
        refine ps_st (S' := (56, [(0, .ref ac), (1, .int (nI p)), (2, .int (nI k))], [.ref ac], M)) rfl rfl rfl ?_
        refine ps_st (S' := (57, [(0, .ref ac), (1, .int (nI p)), (2, .int (nI k))], [.ref ac, .ref ac], M)) rfl rfl rfl ?_
        refine ps_get (S' := (60, [(0, .ref ac), (1, .int (nI p)), (2, .int (nI k))], [.int (nI s), .ref ac], M)) rfl h_ac rfl rfl ?_
        refine ps_st (S' := (61, [(0, .ref ac), (1, .int (nI p)), (2, .int (nI k))], [.int 1, .int (nI s), .ref ac], M)) rfl rfl rfl ?_
        refine ps_st (S' := (62, [(0, .ref ac), (1, .int (nI p)), (2, .int (nI k))], [.int (nI k), .int 1, .int (nI s), .ref ac], M)) rfl rfl rfl ?_
        refine ps_st (S' := (63, [(0, .ref ac), (1, .int (nI p)), (2, .int (nI k))], [.int (1 <<< ((nI k) &&& 31)), .int (nI s), .ref ac], M)) rfl rfl rfl ?_
        refine ps_st (S' := (64, [(0, .ref ac), (1, .int (nI p)), (2, .int (nI k))], [.int ((nI s) ||| (1 <<< ((nI k) &&& 31))), .ref ac], M)) rfl rfl rfl ?_
        rw [or_k s k (by omega)]
        show pl _ _ _ (_, [(0, .ref ac), (1, .int (nI p)), (2, .int (nI k))], [.int (nI (so s k)), .ref ac], M) _
        refine ps_put (l' := [.ref c, .ref b, .ref q, .ref vd, .int (nI (so s k))]) rfl h_ac rfl rfl (fun M10 h11 f12 z13 => ?_)
        have h14 := (f12 b (ob_ne h_b h_ac (by decide))).trans h_b
        have h15 := (f12 da (Ne.symm (ob_ar h_ac h_da))).trans h_da
        have h16 := (f12 vd (ob_ne h_vd h_ac (by decide))).trans h_vd
        have hV17 := hV.put h_ac (by decide) f12 z13
        have hF18 := hF.up (by simp) f12 z13
        show pl _ _ _ (67, [(0, .ref ac), (1, .int (nI p)), (2, .int (nI k))], [], M10) _
        refine ps_st (S' := (68, [(0, .ref ac), (1, .int (nI p)), (2, .int (nI k))], [.int 1], M10)) rfl rfl rfl ?_
        exact ps_ret rfl rfl (Or.inr ⟨so s k, by
            unfold nwS
            first | ((repeat first | rw [if_pos (by omega)] | rw [if_neg (by omega)]) <;> first | rfl | omega) | ((repeat' split) <;> first | rfl | (exfalso; omega) | omega), so_lt hs hk, rfl, h11, h16, hF18⟩)
      · have c_41 : ¬ ((nI (sb s k)) = 0) := of_decide_eq_false c_41
        have n_41 : ¬ (sb s k = 0) := fun h9 => c_41 ((eq_nI (p := sb s k) (n := 0) (Nat.lt_trans (sb_lt _ _) (by decide)) (by decide)).mpr h9)
        refine ps_st (S' := (45, [(0, .ref ac), (1, .int (nI p)), (2, .int (nI k))], [.ref ac], M)) rfl rfl rfl ?_
        refine ps_get (S' := (48, [(0, .ref ac), (1, .int (nI p)), (2, .int (nI k))], [.ref vd], M)) rfl h_ac rfl rfl ?_
        refine ps_st (S' := (50, [(0, .ref ac), (1, .int (nI p)), (2, .int (nI k))], [.int 29, .ref vd], M)) rfl rfl rfl ?_
        refine ps_st (S' := (51, [(0, .ref ac), (1, .int (nI p)), (2, .int (nI k))], [.int (nI p), .int 29, .ref vd], M)) rfl rfl rfl ?_
        refine pl_call (a := [.ref vd, .int 29, .int (nI p)]) (rest := []) rfl rfl rfl (dk_wrong (vd := vd) (ru := ru) (wa := wa) (x1 := 29) (x2 := (nI p)) h_vd) (fun v19 M20 q21 => ?_)
        obtain ⟨rfl, h22, f23⟩ := q21
        have h25 := (f23.1 ac (nin1 (ob_ne h_ac h_vd (by decide)))).trans h_ac
        have h26 := (f23.1 b (nin1 (ob_ne h_b h_vd (by decide)))).trans h_b
        have h27 := (f23.1 da (nin1 (Ne.symm (ob_ar h_vd h_da)))).trans h_da
        have hF28 := hF.tr f23 (by simp)
        have hV29 := hV.keep f23.gm (n7c h_vd (by decide) (n7nil))
        show pl _ _ _ (54, [(0, .ref ac), (1, .int (nI p)), (2, .int (nI k))], [.int 0], M20) _
        exact ps_ret rfl rfl (Or.inl ⟨(29, p), by
            unfold nwS
            first | ((repeat first | rw [if_pos (by omega)] | rw [if_neg (by omega)]) <;> first | rfl | omega) | ((repeat' split) <;> first | rfl | (exfalso; omega) | omega), rfl, h22, hF28⟩)
    · have c_31 : ¬ (¬ (nI k) = 0) := of_decide_eq_false c_31
      have n_31 : k = 0 := (eq_nI (p := k) (n := 0) (by omega) (by decide)).mp (Decidable.not_not.mp c_31)
      refine ps_st (S' := (35, [(0, .ref ac), (1, .int (nI p)), (2, .int (nI k))], [.int 1], M)) rfl rfl rfl ?_
      exact ps_ret rfl rfl (Or.inr ⟨s, by
          unfold nwS
          first | ((repeat first | rw [if_pos (by omega)] | rw [if_neg (by omega)]) <;> first | rfl | omega) | ((repeat' split) <;> first | rfl | (exfalso; omega) | omega), hs, rfl, h_ac, h_vd, hF⟩)
  · have c_16 : ¬ ((nI (tg f E (by2 f p))) = 1) := of_decide_eq_false c_16
    have n_16 : ¬ (tg f E (by2 f p) = 1) := fun h9 => c_16 ((eq_nI (p := tg f E (by2 f p)) (n := 1) (Nat.lt_trans (tg_lt _ _ _) (by decide)) (by decide)).mpr h9)
    refine ps_st (S' := (20, [(0, .ref ac), (1, .int (nI p)), (2, .int (nI k))], [.ref ac], M)) rfl rfl rfl ?_
    refine ps_get (S' := (23, [(0, .ref ac), (1, .int (nI p)), (2, .int (nI k))], [.ref vd], M)) rfl h_ac rfl rfl ?_
    refine ps_st (S' := (25, [(0, .ref ac), (1, .int (nI p)), (2, .int (nI k))], [.int 28, .ref vd], M)) rfl rfl rfl ?_
    refine ps_st (S' := (26, [(0, .ref ac), (1, .int (nI p)), (2, .int (nI k))], [.int (nI p), .int 28, .ref vd], M)) rfl rfl rfl ?_
    refine pl_call (a := [.ref vd, .int 28, .int (nI p)]) (rest := []) rfl rfl rfl (dk_wrong (vd := vd) (ru := ru) (wa := wa) (x1 := 28) (x2 := (nI p)) h_vd) (fun v30 M31 q32 => ?_)
    obtain ⟨rfl, h33, f34⟩ := q32
    have h36 := (f34.1 ac (nin1 (ob_ne h_ac h_vd (by decide)))).trans h_ac
    have h37 := (f34.1 b (nin1 (ob_ne h_b h_vd (by decide)))).trans h_b
    have h38 := (f34.1 da (nin1 (Ne.symm (ob_ar h_vd h_da)))).trans h_da
    have hF39 := hF.tr f34 (by simp)
    have hV40 := hV.keep f34.gm (n7c h_vd (by decide) (n7nil))
    show pl _ _ _ (29, [(0, .ref ac), (1, .int (nI p)), (2, .int (nI k))], [.int 0], M31) _
    exact ps_ret rfl rfl (Or.inl ⟨(28, p), by
        unfold nwS
        first | ((repeat first | rw [if_pos (by omega)] | rw [if_neg (by omega)]) <;> first | rfl | omega) | ((repeat' split) <;> first | rfl | (exfalso; omega) | omega), rfl, h33, hF39⟩)
end
