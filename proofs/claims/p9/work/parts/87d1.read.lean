/-! the reader, exactly (laid by wip/p4/d1.py) -/
set_option maxHeartbeats 1000000 in
theorem dx_wrong {g : xe_G} {M : mi_H} {vd : Nat} {ru wa x1 x2 : Int32} (h_vd : M.1 vd = some (ob 10 [.int ru, .int wa]))  : pt (mT g) 172 [.ref vd, .int x1, .int x2] M (fun v M' => (v = some (.int 0) ∧ M'.1 vd = some (ob 10 [.int x1, .int x2]) ∧ fm [vd] M M')) := by
  refine pt_in (b := mb_172 g) rfl (fun kf => ?_)
  show pl (mT g) kf (mb_172 g).2 (0, [(0, .ref vd), (1, .int x1), (2, .int x2)], [], M) _
  have hF : fm [vd] M M := fm.rf
  refine ps_st (S' := (1, [(0, .ref vd), (1, .int x1), (2, .int x2)], [.ref vd], M)) rfl rfl rfl ?_
  refine ps_st (S' := (2, [(0, .ref vd), (1, .int x1), (2, .int x2)], [.int x1, .ref vd], M)) rfl rfl rfl ?_
  refine ps_put (l' := [.int x1, .int wa]) rfl h_vd rfl rfl (fun M1 h2 f3 z4 => ?_)
  have hF5 := hF.up (by simp) f3 z4
  show pl _ _ _ (5, [(0, .ref vd), (1, .int x1), (2, .int x2)], [], M1) _
  refine ps_st (S' := (6, [(0, .ref vd), (1, .int x1), (2, .int x2)], [.ref vd], M1)) rfl rfl rfl ?_
  refine ps_st (S' := (7, [(0, .ref vd), (1, .int x1), (2, .int x2)], [.int x2, .ref vd], M1)) rfl rfl rfl ?_
  refine ps_put (l' := [.int x1, .int x2]) rfl h2 rfl rfl (fun M6 h7 f8 z9 => ?_)
  have hF10 := hF5.up (by simp) f8 z9
  show pl _ _ _ (10, [(0, .ref vd), (1, .int x1), (2, .int x2)], [], M6) _
  refine ps_st (S' := (11, [(0, .ref vd), (1, .int x1), (2, .int x2)], [.int 0], M6)) rfl rfl rfl ?_
  exact ps_ret rfl rfl (⟨rfl, h7, hF10⟩)
theorem dx_size {g : xe_G} {M : mi_H} {b da n : Nat} {f : Nat → Int32}  (h_b : M.1 b = some (ob 1 [.ref da])) (h_da : M.1 da = some (ar .byte n f)) (hn : n ≤ 65540) : pt (mT g) 47 [.ref b] M (fun v M' => (v = some (.int (sp_size n f )) ∧ fm [] M M')) := by
  exact (ct_size ⟨h_b, h_da, by omega⟩ (d := 3) (by decide)).pt.mono (fun v M' h => ⟨h.1, by rw [h.2]; exact fm.rf⟩)
theorem dx_u1 {g : xe_G} {M : mi_H} {b da n : Nat} {f : Nat → Int32} {x1 : Int32} (h_b : M.1 b = some (ob 1 [.ref da])) (h_da : M.1 da = some (ar .byte n f)) (hn : n ≤ 65540) : pt (mT g) 48 [.ref b, .int x1] M (fun v M' => (v = some (.int (sp_u1 n f x1)) ∧ fm [] M M')) := by
  exact (ct_u1 ⟨h_b, h_da, by omega⟩ (d := 3) (by decide)).pt.mono (fun v M' h => ⟨h.1, by rw [h.2]; exact fm.rf⟩)
theorem dx_u2 {g : xe_G} {M : mi_H} {b da n : Nat} {f : Nat → Int32} {x1 : Int32} (h_b : M.1 b = some (ob 1 [.ref da])) (h_da : M.1 da = some (ar .byte n f)) (hn : n ≤ 65540) : pt (mT g) 49 [.ref b, .int x1] M (fun v M' => (v = some (.int (sp_u2 n f x1)) ∧ fm [] M M')) := by
  exact (ct_u2 ⟨h_b, h_da, by omega⟩ (d := 3) (by decide)).pt.mono (fun v M' h => ⟨h.1, by rw [h.2]; exact fm.rf⟩)
theorem dx_u4 {g : xe_G} {M : mi_H} {b da n : Nat} {f : Nat → Int32} {x1 : Int32} (h_b : M.1 b = some (ob 1 [.ref da])) (h_da : M.1 da = some (ar .byte n f)) (hn : n ≤ 65540) : pt (mT g) 50 [.ref b, .int x1] M (fun v M' => (v = some (.int (sp_u4 n f x1)) ∧ fm [] M M')) := by
  exact (ct_u4 ⟨h_b, h_da, by omega⟩ (d := 3) (by decide)).pt.mono (fun v M' h => ⟨h.1, by rw [h.2]; exact fm.rf⟩)
theorem dx_goesOn {g : xe_G} {M : mi_H} {b da n : Nat} {f : Nat → Int32} {x1 x2 : Int32} (h_b : M.1 b = some (ob 1 [.ref da])) (h_da : M.1 da = some (ar .byte n f)) (hn : n ≤ 65540) : pt (mT g) 46 [.ref b, .int x1, .int x2] M (fun v M' => (v = some (.int (sp_goesOn n f x1 x2)) ∧ fm [] M M')) := by
  exact (ct_goesOn ⟨h_b, h_da, by omega⟩ (d := 3) (by decide)).pt.mono (fun v M' h => ⟨h.1, by rw [h.2]; exact fm.rf⟩)
set_option maxHeartbeats 1000000 in
theorem dx_takes1 {g : xe_G} {M : mi_H} {r c b vd da n p : Nat} {f : Nat → Int32} {it ru wa : Int32} (h_r : M.1 r = some (ob 9 [.ref c, .ref b, .ref vd, .int (nI p), .int it])) (h_b : M.1 b = some (ob 1 [.ref da])) (h_da : M.1 da = some (ar .byte n f)) (h_vd : M.1 vd = some (ob 10 [.int ru, .int wa])) (hn : n ≤ 65540) (hp : p ≤ n) : pt (mT g) 159 [.ref r, .int 1] M (fun v M' => ((p + 1 ≤ n) ∧ v = some (.int 1) ∧ M'.1 r = some (ob 9 [.ref c, .ref b, .ref vd, .int (nI (p + 1)), .int (nI (by1 f p))]) ∧ M'.1 vd = some (ob 10 [.int ru, .int wa]) ∧ fm [r, vd] M M') ∨ ((n < p + 1) ∧ v = some (.int 0) ∧ M'.1 r = some (ob 9 [.ref c, .ref b, .ref vd, .int (nI p), .int it]) ∧ M'.1 vd = some (ob 10 [.int 1, .int (nI p)]) ∧ fm [r, vd] M M')) := by
  refine pt_in (b := mb_159 g) rfl (fun kf => ?_)
  show pl (mT g) kf (mb_159 g).2 (0, [(0, .ref r), (1, .int 1)], [], M) _
  have hF : fm [r, vd] M M := fm.rf
  refine ps_st (S' := (1, [(0, .ref r), (1, .int 1)], [.int 1], M)) rfl rfl rfl ?_
  refine ps_st (S' := (2, [(0, .ref r), (1, .int 1)], [.ref r, .int 1], M)) rfl rfl rfl ?_
  refine ps_get (S' := (5, [(0, .ref r), (1, .int 1)], [.ref b, .int 1], M)) rfl h_r rfl rfl ?_
  refine pl_call (a := [.ref b]) (rest := [.int 1]) rfl rfl rfl (dx_size h_b h_da (hn)) (fun v1 M2 q3 => ?_)
  obtain ⟨rfl, f4⟩ := q3
  have h6 := (f4.1 r (by simp)).trans h_r
  have h7 := (f4.1 b (by simp)).trans h_b
  have h8 := (f4.1 da (by simp)).trans h_da
  have h9 := (f4.1 vd (by simp)).trans h_vd
  have hF10 := hF.tr f4 (by simp)
  show pl _ _ _ (8, [(0, .ref r), (1, .int 1)], [.int (sp_size n f ), .int 1], M2) _
  refine ps_st (S' := (9, [(0, .ref r), (1, .int 1)], [.ref r, .int (sp_size n f ), .int 1], M2)) rfl rfl rfl ?_
  refine ps_get (S' := (12, [(0, .ref r), (1, .int 1)], [.int (nI p), .int (sp_size n f ), .int 1], M2)) rfl h6 rfl rfl ?_
  refine ps_st (S' := (13, [(0, .ref r), (1, .int 1)], [.int ((sp_size n f ) - (nI p)), .int 1], M2)) rfl rfl rfl ?_
  refine ps_if2 (S1 := (29, [(0, .ref r), (1, .int 1)], [], M2)) (S2 := (16, [(0, .ref r), (1, .int 1)], [], M2)) rfl rfl rfl (fun c_13 => ?_) (fun c_13 => ?_)
  · have c_13 : 1 ≤ ((sp_size n f ) - (nI p)) := of_decide_eq_true c_13
    have n_13 : p + 1 ≤ n := (le_szn (x := 1) (p := p) (f := f) (by decide) hn (by omega)).mp c_13
    refine ps_st (S' := (30, [(0, .ref r), (1, .int 1)], [.int 1], M2)) rfl rfl rfl ?_
    refine ps_st (S' := (31, [(0, .ref r), (1, .int 1)], [.int 1, .int 1], M2)) rfl rfl rfl ?_
    refine ps_if2 (S1 := (52, [(0, .ref r), (1, .int 1)], [], M2)) (S2 := (34, [(0, .ref r), (1, .int 1)], [], M2)) rfl rfl rfl (fun c_31 => ?_) (fun c_31 => ?_)
    · exact absurd (of_decide_eq_true c_31) (fun h => h rfl)
    refine ps_st (S' := (35, [(0, .ref r), (1, .int 1)], [.ref r], M2)) rfl rfl rfl ?_
    refine ps_st (S' := (36, [(0, .ref r), (1, .int 1)], [.ref r, .ref r], M2)) rfl rfl rfl ?_
    refine ps_get (S' := (39, [(0, .ref r), (1, .int 1)], [.ref b, .ref r], M2)) rfl h6 rfl rfl ?_
    refine ps_st (S' := (40, [(0, .ref r), (1, .int 1)], [.ref r, .ref b, .ref r], M2)) rfl rfl rfl ?_
    refine ps_get (S' := (43, [(0, .ref r), (1, .int 1)], [.int (nI p), .ref b, .ref r], M2)) rfl h6 rfl rfl ?_
    refine pl_call (a := [.ref b, .int (nI p)]) (rest := [.ref r]) rfl rfl rfl (dx_u1 h7 h8 (hn)) (fun v11 M12 q13 => ?_)
    obtain ⟨rfl, f14⟩ := q13
    have h16 := (f14.1 r (by simp)).trans h6
    have h17 := (f14.1 b (by simp)).trans h7
    have h18 := (f14.1 da (by simp)).trans h8
    have h19 := (f14.1 vd (by simp)).trans h9
    have hF20 := hF10.tr f14 (by simp)
    show pl _ _ _ (46, [(0, .ref r), (1, .int 1)], [.int (sp_u1 n f (nI p)), .ref r], M12) _
    refine ps_put (l' := [.ref c, .ref b, .ref vd, .int (nI p), .int (sp_u1 n f (nI p))]) rfl h16 rfl rfl (fun M21 h22 f23 z24 => ?_)
    have h25 := (f23 b (ob_ne h17 h16 (by decide))).trans h17
    have h26 := (f23 da (Ne.symm (ob_ar h16 h18))).trans h18
    have h27 := (f23 vd (ob_ne h19 h16 (by decide))).trans h19
    have hF28 := hF20.up (by simp) f23 z24
    show pl _ _ _ (49, [(0, .ref r), (1, .int 1)], [], M21) _
    refine ps_st (S' := (86, [(0, .ref r), (1, .int 1)], [], M21)) rfl rfl rfl ?_
    refine ps_st (S' := (87, [(0, .ref r), (1, .int 1)], [.ref r], M21)) rfl rfl rfl ?_
    refine ps_st (S' := (88, [(0, .ref r), (1, .int 1)], [.ref r, .ref r], M21)) rfl rfl rfl ?_
    refine ps_get (S' := (91, [(0, .ref r), (1, .int 1)], [.int (nI p), .ref r], M21)) rfl h22 rfl rfl ?_
    refine ps_st (S' := (92, [(0, .ref r), (1, .int 1)], [.int 1, .int (nI p), .ref r], M21)) rfl rfl rfl ?_
    refine ps_st (S' := (93, [(0, .ref r), (1, .int 1)], [.int ((nI p) + 1), .ref r], M21)) rfl rfl rfl ?_
    refine ps_put (l' := [.ref c, .ref b, .ref vd, .int ((nI p) + 1), .int (sp_u1 n f (nI p))]) rfl h22 rfl rfl (fun M29 h30 f31 z32 => ?_)
    have h33 := (f31 b (ob_ne h25 h22 (by decide))).trans h25
    have h34 := (f31 da (Ne.symm (ob_ar h22 h26))).trans h26
    have h35 := (f31 vd (ob_ne h27 h22 (by decide))).trans h27
    have hF36 := hF28.up (by simp) f31 z32
    show pl _ _ _ (96, [(0, .ref r), (1, .int 1)], [], M29) _
    refine ps_st (S' := (97, [(0, .ref r), (1, .int 1)], [.int 1], M29)) rfl rfl rfl ?_
    exact ps_ret rfl rfl (have ok := (le_sz (k := 1) rfl (by decide) hn hp).mp c_13; Or.inl ⟨ok, rfl, by rw [h30, nI_plus (j := 1) rfl (by omega), u1_nI hn (by omega)], h35, hF36⟩)
  · have c_13 : ¬ (1 ≤ ((sp_size n f ) - (nI p))) := of_decide_eq_false c_13
    have n_13 : ¬ (p + 1 ≤ n) := fun h9 => c_13 ((le_szn (x := 1) (p := p) (f := f) (by decide) hn (by omega)).mpr h9)
    refine ps_st (S' := (17, [(0, .ref r), (1, .int 1)], [.ref r], M2)) rfl rfl rfl ?_
    refine ps_get (S' := (20, [(0, .ref r), (1, .int 1)], [.ref vd], M2)) rfl h6 rfl rfl ?_
    refine ps_st (S' := (21, [(0, .ref r), (1, .int 1)], [.int 1, .ref vd], M2)) rfl rfl rfl ?_
    refine ps_st (S' := (22, [(0, .ref r), (1, .int 1)], [.ref r, .int 1, .ref vd], M2)) rfl rfl rfl ?_
    refine ps_get (S' := (25, [(0, .ref r), (1, .int 1)], [.int (nI p), .int 1, .ref vd], M2)) rfl h6 rfl rfl ?_
    refine pl_call (a := [.ref vd, .int 1, .int (nI p)]) (rest := []) rfl rfl rfl (dx_wrong h9) (fun v37 M38 q39 => ?_)
    obtain ⟨rfl, h40, f41⟩ := q39
    have h43 := (f41.1 r (nin1 (ob_ne h6 h9 (by decide)))).trans h6
    have h44 := (f41.1 b (nin1 (ob_ne h7 h9 (by decide)))).trans h7
    have h45 := (f41.1 da (nin1 (Ne.symm (ob_ar h9 h8)))).trans h8
    have hF46 := hF10.tr f41 (by simp)
    show pl _ _ _ (28, [(0, .ref r), (1, .int 1)], [.int 0], M38) _
    exact ps_ret rfl rfl (Or.inr ⟨Nat.not_le.mp (fun h => c_13 ((le_sz (k := 1) rfl (by decide) hn hp).mpr h)), rfl, h43, h40, hF46⟩)
set_option maxHeartbeats 1000000 in
theorem dx_takes2 {g : xe_G} {M : mi_H} {r c b vd da n p : Nat} {f : Nat → Int32} {it ru wa : Int32} (h_r : M.1 r = some (ob 9 [.ref c, .ref b, .ref vd, .int (nI p), .int it])) (h_b : M.1 b = some (ob 1 [.ref da])) (h_da : M.1 da = some (ar .byte n f)) (h_vd : M.1 vd = some (ob 10 [.int ru, .int wa])) (hn : n ≤ 65540) (hp : p ≤ n) : pt (mT g) 159 [.ref r, .int 2] M (fun v M' => ((p + 2 ≤ n) ∧ v = some (.int 1) ∧ M'.1 r = some (ob 9 [.ref c, .ref b, .ref vd, .int (nI (p + 2)), .int (nI (by2 f p))]) ∧ M'.1 vd = some (ob 10 [.int ru, .int wa]) ∧ fm [r, vd] M M') ∨ ((n < p + 2) ∧ v = some (.int 0) ∧ M'.1 r = some (ob 9 [.ref c, .ref b, .ref vd, .int (nI p), .int it]) ∧ M'.1 vd = some (ob 10 [.int 1, .int (nI p)]) ∧ fm [r, vd] M M')) := by
  refine pt_in (b := mb_159 g) rfl (fun kf => ?_)
  show pl (mT g) kf (mb_159 g).2 (0, [(0, .ref r), (1, .int 2)], [], M) _
  have hF : fm [r, vd] M M := fm.rf
  refine ps_st (S' := (1, [(0, .ref r), (1, .int 2)], [.int 2], M)) rfl rfl rfl ?_
  refine ps_st (S' := (2, [(0, .ref r), (1, .int 2)], [.ref r, .int 2], M)) rfl rfl rfl ?_
  refine ps_get (S' := (5, [(0, .ref r), (1, .int 2)], [.ref b, .int 2], M)) rfl h_r rfl rfl ?_
  refine pl_call (a := [.ref b]) (rest := [.int 2]) rfl rfl rfl (dx_size h_b h_da (hn)) (fun v1 M2 q3 => ?_)
  obtain ⟨rfl, f4⟩ := q3
  have h6 := (f4.1 r (by simp)).trans h_r
  have h7 := (f4.1 b (by simp)).trans h_b
  have h8 := (f4.1 da (by simp)).trans h_da
  have h9 := (f4.1 vd (by simp)).trans h_vd
  have hF10 := hF.tr f4 (by simp)
  show pl _ _ _ (8, [(0, .ref r), (1, .int 2)], [.int (sp_size n f ), .int 2], M2) _
  refine ps_st (S' := (9, [(0, .ref r), (1, .int 2)], [.ref r, .int (sp_size n f ), .int 2], M2)) rfl rfl rfl ?_
  refine ps_get (S' := (12, [(0, .ref r), (1, .int 2)], [.int (nI p), .int (sp_size n f ), .int 2], M2)) rfl h6 rfl rfl ?_
  refine ps_st (S' := (13, [(0, .ref r), (1, .int 2)], [.int ((sp_size n f ) - (nI p)), .int 2], M2)) rfl rfl rfl ?_
  refine ps_if2 (S1 := (29, [(0, .ref r), (1, .int 2)], [], M2)) (S2 := (16, [(0, .ref r), (1, .int 2)], [], M2)) rfl rfl rfl (fun c_13 => ?_) (fun c_13 => ?_)
  · have c_13 : 2 ≤ ((sp_size n f ) - (nI p)) := of_decide_eq_true c_13
    have n_13 : p + 2 ≤ n := (le_szn (x := 2) (p := p) (f := f) (by decide) hn (by omega)).mp c_13
    refine ps_st (S' := (30, [(0, .ref r), (1, .int 2)], [.int 2], M2)) rfl rfl rfl ?_
    refine ps_st (S' := (31, [(0, .ref r), (1, .int 2)], [.int 1, .int 2], M2)) rfl rfl rfl ?_
    refine ps_if2 (S1 := (52, [(0, .ref r), (1, .int 2)], [], M2)) (S2 := (34, [(0, .ref r), (1, .int 2)], [], M2)) rfl rfl rfl (fun c_31 => ?_) (fun c_31 => ?_)
    rotate_left
    · exact absurd (by decide) (of_decide_eq_false c_31)
    refine ps_st (S' := (53, [(0, .ref r), (1, .int 2)], [.ref r], M2)) rfl rfl rfl ?_
    refine ps_st (S' := (54, [(0, .ref r), (1, .int 2)], [.int 2, .ref r], M2)) rfl rfl rfl ?_
    refine ps_st (S' := (55, [(0, .ref r), (1, .int 2)], [.int 2, .int 2, .ref r], M2)) rfl rfl rfl ?_
    refine ps_if2 (S1 := (72, [(0, .ref r), (1, .int 2)], [.ref r], M2)) (S2 := (58, [(0, .ref r), (1, .int 2)], [.ref r], M2)) rfl rfl rfl (fun c_55 => ?_) (fun c_55 => ?_)
    · exact absurd (of_decide_eq_true c_55) (fun h => h rfl)
    refine ps_st (S' := (59, [(0, .ref r), (1, .int 2)], [.ref r, .ref r], M2)) rfl rfl rfl ?_
    refine ps_get (S' := (62, [(0, .ref r), (1, .int 2)], [.ref b, .ref r], M2)) rfl h6 rfl rfl ?_
    refine ps_st (S' := (63, [(0, .ref r), (1, .int 2)], [.ref r, .ref b, .ref r], M2)) rfl rfl rfl ?_
    refine ps_get (S' := (66, [(0, .ref r), (1, .int 2)], [.int (nI p), .ref b, .ref r], M2)) rfl h6 rfl rfl ?_
    refine pl_call (a := [.ref b, .int (nI p)]) (rest := [.ref r]) rfl rfl rfl (dx_u2 h7 h8 (hn)) (fun v11 M12 q13 => ?_)
    obtain ⟨rfl, f14⟩ := q13
    have h16 := (f14.1 r (by simp)).trans h6
    have h17 := (f14.1 b (by simp)).trans h7
    have h18 := (f14.1 da (by simp)).trans h8
    have h19 := (f14.1 vd (by simp)).trans h9
    have hF20 := hF10.tr f14 (by simp)
    show pl _ _ _ (69, [(0, .ref r), (1, .int 2)], [.int (sp_u2 n f (nI p)), .ref r], M12) _
    refine ps_st (S' := (83, [(0, .ref r), (1, .int 2)], [.int (sp_u2 n f (nI p)), .ref r], M12)) rfl rfl rfl ?_
    refine ps_put (l' := [.ref c, .ref b, .ref vd, .int (nI p), .int (sp_u2 n f (nI p))]) rfl h16 rfl rfl (fun M21 h22 f23 z24 => ?_)
    have h25 := (f23 b (ob_ne h17 h16 (by decide))).trans h17
    have h26 := (f23 da (Ne.symm (ob_ar h16 h18))).trans h18
    have h27 := (f23 vd (ob_ne h19 h16 (by decide))).trans h19
    have hF28 := hF20.up (by simp) f23 z24
    show pl _ _ _ (86, [(0, .ref r), (1, .int 2)], [], M21) _
    refine ps_st (S' := (87, [(0, .ref r), (1, .int 2)], [.ref r], M21)) rfl rfl rfl ?_
    refine ps_st (S' := (88, [(0, .ref r), (1, .int 2)], [.ref r, .ref r], M21)) rfl rfl rfl ?_
    refine ps_get (S' := (91, [(0, .ref r), (1, .int 2)], [.int (nI p), .ref r], M21)) rfl h22 rfl rfl ?_
    refine ps_st (S' := (92, [(0, .ref r), (1, .int 2)], [.int 2, .int (nI p), .ref r], M21)) rfl rfl rfl ?_
    refine ps_st (S' := (93, [(0, .ref r), (1, .int 2)], [.int ((nI p) + 2), .ref r], M21)) rfl rfl rfl ?_
    refine ps_put (l' := [.ref c, .ref b, .ref vd, .int ((nI p) + 2), .int (sp_u2 n f (nI p))]) rfl h22 rfl rfl (fun M29 h30 f31 z32 => ?_)
    have h33 := (f31 b (ob_ne h25 h22 (by decide))).trans h25
    have h34 := (f31 da (Ne.symm (ob_ar h22 h26))).trans h26
    have h35 := (f31 vd (ob_ne h27 h22 (by decide))).trans h27
    have hF36 := hF28.up (by simp) f31 z32
    show pl _ _ _ (96, [(0, .ref r), (1, .int 2)], [], M29) _
    refine ps_st (S' := (97, [(0, .ref r), (1, .int 2)], [.int 1], M29)) rfl rfl rfl ?_
    exact ps_ret rfl rfl (have ok := (le_sz (k := 2) rfl (by decide) hn hp).mp c_13; Or.inl ⟨ok, rfl, by rw [h30, nI_plus (j := 2) rfl (by omega), u2_nI hn (by omega)], h35, hF36⟩)
  · have c_13 : ¬ (2 ≤ ((sp_size n f ) - (nI p))) := of_decide_eq_false c_13
    have n_13 : ¬ (p + 2 ≤ n) := fun h9 => c_13 ((le_szn (x := 2) (p := p) (f := f) (by decide) hn (by omega)).mpr h9)
    refine ps_st (S' := (17, [(0, .ref r), (1, .int 2)], [.ref r], M2)) rfl rfl rfl ?_
    refine ps_get (S' := (20, [(0, .ref r), (1, .int 2)], [.ref vd], M2)) rfl h6 rfl rfl ?_
    refine ps_st (S' := (21, [(0, .ref r), (1, .int 2)], [.int 1, .ref vd], M2)) rfl rfl rfl ?_
    refine ps_st (S' := (22, [(0, .ref r), (1, .int 2)], [.ref r, .int 1, .ref vd], M2)) rfl rfl rfl ?_
    refine ps_get (S' := (25, [(0, .ref r), (1, .int 2)], [.int (nI p), .int 1, .ref vd], M2)) rfl h6 rfl rfl ?_
    refine pl_call (a := [.ref vd, .int 1, .int (nI p)]) (rest := []) rfl rfl rfl (dx_wrong h9) (fun v37 M38 q39 => ?_)
    obtain ⟨rfl, h40, f41⟩ := q39
    have h43 := (f41.1 r (nin1 (ob_ne h6 h9 (by decide)))).trans h6
    have h44 := (f41.1 b (nin1 (ob_ne h7 h9 (by decide)))).trans h7
    have h45 := (f41.1 da (nin1 (Ne.symm (ob_ar h9 h8)))).trans h8
    have hF46 := hF10.tr f41 (by simp)
    show pl _ _ _ (28, [(0, .ref r), (1, .int 2)], [.int 0], M38) _
    exact ps_ret rfl rfl (Or.inr ⟨Nat.not_le.mp (fun h => c_13 ((le_sz (k := 2) rfl (by decide) hn hp).mpr h)), rfl, h43, h40, hF46⟩)
set_option maxHeartbeats 1000000 in
theorem dx_takes4 {g : xe_G} {M : mi_H} {r c b vd da n p : Nat} {f : Nat → Int32} {it ru wa : Int32} (h_r : M.1 r = some (ob 9 [.ref c, .ref b, .ref vd, .int (nI p), .int it])) (h_b : M.1 b = some (ob 1 [.ref da])) (h_da : M.1 da = some (ar .byte n f)) (h_vd : M.1 vd = some (ob 10 [.int ru, .int wa])) (hn : n ≤ 65540) (hp : p ≤ n) : pt (mT g) 159 [.ref r, .int 4] M (fun v M' => ((p + 4 ≤ n) ∧ v = some (.int 1) ∧ M'.1 r = some (ob 9 [.ref c, .ref b, .ref vd, .int (nI (p + 4)), .int (nI (by4 f p))]) ∧ M'.1 vd = some (ob 10 [.int ru, .int wa]) ∧ fm [r, vd] M M') ∨ ((n < p + 4) ∧ v = some (.int 0) ∧ M'.1 r = some (ob 9 [.ref c, .ref b, .ref vd, .int (nI p), .int it]) ∧ M'.1 vd = some (ob 10 [.int 1, .int (nI p)]) ∧ fm [r, vd] M M')) := by
  refine pt_in (b := mb_159 g) rfl (fun kf => ?_)
  show pl (mT g) kf (mb_159 g).2 (0, [(0, .ref r), (1, .int 4)], [], M) _
  have hF : fm [r, vd] M M := fm.rf
  refine ps_st (S' := (1, [(0, .ref r), (1, .int 4)], [.int 4], M)) rfl rfl rfl ?_
  refine ps_st (S' := (2, [(0, .ref r), (1, .int 4)], [.ref r, .int 4], M)) rfl rfl rfl ?_
  refine ps_get (S' := (5, [(0, .ref r), (1, .int 4)], [.ref b, .int 4], M)) rfl h_r rfl rfl ?_
  refine pl_call (a := [.ref b]) (rest := [.int 4]) rfl rfl rfl (dx_size h_b h_da (hn)) (fun v1 M2 q3 => ?_)
  obtain ⟨rfl, f4⟩ := q3
  have h6 := (f4.1 r (by simp)).trans h_r
  have h7 := (f4.1 b (by simp)).trans h_b
  have h8 := (f4.1 da (by simp)).trans h_da
  have h9 := (f4.1 vd (by simp)).trans h_vd
  have hF10 := hF.tr f4 (by simp)
  show pl _ _ _ (8, [(0, .ref r), (1, .int 4)], [.int (sp_size n f ), .int 4], M2) _
  refine ps_st (S' := (9, [(0, .ref r), (1, .int 4)], [.ref r, .int (sp_size n f ), .int 4], M2)) rfl rfl rfl ?_
  refine ps_get (S' := (12, [(0, .ref r), (1, .int 4)], [.int (nI p), .int (sp_size n f ), .int 4], M2)) rfl h6 rfl rfl ?_
  refine ps_st (S' := (13, [(0, .ref r), (1, .int 4)], [.int ((sp_size n f ) - (nI p)), .int 4], M2)) rfl rfl rfl ?_
  refine ps_if2 (S1 := (29, [(0, .ref r), (1, .int 4)], [], M2)) (S2 := (16, [(0, .ref r), (1, .int 4)], [], M2)) rfl rfl rfl (fun c_13 => ?_) (fun c_13 => ?_)
  · have c_13 : 4 ≤ ((sp_size n f ) - (nI p)) := of_decide_eq_true c_13
    have n_13 : p + 4 ≤ n := (le_szn (x := 4) (p := p) (f := f) (by decide) hn (by omega)).mp c_13
    refine ps_st (S' := (30, [(0, .ref r), (1, .int 4)], [.int 4], M2)) rfl rfl rfl ?_
    refine ps_st (S' := (31, [(0, .ref r), (1, .int 4)], [.int 1, .int 4], M2)) rfl rfl rfl ?_
    refine ps_if2 (S1 := (52, [(0, .ref r), (1, .int 4)], [], M2)) (S2 := (34, [(0, .ref r), (1, .int 4)], [], M2)) rfl rfl rfl (fun c_31 => ?_) (fun c_31 => ?_)
    rotate_left
    · exact absurd (by decide) (of_decide_eq_false c_31)
    refine ps_st (S' := (53, [(0, .ref r), (1, .int 4)], [.ref r], M2)) rfl rfl rfl ?_
    refine ps_st (S' := (54, [(0, .ref r), (1, .int 4)], [.int 4, .ref r], M2)) rfl rfl rfl ?_
    refine ps_st (S' := (55, [(0, .ref r), (1, .int 4)], [.int 2, .int 4, .ref r], M2)) rfl rfl rfl ?_
    refine ps_if2 (S1 := (72, [(0, .ref r), (1, .int 4)], [.ref r], M2)) (S2 := (58, [(0, .ref r), (1, .int 4)], [.ref r], M2)) rfl rfl rfl (fun c_55 => ?_) (fun c_55 => ?_)
    rotate_left
    · exact absurd (by decide) (of_decide_eq_false c_55)
    refine ps_st (S' := (73, [(0, .ref r), (1, .int 4)], [.ref r, .ref r], M2)) rfl rfl rfl ?_
    refine ps_get (S' := (76, [(0, .ref r), (1, .int 4)], [.ref b, .ref r], M2)) rfl h6 rfl rfl ?_
    refine ps_st (S' := (77, [(0, .ref r), (1, .int 4)], [.ref r, .ref b, .ref r], M2)) rfl rfl rfl ?_
    refine ps_get (S' := (80, [(0, .ref r), (1, .int 4)], [.int (nI p), .ref b, .ref r], M2)) rfl h6 rfl rfl ?_
    refine pl_call (a := [.ref b, .int (nI p)]) (rest := [.ref r]) rfl rfl rfl (dx_u4 h7 h8 (hn)) (fun v11 M12 q13 => ?_)
    obtain ⟨rfl, f14⟩ := q13
    have h16 := (f14.1 r (by simp)).trans h6
    have h17 := (f14.1 b (by simp)).trans h7
    have h18 := (f14.1 da (by simp)).trans h8
    have h19 := (f14.1 vd (by simp)).trans h9
    have hF20 := hF10.tr f14 (by simp)
    show pl _ _ _ (83, [(0, .ref r), (1, .int 4)], [.int (sp_u4 n f (nI p)), .ref r], M12) _
    refine ps_put (l' := [.ref c, .ref b, .ref vd, .int (nI p), .int (sp_u4 n f (nI p))]) rfl h16 rfl rfl (fun M21 h22 f23 z24 => ?_)
    have h25 := (f23 b (ob_ne h17 h16 (by decide))).trans h17
    have h26 := (f23 da (Ne.symm (ob_ar h16 h18))).trans h18
    have h27 := (f23 vd (ob_ne h19 h16 (by decide))).trans h19
    have hF28 := hF20.up (by simp) f23 z24
    show pl _ _ _ (86, [(0, .ref r), (1, .int 4)], [], M21) _
    refine ps_st (S' := (87, [(0, .ref r), (1, .int 4)], [.ref r], M21)) rfl rfl rfl ?_
    refine ps_st (S' := (88, [(0, .ref r), (1, .int 4)], [.ref r, .ref r], M21)) rfl rfl rfl ?_
    refine ps_get (S' := (91, [(0, .ref r), (1, .int 4)], [.int (nI p), .ref r], M21)) rfl h22 rfl rfl ?_
    refine ps_st (S' := (92, [(0, .ref r), (1, .int 4)], [.int 4, .int (nI p), .ref r], M21)) rfl rfl rfl ?_
    refine ps_st (S' := (93, [(0, .ref r), (1, .int 4)], [.int ((nI p) + 4), .ref r], M21)) rfl rfl rfl ?_
    refine ps_put (l' := [.ref c, .ref b, .ref vd, .int ((nI p) + 4), .int (sp_u4 n f (nI p))]) rfl h22 rfl rfl (fun M29 h30 f31 z32 => ?_)
    have h33 := (f31 b (ob_ne h25 h22 (by decide))).trans h25
    have h34 := (f31 da (Ne.symm (ob_ar h22 h26))).trans h26
    have h35 := (f31 vd (ob_ne h27 h22 (by decide))).trans h27
    have hF36 := hF28.up (by simp) f31 z32
    show pl _ _ _ (96, [(0, .ref r), (1, .int 4)], [], M29) _
    refine ps_st (S' := (97, [(0, .ref r), (1, .int 4)], [.int 1], M29)) rfl rfl rfl ?_
    exact ps_ret rfl rfl (have ok := (le_sz (k := 4) rfl (by decide) hn hp).mp c_13; Or.inl ⟨ok, rfl, by rw [h30, nI_plus (j := 4) rfl (by omega), u4_nI hn (by omega)], h35, hF36⟩)
  · have c_13 : ¬ (4 ≤ ((sp_size n f ) - (nI p))) := of_decide_eq_false c_13
    have n_13 : ¬ (p + 4 ≤ n) := fun h9 => c_13 ((le_szn (x := 4) (p := p) (f := f) (by decide) hn (by omega)).mpr h9)
    refine ps_st (S' := (17, [(0, .ref r), (1, .int 4)], [.ref r], M2)) rfl rfl rfl ?_
    refine ps_get (S' := (20, [(0, .ref r), (1, .int 4)], [.ref vd], M2)) rfl h6 rfl rfl ?_
    refine ps_st (S' := (21, [(0, .ref r), (1, .int 4)], [.int 1, .ref vd], M2)) rfl rfl rfl ?_
    refine ps_st (S' := (22, [(0, .ref r), (1, .int 4)], [.ref r, .int 1, .ref vd], M2)) rfl rfl rfl ?_
    refine ps_get (S' := (25, [(0, .ref r), (1, .int 4)], [.int (nI p), .int 1, .ref vd], M2)) rfl h6 rfl rfl ?_
    refine pl_call (a := [.ref vd, .int 1, .int (nI p)]) (rest := []) rfl rfl rfl (dx_wrong h9) (fun v37 M38 q39 => ?_)
    obtain ⟨rfl, h40, f41⟩ := q39
    have h43 := (f41.1 r (nin1 (ob_ne h6 h9 (by decide)))).trans h6
    have h44 := (f41.1 b (nin1 (ob_ne h7 h9 (by decide)))).trans h7
    have h45 := (f41.1 da (nin1 (Ne.symm (ob_ar h9 h8)))).trans h8
    have hF46 := hF10.tr f41 (by simp)
    show pl _ _ _ (28, [(0, .ref r), (1, .int 4)], [.int 0], M38) _
    exact ps_ret rfl rfl (Or.inr ⟨Nat.not_le.mp (fun h => c_13 ((le_sz (k := 4) rfl (by decide) hn hp).mpr h)), rfl, h43, h40, hF46⟩)
