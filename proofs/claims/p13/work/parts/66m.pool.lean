section
/-! the reference: entries of the pool (laid by wip/p2/c66.py) -/
set_option maxHeartbeats 2000000 in
theorem rm_tag {g : xe_G}  {m0 : Nat} {q : Nat → Nat} {z : Nat × Nat} {I : rI} {R : rR} {M : mi_H} {x1 : Int32} {n : Nat} {f : Nat → Int32} {S : Nat} {cp mj : Int32} {pa py : Nat → Int32}  (hR : RS g m0 q z I R M) (hF : FK n f I R) (hP : PK n f S cp mj pa py I R) {d : Nat} (hd : 2 ≤ d) : mt (mT g) d 247 [.ref m0, .int x1] M (fun v M' => v = some (.int (tgf f cp pa x1)) ∧ M' = M) := by
  obtain ⟨d, rfl⟩ : ∃ e, d = e + 1 := ⟨d - 1, by omega⟩
  refine mt_in (b := mb_247 g) rfl rfl ?_
  show ml (mT g) d (mb_247 g).2 (0, [(0, .ref m0), (1, .int x1)], [], M) _
  refine ml_st (S' := (1, [(0, .ref m0), (1, .int x1)], [.int x1], M)) rfl rfl rfl ?_
  refine ml_if (S1 := (26, [], [], M)) (S2 := (4, [(0, .ref m0), (1, .int x1)], [], M)) rfl rfl rfl (fun c_1 => ?_) (fun c_1 => ?_)
  · have c_1 : x1 ≤ 0 := of_decide_eq_true c_1
    refine ml_st (S' := (27, [], [.int 0], M)) rfl rfl rfl ?_
    refine ml_st (S' := (45, [], [.int 0], M)) rfl rfl rfl ?_
    exact ml_ret rfl (rfl) (⟨congrArg (fun y => some (Value.int y)) (show (0 : Int32) = tgf f cp pa x1 by rw [tgf, if_pos c_1]), rfl⟩)
  · have c_1 : ¬ (x1 ≤ 0) := of_decide_eq_false c_1
    refine ml_blk 2 (S' := (6, [(0, .ref m0), (1, .int x1)], [.ref m0, .int x1], M)) rfl ?_
    refine rg_int (S' := (9, [(0, .ref m0), (1, .int x1)], [.int cp, .int x1], M)) rfl hR rfl (hP.2.1) rfl ?_
    refine ml_if2 (S1 := (26, [], [], M)) (S2 := (12, [(0, .ref m0), (1, .int x1)], [], M)) rfl rfl rfl (fun c_9 => ?_) (fun c_9 => ?_)
    · have c_9 : cp ≤ x1 := of_decide_eq_true c_9
      refine ml_st (S' := (27, [], [.int 0], M)) rfl rfl rfl ?_
      refine ml_st (S' := (45, [], [.int 0], M)) rfl rfl rfl ?_
      exact ml_ret rfl (rfl) (⟨congrArg (fun y => some (Value.int y)) (show (0 : Int32) = tgf f cp pa x1 by rw [tgf, if_neg c_1, if_pos c_9]), rfl⟩)
    · have c_9 : ¬ (cp ≤ x1) := of_decide_eq_false c_9
      have hk0 : 0 < x1.toInt := by have := i_nle c_1; have : (0 : Int32).toInt = 0 := rfl; omega
      have hk1 := i_nle c_9
      refine ml_st (S' := (13, [(0, .ref m0), (1, .int x1)], [.ref m0], M)) rfl rfl rfl ?_
      refine rg_ref (S' := (16, [(0, .ref m0), (1, .int x1)], [.ref (q 21)], M)) rfl hR rfl rfl ?_
      refine ml_st (S' := (17, [(0, .ref m0), (1, .int x1)], [.ref m0, .ref (q 21)], M)) rfl rfl rfl ?_
      refine rg_int (S' := (20, [(0, .ref m0), (1, .int x1)], [.int 0, .ref (q 21)], M)) rfl hR rfl (hP.1) rfl ?_
      refine ml_blk 2 (S' := (22, [(0, .ref m0), (1, .int x1)], [.int (0 + x1), .ref (q 21)], M)) rfl ?_
      refine ra_ld (k := 21) (S' := (23, [(0, .ref m0), (1, .int x1)], [.int (pa (Int32.toNatClampNeg x1))], M)) rfl hR rfl ((hP.e hk0 hk1).2.1) ((hP.e hk0 hk1).1) rfl ?_
      refine ml_if (S1 := (30, [(0, .ref m0), (1, .int x1)], [], M)) (S2 := (26, [], [], M)) rfl rfl rfl (fun c_23 => ?_) (fun c_23 => ?_)
      · have c_23 : 0 ≤ (pa (Int32.toNatClampNeg x1)) := of_decide_eq_true c_23
        refine ml_blk 2 (S' := (32, [(0, .ref m0), (1, .int x1)], [.ref m0, .ref m0], M)) rfl ?_
        refine rg_ref (S' := (35, [(0, .ref m0), (1, .int x1)], [.ref (q 21), .ref m0], M)) rfl hR rfl rfl ?_
        refine ml_st (S' := (36, [(0, .ref m0), (1, .int x1)], [.ref m0, .ref (q 21), .ref m0], M)) rfl rfl rfl ?_
        refine rg_int (S' := (39, [(0, .ref m0), (1, .int x1)], [.int 0, .ref (q 21), .ref m0], M)) rfl hR rfl (hP.1) rfl ?_
        refine ml_blk 2 (S' := (41, [(0, .ref m0), (1, .int x1)], [.int (0 + x1), .ref (q 21), .ref m0], M)) rfl ?_
        refine ra_ld (k := 21) (S' := (42, [(0, .ref m0), (1, .int x1)], [.int (pa (Int32.toNatClampNeg x1)), .ref m0], M)) rfl hR rfl ((hP.e hk0 hk1).2.1) ((hP.e hk0 hk1).1) rfl ?_
        refine ml_call (a := [.ref m0, .int (pa (Int32.toNatClampNeg x1))]) (rest := []) rfl (hR.okc rfl rfl rfl) rfl rfl (rm_u1 hR hF (i_le c_23) (by obtain ⟨h1, h2, -⟩ := (hP.e hk0 hk1).2.2.resolve_left (m1_neg (i_le c_23)); have := esz_ge (t := f1 f (pa (Int32.toNatClampNeg x1))); omega) (by omega)) (fun v11 M12 h13 => ?_)
        obtain ⟨rfl, h13⟩ := h13
        rw [h13]
        show ml _ _ _ (45, [], [.int (f1 f (pa (Int32.toNatClampNeg x1)))], M) _
        exact ml_ret rfl (rfl) (⟨congrArg (fun y => some (Value.int y)) (show _ = tgf f cp pa x1 by rw [tgf, if_neg c_1, if_neg c_9, if_neg (Int32.not_lt.mpr c_23)]), rfl⟩)
      · have c_23 : ¬ (0 ≤ (pa (Int32.toNatClampNeg x1))) := of_decide_eq_false c_23
        refine ml_st (S' := (27, [], [.int 0], M)) rfl rfl rfl ?_
        refine ml_st (S' := (45, [], [.int 0], M)) rfl rfl rfl ?_
        exact ml_ret rfl (rfl) (⟨congrArg (fun y => some (Value.int y)) (show (0 : Int32) = tgf f cp pa x1 by rw [tgf, if_neg c_1, if_neg c_9, if_pos (Int32.not_le.mp c_23)]), rfl⟩)
set_option maxHeartbeats 2000000 in
theorem rm_index {g : xe_G}  {m0 : Nat} {q : Nat → Nat} {z : Nat × Nat} {I : rI} {R : rR} {M : mi_H} {x1 x2 : Int32} {n : Nat} {f : Nat → Int32} {S : Nat} {cp mj : Int32} {pa py : Nat → Int32}  (hR : RS g m0 q z I R M) (hF : FK n f I R) (hP : PK n f S cp mj pa py I R) (hk0 : 0 < x1.toInt) (hk1 : x1.toInt < cp.toInt) (hpa : 0 ≤ (pa (Int32.toNatClampNeg x1)).toInt) (hx0 : 0 ≤ x2.toInt) (hx1 : (pa (Int32.toNatClampNeg x1)).toInt + x2.toInt + 2 ≤ n) {d : Nat} (hd : 3 ≤ d) : mt (mT g) d 213 [.ref m0, .int x1, .int x2] M (fun v M' => v = some (.int (ixf f pa x1 x2)) ∧ M' = M) := by
  obtain ⟨d, rfl⟩ : ∃ e, d = e + 1 := ⟨d - 1, by omega⟩
  refine mt_in (b := mb_213 g) rfl rfl ?_
  show ml (mT g) d (mb_213 g).2 (0, [(0, .ref m0), (1, .int x1), (2, .int x2)], [], M) _
  have hn := hF.1
  have ex : (pa (Int32.toNatClampNeg x1) + x2).toInt = (pa (Int32.toNatClampNeg x1)).toInt + x2.toInt := i_add (by omega) (by omega)
  refine ml_blk 2 (S' := (2, [(0, .ref m0), (1, .int x1), (2, .int x2)], [.ref m0, .ref m0], M)) rfl ?_
  refine rg_ref (S' := (5, [(0, .ref m0), (1, .int x1), (2, .int x2)], [.ref (q 21), .ref m0], M)) rfl hR rfl rfl ?_
  refine ml_st (S' := (6, [(0, .ref m0), (1, .int x1), (2, .int x2)], [.ref m0, .ref (q 21), .ref m0], M)) rfl rfl rfl ?_
  refine rg_int (S' := (9, [(0, .ref m0), (1, .int x1), (2, .int x2)], [.int 0, .ref (q 21), .ref m0], M)) rfl hR rfl (hP.1) rfl ?_
  refine ml_blk 2 (S' := (11, [(0, .ref m0), (1, .int x1), (2, .int x2)], [.int (0 + x1), .ref (q 21), .ref m0], M)) rfl ?_
  refine ra_ld (k := 21) (S' := (12, [(0, .ref m0), (1, .int x1), (2, .int x2)], [.int (pa (Int32.toNatClampNeg x1)), .ref m0], M)) rfl hR rfl ((hP.e hk0 hk1).2.1) ((hP.e hk0 hk1).1) rfl ?_
  refine ml_blk 2 (S' := (14, [(0, .ref m0), (1, .int x1), (2, .int x2)], [.int ((pa (Int32.toNatClampNeg x1)) + x2), .ref m0], M)) rfl ?_
  refine ml_call (a := [.ref m0, .int ((pa (Int32.toNatClampNeg x1)) + x2)]) (rest := []) rfl (hR.okc rfl rfl rfl) rfl rfl (rm_u2 hR hF (by omega) (by omega) (by omega)) (fun v11 M12 h13 => ?_)
  obtain ⟨rfl, h13⟩ := h13
  rw [h13]
  show ml _ _ _ (17, [(0, .ref m0), (1, .int x1), (2, .int x2)], [.int (f2 f ((pa (Int32.toNatClampNeg x1)) + x2))], M) _
  exact ml_ret rfl (rfl) (⟨rfl, rfl⟩)
set_option maxHeartbeats 2000000 in
theorem rm_symOf {g : xe_G}  {m0 : Nat} {q : Nat → Nat} {z : Nat × Nat} {I : rI} {R : rR} {M : mi_H} {x1 : Int32} {n : Nat} {f : Nat → Int32} {S : Nat} {cp mj : Int32} {pa py : Nat → Int32}  (hR : RS g m0 q z I R M) (hP : PK n f S cp mj pa py I R) (ht : tgf f cp pa x1 = 1) {d : Nat} (hd : 1 ≤ d) : mt (mT g) d 244 [.ref m0, .int x1] M (fun v M' => v = some (.int (pyf py x1)) ∧ M' = M) := by
  obtain ⟨d, rfl⟩ : ∃ e, d = e + 1 := ⟨d - 1, by omega⟩
  refine mt_in (b := mb_244 g) rfl rfl ?_
  show ml (mT g) d (mb_244 g).2 (0, [(0, .ref m0), (1, .int x1)], [], M) _
  refine ml_st (S' := (1, [(0, .ref m0), (1, .int x1)], [.ref m0], M)) rfl rfl rfl ?_
  refine rg_ref (S' := (4, [(0, .ref m0), (1, .int x1)], [.ref (q 22)], M)) rfl hR rfl rfl ?_
  refine ml_st (S' := (5, [(0, .ref m0), (1, .int x1)], [.ref m0, .ref (q 22)], M)) rfl rfl rfl ?_
  refine rg_int (S' := (8, [(0, .ref m0), (1, .int x1)], [.int 0, .ref (q 22)], M)) rfl hR rfl (hP.1) rfl ?_
  refine ml_blk 2 (S' := (10, [(0, .ref m0), (1, .int x1)], [.int (0 + x1), .ref (q 22)], M)) rfl ?_
  refine ra_ld (k := 22) (S' := (11, [(0, .ref m0), (1, .int x1)], [.int (pyf py x1)], M)) rfl hR rfl ((hP.y ht).2.1) ((hP.y ht).1) rfl ?_
  exact ml_ret rfl (rfl) (⟨rfl, rfl⟩)
set_option maxHeartbeats 2000000 in
theorem rm_className {g : xe_G}  {m0 : Nat} {q : Nat → Nat} {z : Nat × Nat} {I : rI} {R : rR} {M : mi_H} {x1 : Int32} {n : Nat} {f : Nat → Int32} {S : Nat} {cp mj : Int32} {pa py : Nat → Int32}  (hR : RS g m0 q z I R M) (hF : FK n f I R) (hP : PK n f S cp mj pa py I R) (ht : tgf f cp pa x1 = 7) (h7 : ix7 f cp pa x1) {d : Nat} (hd : 4 ≤ d) : mt (mT g) d 193 [.ref m0, .int x1] M (fun v M' => v = some (.int (pyf py (ixf f pa x1 1))) ∧ M' = M) := by
  obtain ⟨d, rfl⟩ : ∃ e, d = e + 1 := ⟨d - 1, by omega⟩
  refine mt_in (b := mb_193 g) rfl rfl ?_
  show ml (mT g) d (mb_193 g).2 (0, [(0, .ref m0), (1, .int x1)], [], M) _
  refine ml_blk 3 (S' := (3, [(0, .ref m0), (1, .int x1)], [.int x1, .ref m0, .ref m0], M)) rfl ?_
  refine ml_st (S' := (4, [(0, .ref m0), (1, .int x1)], [.int 1, .int x1, .ref m0, .ref m0], M)) rfl rfl rfl ?_
  refine ml_call (a := [.ref m0, .int x1, .int 1]) (rest := [.ref m0]) rfl (hR.okc rfl rfl rfl) rfl rfl (rm_index hR hF hP ((hP.tg ht (by decide)).1) ((hP.tg ht (by decide)).2.1) ((hP.tg ht (by decide)).2.2.1) (by decide) (by have q := (hP.tg ht (by decide)).2.2.2.2; rw [show esz _ = 3 from rfl] at q; have : (1 : Int32).toInt = 1 := rfl; omega) (by omega)) (fun v11 M12 h13 => ?_)
  obtain ⟨rfl, h13⟩ := h13
  rw [h13]
  show ml _ _ _ (7, [(0, .ref m0), (1, .int x1)], [.int (ixf f pa x1 1), .ref m0], M) _
  refine ml_call (a := [.ref m0, .int (ixf f pa x1 1)]) (rest := []) rfl (hR.okc rfl rfl rfl) rfl rfl (rm_symOf hR hP (h7) (by omega)) (fun v14 M15 h16 => ?_)
  obtain ⟨rfl, h16⟩ := h16
  rw [h16]
  show ml _ _ _ (10, [(0, .ref m0), (1, .int x1)], [.int (pyf py (ixf f pa x1 1))], M) _
  exact ml_ret rfl (rfl) (⟨rfl, rfl⟩)
set_option maxHeartbeats 2000000 in
theorem rm_nameOf {g : xe_G}  {m0 : Nat} {q : Nat → Nat} {z : Nat × Nat} {I : rI} {R : rR} {M : mi_H} {x1 : Int32} {n : Nat} {f : Nat → Int32} {S : Nat} {cp mj : Int32} {pa py : Nat → Int32}  (hR : RS g m0 q z I R M) (hF : FK n f I R) (hP : PK n f S cp mj pa py I R) (e : esz (tgf f cp pa x1) = 5) (h0 : tgf f cp pa x1 ≠ 0) (h17 : ix17 f cp pa x1) {d : Nat} (hd : 4 ≤ d) : mt (mT g) d 225 [.ref m0, .int x1] M (fun v M' => v = some (.int (pyf py (ixf f pa (ixf f pa x1 3) 1))) ∧ M' = M) := by
  obtain ⟨d, rfl⟩ : ∃ e, d = e + 1 := ⟨d - 1, by omega⟩
  refine mt_in (b := mb_225 g) rfl rfl ?_
  show ml (mT g) d (mb_225 g).2 (0, [(0, .ref m0), (1, .int x1)], [], M) _
  refine ml_blk 3 (S' := (3, [(0, .ref m0), (1, .int x1)], [.ref m0, .ref m0, .ref m0], M)) rfl ?_
  refine ml_blk 2 (S' := (5, [(0, .ref m0), (1, .int x1)], [.int 3, .int x1, .ref m0, .ref m0, .ref m0], M)) rfl ?_
  refine ml_call (a := [.ref m0, .int x1, .int 3]) (rest := [.ref m0, .ref m0]) rfl (hR.okc rfl rfl rfl) rfl rfl (rm_index hR hF hP ((hP.tg rfl h0).1) ((hP.tg rfl h0).2.1) ((hP.tg rfl h0).2.2.1) (by decide) (by have q := (hP.tg rfl h0).2.2.2.2; rw [show esz _ = 5 from e] at q; have : (3 : Int32).toInt = 3 := rfl; omega) (by omega)) (fun v11 M12 h13 => ?_)
  obtain ⟨rfl, h13⟩ := h13
  rw [h13]
  show ml _ _ _ (8, [(0, .ref m0), (1, .int x1)], [.int (ixf f pa x1 3), .ref m0, .ref m0], M) _
  refine ml_st (S' := (9, [(0, .ref m0), (1, .int x1)], [.int 1, .int (ixf f pa x1 3), .ref m0, .ref m0], M)) rfl rfl rfl ?_
  refine ml_call (a := [.ref m0, .int (ixf f pa x1 3), .int 1]) (rest := [.ref m0]) rfl (hR.okc rfl rfl rfl) rfl rfl (rm_index hR hF hP ((hP.tg h17.1 (by decide)).1) ((hP.tg h17.1 (by decide)).2.1) ((hP.tg h17.1 (by decide)).2.2.1) (by decide) (by have q := (hP.tg h17.1 (by decide)).2.2.2.2; rw [show esz _ = 5 from rfl] at q; have : (1 : Int32).toInt = 1 := rfl; omega) (by omega)) (fun v14 M15 h16 => ?_)
  obtain ⟨rfl, h16⟩ := h16
  rw [h16]
  show ml _ _ _ (12, [(0, .ref m0), (1, .int x1)], [.int (ixf f pa (ixf f pa x1 3) 1), .ref m0], M) _
  refine ml_call (a := [.ref m0, .int (ixf f pa (ixf f pa x1 3) 1)]) (rest := []) rfl (hR.okc rfl rfl rfl) rfl rfl (rm_symOf hR hP (h17.2.1) (by omega)) (fun v17 M18 h19 => ?_)
  obtain ⟨rfl, h19⟩ := h19
  rw [h19]
  show ml _ _ _ (15, [(0, .ref m0), (1, .int x1)], [.int (pyf py (ixf f pa (ixf f pa x1 3) 1))], M) _
  exact ml_ret rfl (rfl) (⟨rfl, rfl⟩)
set_option maxHeartbeats 2000000 in
theorem rm_descOf {g : xe_G}  {m0 : Nat} {q : Nat → Nat} {z : Nat × Nat} {I : rI} {R : rR} {M : mi_H} {x1 : Int32} {n : Nat} {f : Nat → Int32} {S : Nat} {cp mj : Int32} {pa py : Nat → Int32}  (hR : RS g m0 q z I R M) (hF : FK n f I R) (hP : PK n f S cp mj pa py I R) (e : esz (tgf f cp pa x1) = 5) (h0 : tgf f cp pa x1 ≠ 0) (h17 : ix17 f cp pa x1) {d : Nat} (hd : 4 ≤ d) : mt (mT g) d 201 [.ref m0, .int x1] M (fun v M' => v = some (.int (pyf py (ixf f pa (ixf f pa x1 3) 3))) ∧ M' = M) := by
  obtain ⟨d, rfl⟩ : ∃ e, d = e + 1 := ⟨d - 1, by omega⟩
  refine mt_in (b := mb_201 g) rfl rfl ?_
  show ml (mT g) d (mb_201 g).2 (0, [(0, .ref m0), (1, .int x1)], [], M) _
  refine ml_blk 3 (S' := (3, [(0, .ref m0), (1, .int x1)], [.ref m0, .ref m0, .ref m0], M)) rfl ?_
  refine ml_blk 2 (S' := (5, [(0, .ref m0), (1, .int x1)], [.int 3, .int x1, .ref m0, .ref m0, .ref m0], M)) rfl ?_
  refine ml_call (a := [.ref m0, .int x1, .int 3]) (rest := [.ref m0, .ref m0]) rfl (hR.okc rfl rfl rfl) rfl rfl (rm_index hR hF hP ((hP.tg rfl h0).1) ((hP.tg rfl h0).2.1) ((hP.tg rfl h0).2.2.1) (by decide) (by have q := (hP.tg rfl h0).2.2.2.2; rw [show esz _ = 5 from e] at q; have : (3 : Int32).toInt = 3 := rfl; omega) (by omega)) (fun v11 M12 h13 => ?_)
  obtain ⟨rfl, h13⟩ := h13
  rw [h13]
  show ml _ _ _ (8, [(0, .ref m0), (1, .int x1)], [.int (ixf f pa x1 3), .ref m0, .ref m0], M) _
  refine ml_st (S' := (9, [(0, .ref m0), (1, .int x1)], [.int 3, .int (ixf f pa x1 3), .ref m0, .ref m0], M)) rfl rfl rfl ?_
  refine ml_call (a := [.ref m0, .int (ixf f pa x1 3), .int 3]) (rest := [.ref m0]) rfl (hR.okc rfl rfl rfl) rfl rfl (rm_index hR hF hP ((hP.tg h17.1 (by decide)).1) ((hP.tg h17.1 (by decide)).2.1) ((hP.tg h17.1 (by decide)).2.2.1) (by decide) (by have q := (hP.tg h17.1 (by decide)).2.2.2.2; rw [show esz _ = 5 from rfl] at q; have : (3 : Int32).toInt = 3 := rfl; omega) (by omega)) (fun v14 M15 h16 => ?_)
  obtain ⟨rfl, h16⟩ := h16
  rw [h16]
  show ml _ _ _ (12, [(0, .ref m0), (1, .int x1)], [.int (ixf f pa (ixf f pa x1 3) 3), .ref m0], M) _
  refine ml_call (a := [.ref m0, .int (ixf f pa (ixf f pa x1 3) 3)]) (rest := []) rfl (hR.okc rfl rfl rfl) rfl rfl (rm_symOf hR hP (h17.2.2) (by omega)) (fun v17 M18 h19 => ?_)
  obtain ⟨rfl, h19⟩ := h19
  rw [h19]
  show ml _ _ _ (15, [(0, .ref m0), (1, .int x1)], [.int (pyf py (ixf f pa (ixf f pa x1 3) 3))], M) _
  exact ml_ret rfl (rfl) (⟨rfl, rfl⟩)
set_option maxHeartbeats 2000000 in
theorem rm_isField {g : xe_G}  {m0 : Nat} {q : Nat → Nat} {z : Nat × Nat} {I : rI} {R : rR} {M : mi_H} {x1 : Int32} {S cN : Nat} {sa sl ch : Nat → Int32}  (hR : RS g m0 q z I R M) (hY : SK S cN sa sl ch I R) (hs0 : 0 ≤ x1.toInt) (hs1 : x1.toInt < S) {d : Nat} (hd : 4 ≤ d) : mt (mT g) d 217 [.ref m0, .int x1] M (fun v M' => (∃ x : Int32, v = some (.int x) ∧ (x = 0 ∨ x = 1) ∧ (x = 0 ∨ 0 < (sL sl x1).toInt)) ∧ M' = M) := by
  obtain ⟨d, rfl⟩ : ∃ e, d = e + 1 := ⟨d - 1, by omega⟩
  refine mt_in (b := mb_217 g) rfl rfl ?_
  show ml (mT g) d (mb_217 g).2 (0, [(0, .ref m0), (1, .int x1)], [], M) _
  have hsl := hY.s hs0 hs1
  have hsl0 : 0 ≤ (sL sl x1).toInt := hsl.2.2.2.1
  have hsl1 : (sL sl x1).toInt ≤ 66000 := by have h1 := hsl.2.2.1; have h2 := hsl.2.2.2.2.1; have h3 := hsl.2.2.2.2.2.1; show (sl _).toInt ≤ 66000; omega
  refine ml_blk 3 (S' := (3, [(0, .ref m0), (1, .int x1)], [.int 0, .int x1, .ref m0], M)) rfl ?_
  refine ml_call (a := [.ref m0, .int x1, .int 0]) (rest := []) rfl (hR.okc rfl rfl rfl) rfl rfl (rm_fieldText hR hY (hs0) (hs1) (by decide) (by have : (0 : Int32).toInt = 0 := rfl; omega) (by omega)) (fun v11 M12 h13 => ?_)
  obtain ⟨rfl, h13⟩ := h13
  rw [h13]
  show ml _ _ _ (6, [(0, .ref m0), (1, .int x1)], [.int (FTx (tx sa ch x1) (sL sl x1) 0)], M) _
  refine ml_blk 2 (S' := (8, [(0, .ref m0), (1, .int x1)], [.int x1, .ref m0, .int (FTx (tx sa ch x1) (sL sl x1) 0)], M)) rfl ?_
  refine ml_call (a := [.ref m0, .int x1]) (rest := [.int (FTx (tx sa ch x1) (sL sl x1) 0)]) rfl (hR.okc rfl rfl rfl) rfl rfl (rm_length hR hY (hs0) (hs1) (by omega)) (fun v14 M15 h16 => ?_)
  obtain ⟨rfl, h16⟩ := h16
  rw [h16]
  show ml _ _ _ (11, [(0, .ref m0), (1, .int x1)], [.int (sL sl x1), .int (FTx (tx sa ch x1) (sL sl x1) 0)], M) _
  refine ml_if2 (S1 := (18, [(0, .ref m0), (1, .int x1)], [], M)) (S2 := (14, [(0, .ref m0), (1, .int x1)], [], M)) rfl rfl rfl (fun c_11 => ?_) (fun c_11 => ?_)
  · have c_11 : ¬ (FTx (tx sa ch x1) (sL sl x1) 0) = (sL sl x1) := of_decide_eq_true c_11
    refine ml_st (S' := (19, [], [.int 0], M)) rfl rfl rfl ?_
    exact ml_ret rfl (r_z (Or.inl rfl)) (⟨⟨_, rfl, Or.inl rfl, Or.inl rfl⟩, rfl⟩)
  · have c_11 : ¬ (¬ (FTx (tx sa ch x1) (sL sl x1) 0) = (sL sl x1)) := of_decide_eq_false c_11
    refine ml_st (S' := (15, [(0, .ref m0), (1, .int x1)], [.int 1], M)) rfl rfl rfl ?_
    refine ml_st (S' := (19, [], [.int 1], M)) rfl rfl rfl ?_
    exact ml_ret rfl (r_z (Or.inr rfl)) (⟨⟨_, rfl, Or.inr rfl, Or.inr (by have q := FTx_b (c := (tx sa ch x1)) (n := (sL sl x1)) (a := 0) (by decide) hsl0 (by omega); have e : FTx (tx sa ch x1) (sL sl x1) 0 = (sL sl x1) := Decidable.not_not.mp c_11; rw [e] at q; rcases q with q | q; (rw [q] at hsl0; exact absurd hsl0 (by decide)); (have : (0 : Int32).toInt = 0 := rfl; omega))⟩, rfl⟩)
set_option maxHeartbeats 2000000 in
theorem rm_places0 {g : xe_G}  {m0 : Nat} {q : Nat → Nat} {z : Nat × Nat} {I : rI} {R : rR} {M : mi_H} {x1 : Int32} {S cN : Nat} {sa sl ch : Nat → Int32}  (hR : RS g m0 q z I R M) (hY : SK S cN sa sl ch I R) (hs0 : 0 ≤ x1.toInt) (hs1 : x1.toInt < S) (hag : AGW (tx sa ch x1) (sL sl x1) 1) {d : Nat} (hd : 4 ≤ d) : mt (mT g) d 233 [.ref m0, .int x1] M (fun v M' => (∃ x : Int32, v = some (.int x)) ∧ M' = M) := by
  obtain ⟨d, rfl⟩ : ∃ e, d = e + 1 := ⟨d - 1, by omega⟩
  refine mt_in (b := mb_233 g) rfl rfl ?_
  show ml (mT g) d (mb_233 g).2 (0, [(0, .ref m0), (1, .int x1)], [], M) _
  have hsl := hY.s hs0 hs1
  have hsl0 : 0 ≤ (sL sl x1).toInt := hsl.2.2.2.1
  have hsl1 : (sL sl x1).toInt ≤ 66000 := by have h1 := hsl.2.2.1; have h2 := hsl.2.2.2.2.1; have h3 := hsl.2.2.2.2.2.1; show (sl _).toInt ≤ 66000; omega
  refine ml_st (S' := (1, [(0, .ref m0), (1, .int x1)], [.int 1], M)) rfl rfl rfl ?_
  refine ml_st (S' := (2, [(2, .int 1), (0, .ref m0), (1, .int x1)], [], M)) rfl rfl rfl ?_
  refine ml_st (S' := (3, [(2, .int 1), (0, .ref m0), (1, .int x1)], [.int 0], M)) rfl rfl rfl ?_
  refine ml_st (S' := (4, [(0, .ref m0), (1, .int x1), (2, .int 1), (3, .int 0)], [], M)) rfl rfl rfl ?_
  have L_4 : ∀ (n_4 : Nat) (i4_2 : Int32) (i4_3 : Int32), (2147483648 - i4_2.toInt).toNat ≤ n_4 → (AGW (tx sa ch x1) (sL sl x1) i4_2) → ml (mT g) d (mb_233 g).2 (4, [(0, .ref m0), (1, .int x1), (2, .int i4_2), (3, .int i4_3)], [], M) (fun v M' => (∃ x : Int32, v = some (.int x)) ∧ M' = M) := by
    intro n_4
    induction n_4 with
    | zero => intro i4_2 i4_3 hn; exact (loop_zero hn).elim
    | succ n_4 ih_4 =>
      intro i4_2 i4_3 hn_4 hi_4
      have hb := hi_4.at
      refine ml_blk 3 (S' := (7, [(0, .ref m0), (1, .int x1), (2, .int i4_2), (3, .int i4_3)], [.int i4_2, .int x1, .ref m0], M)) rfl ?_
      refine ml_call (a := [.ref m0, .int x1, .int i4_2]) (rest := []) rfl (hR.okc rfl rfl rfl) rfl rfl (rm_at hR hY (hs0) (hs1) (hb.1) (hb.2) (by omega)) (fun v11 M12 h13 => ?_)
      obtain ⟨rfl, h13⟩ := h13
      rw [h13]
      show ml _ _ _ (10, [(0, .ref m0), (1, .int x1), (2, .int i4_2), (3, .int i4_3)], [.int (tx sa ch x1 i4_2)], M) _
      refine ml_st (S' := (12, [(0, .ref m0), (1, .int x1), (2, .int i4_2), (3, .int i4_3)], [.int 41, .int (tx sa ch x1 i4_2)], M)) rfl rfl rfl ?_
      refine ml_if2 (S1 := (55, [(0, .ref m0), (1, .int x1), (2, .int i4_2), (3, .int i4_3)], [], M)) (S2 := (15, [(0, .ref m0), (1, .int x1), (2, .int i4_2), (3, .int i4_3)], [], M)) rfl rfl rfl (fun c_12 => ?_) (fun c_12 => ?_)
      · have c_12 : (tx sa ch x1 i4_2) = 41 := of_decide_eq_true c_12
        refine ml_st (S' := (56, [(0, .ref m0), (1, .int x1), (2, .int i4_2), (3, .int i4_3)], [.int i4_3], M)) rfl rfl rfl ?_
        exact ml_ret rfl (rfl) (⟨⟨_, rfl⟩, rfl⟩)
      · have c_12 : ¬ ((tx sa ch x1 i4_2) = 41) := of_decide_eq_false c_12
        refine ml_blk 3 (S' := (18, [(0, .ref m0), (1, .int x1), (2, .int i4_2), (3, .int i4_3)], [.int i4_2, .int x1, .ref m0], M)) rfl ?_
        refine ml_call (a := [.ref m0, .int x1, .int i4_2]) (rest := []) rfl (hR.okc rfl rfl rfl) rfl rfl (rm_at hR hY (hs0) (hs1) (hb.1) (hb.2) (by omega)) (fun v14 M15 h16 => ?_)
        obtain ⟨rfl, h16⟩ := h16
        rw [h16]
        show ml _ _ _ (21, [(0, .ref m0), (1, .int x1), (2, .int i4_2), (3, .int i4_3)], [.int (tx sa ch x1 i4_2)], M) _
        refine ml_st (S' := (23, [(4, .int (tx sa ch x1 i4_2)), (0, .ref m0), (1, .int x1), (2, .int i4_2), (3, .int i4_3)], [], M)) rfl rfl rfl ?_
        refine ml_blk 3 (S' := (28, [(4, .int (tx sa ch x1 i4_2)), (0, .ref m0), (1, .int x1), (2, .int i4_2), (3, .int i4_3)], [.int 74, .int (tx sa ch x1 i4_2), .int i4_3], M)) rfl ?_
        refine ml_if2 (S1 := (38, [(0, .ref m0), (1, .int x1), (2, .int i4_2)], [.int i4_3], M)) (S2 := (31, [(4, .int (tx sa ch x1 i4_2)), (0, .ref m0), (1, .int x1), (2, .int i4_2), (3, .int i4_3)], [.int i4_3], M)) rfl rfl rfl (fun c_28 => ?_) (fun c_28 => ?_)
        · have c_28 : (tx sa ch x1 i4_2) = 74 := of_decide_eq_true c_28
          refine ml_st (S' := (39, [(0, .ref m0), (1, .int x1), (2, .int i4_2)], [.int 2, .int i4_3], M)) rfl rfl rfl ?_
          refine ml_st (S' := (43, [(0, .ref m0), (1, .int x1), (2, .int i4_2)], [.int 2, .int i4_3], M)) rfl rfl rfl ?_
          refine ml_st (S' := (44, [(0, .ref m0), (1, .int x1), (2, .int i4_2)], [.int (i4_3 + 2)], M)) rfl rfl rfl ?_
          refine ml_st (S' := (45, [(3, .int (i4_3 + 2)), (0, .ref m0), (1, .int x1), (2, .int i4_2)], [], M)) rfl rfl rfl ?_
          refine ml_blk 3 (S' := (48, [(3, .int (i4_3 + 2)), (0, .ref m0), (1, .int x1), (2, .int i4_2)], [.int i4_2, .int x1, .ref m0], M)) rfl ?_
          refine ml_call (a := [.ref m0, .int x1, .int i4_2]) (rest := []) rfl (hR.okc rfl rfl rfl) rfl rfl (rm_fieldText hR hY (hs0) (hs1) (hb.1) (by omega) (by omega)) (fun v17 M18 h19 => ?_)
          obtain ⟨rfl, h19⟩ := h19
          rw [h19]
          show ml _ _ _ (51, [(3, .int (i4_3 + 2)), (0, .ref m0), (1, .int x1), (2, .int i4_2)], [.int (FTx (tx sa ch x1) (sL sl x1) i4_2)], M) _
          refine ml_st (S' := (52, [(2, .int (FTx (tx sa ch x1) (sL sl x1) i4_2)), (3, .int (i4_3 + 2)), (0, .ref m0), (1, .int x1)], [], M)) rfl rfl rfl ?_
          refine ml_st (S' := (4, [(0, .ref m0), (1, .int x1), (2, .int (FTx (tx sa ch x1) (sL sl x1) i4_2)), (3, .int (i4_3 + 2))], [], M)) rfl rfl rfl ?_
          exact ih_4 (FTx (tx sa ch x1) (sL sl x1) i4_2) (i4_3 + 2) (by have := (hi_4.next c_12).1; omega) ((hi_4.next c_12).2)
        · have c_28 : ¬ ((tx sa ch x1 i4_2) = 74) := of_decide_eq_false c_28
          refine ml_blk 2 (S' := (35, [(4, .int (tx sa ch x1 i4_2)), (0, .ref m0), (1, .int x1), (2, .int i4_2), (3, .int i4_3)], [.int 68, .int (tx sa ch x1 i4_2), .int i4_3], M)) rfl ?_
          refine ml_if2 (S1 := (42, [(4, .int (tx sa ch x1 i4_2)), (0, .ref m0), (1, .int x1), (2, .int i4_2), (3, .int i4_3)], [.int i4_3], M)) (S2 := (38, [(0, .ref m0), (1, .int x1), (2, .int i4_2)], [.int i4_3], M)) rfl rfl rfl (fun c_35 => ?_) (fun c_35 => ?_)
          · have c_35 : ¬ (tx sa ch x1 i4_2) = 68 := of_decide_eq_true c_35
            refine ml_st (S' := (43, [(0, .ref m0), (1, .int x1), (2, .int i4_2)], [.int 1, .int i4_3], M)) rfl rfl rfl ?_
            refine ml_st (S' := (44, [(0, .ref m0), (1, .int x1), (2, .int i4_2)], [.int (i4_3 + 1)], M)) rfl rfl rfl ?_
            refine ml_st (S' := (45, [(3, .int (i4_3 + 1)), (0, .ref m0), (1, .int x1), (2, .int i4_2)], [], M)) rfl rfl rfl ?_
            refine ml_blk 3 (S' := (48, [(3, .int (i4_3 + 1)), (0, .ref m0), (1, .int x1), (2, .int i4_2)], [.int i4_2, .int x1, .ref m0], M)) rfl ?_
            refine ml_call (a := [.ref m0, .int x1, .int i4_2]) (rest := []) rfl (hR.okc rfl rfl rfl) rfl rfl (rm_fieldText hR hY (hs0) (hs1) (hb.1) (by omega) (by omega)) (fun v20 M21 h22 => ?_)
            obtain ⟨rfl, h22⟩ := h22
            rw [h22]
            show ml _ _ _ (51, [(3, .int (i4_3 + 1)), (0, .ref m0), (1, .int x1), (2, .int i4_2)], [.int (FTx (tx sa ch x1) (sL sl x1) i4_2)], M) _
            refine ml_st (S' := (52, [(2, .int (FTx (tx sa ch x1) (sL sl x1) i4_2)), (3, .int (i4_3 + 1)), (0, .ref m0), (1, .int x1)], [], M)) rfl rfl rfl ?_
            refine ml_st (S' := (4, [(0, .ref m0), (1, .int x1), (2, .int (FTx (tx sa ch x1) (sL sl x1) i4_2)), (3, .int (i4_3 + 1))], [], M)) rfl rfl rfl ?_
            exact ih_4 (FTx (tx sa ch x1) (sL sl x1) i4_2) (i4_3 + 1) (by have := (hi_4.next c_12).1; omega) ((hi_4.next c_12).2)
          · have c_35 : ¬ (¬ (tx sa ch x1 i4_2) = 68) := of_decide_eq_false c_35
            refine ml_st (S' := (39, [(0, .ref m0), (1, .int x1), (2, .int i4_2)], [.int 2, .int i4_3], M)) rfl rfl rfl ?_
            refine ml_st (S' := (43, [(0, .ref m0), (1, .int x1), (2, .int i4_2)], [.int 2, .int i4_3], M)) rfl rfl rfl ?_
            refine ml_st (S' := (44, [(0, .ref m0), (1, .int x1), (2, .int i4_2)], [.int (i4_3 + 2)], M)) rfl rfl rfl ?_
            refine ml_st (S' := (45, [(3, .int (i4_3 + 2)), (0, .ref m0), (1, .int x1), (2, .int i4_2)], [], M)) rfl rfl rfl ?_
            refine ml_blk 3 (S' := (48, [(3, .int (i4_3 + 2)), (0, .ref m0), (1, .int x1), (2, .int i4_2)], [.int i4_2, .int x1, .ref m0], M)) rfl ?_
            refine ml_call (a := [.ref m0, .int x1, .int i4_2]) (rest := []) rfl (hR.okc rfl rfl rfl) rfl rfl (rm_fieldText hR hY (hs0) (hs1) (hb.1) (by omega) (by omega)) (fun v23 M24 h25 => ?_)
            obtain ⟨rfl, h25⟩ := h25
            rw [h25]
            show ml _ _ _ (51, [(3, .int (i4_3 + 2)), (0, .ref m0), (1, .int x1), (2, .int i4_2)], [.int (FTx (tx sa ch x1) (sL sl x1) i4_2)], M) _
            refine ml_st (S' := (52, [(2, .int (FTx (tx sa ch x1) (sL sl x1) i4_2)), (3, .int (i4_3 + 2)), (0, .ref m0), (1, .int x1)], [], M)) rfl rfl rfl ?_
            refine ml_st (S' := (4, [(0, .ref m0), (1, .int x1), (2, .int (FTx (tx sa ch x1) (sL sl x1) i4_2)), (3, .int (i4_3 + 2))], [], M)) rfl rfl rfl ?_
            exact ih_4 (FTx (tx sa ch x1) (sL sl x1) i4_2) (i4_3 + 2) (by have := (hi_4.next c_12).1; omega) ((hi_4.next c_12).2)
  exact L_4 _ 1 0 (Nat.le_refl _) (hag)
set_option maxHeartbeats 2000000 in
theorem rm_isMethod {g : xe_G}  {m0 : Nat} {q : Nat → Nat} {z : Nat × Nat} {I : rI} {R : rR} {M : mi_H} {x1 : Int32} {S cN : Nat} {sa sl ch : Nat → Int32}  (hR : RS g m0 q z I R M) (hY : SK S cN sa sl ch I R) (hs0 : 0 ≤ x1.toInt) (hs1 : x1.toInt < S) {d : Nat} (hd : 5 ≤ d) : mt (mT g) d 218 [.ref m0, .int x1] M (fun v M' => (∃ x : Int32, v = some (.int x) ∧ (x = 0 ∨ x = 1) ∧ (x = 0 ∨ MTX sa sl ch x1)) ∧ M' = M) := by
  obtain ⟨d, rfl⟩ : ∃ e, d = e + 1 := ⟨d - 1, by omega⟩
  refine mt_in (b := mb_218 g) rfl rfl ?_
  show ml (mT g) d (mb_218 g).2 (0, [(0, .ref m0), (1, .int x1)], [], M) _
  have hsl := hY.s hs0 hs1
  have hsl0 : 0 ≤ (sL sl x1).toInt := hsl.2.2.2.1
  have hsl1 : (sL sl x1).toInt ≤ 66000 := by have h1 := hsl.2.2.1; have h2 := hsl.2.2.2.2.1; have h3 := hsl.2.2.2.2.2.1; show (sl _).toInt ≤ 66000; omega
  refine ml_blk 2 (S' := (2, [(0, .ref m0), (1, .int x1)], [.int x1, .ref m0], M)) rfl ?_
  refine ml_call (a := [.ref m0, .int x1]) (rest := []) rfl (hR.okc rfl rfl rfl) rfl rfl (rm_length hR hY (hs0) (hs1) (by omega)) (fun v11 M12 h13 => ?_)
  obtain ⟨rfl, h13⟩ := h13
  rw [h13]
  show ml _ _ _ (5, [(0, .ref m0), (1, .int x1)], [.int (sL sl x1)], M) _
  refine ml_st (S' := (6, [(2, .int (sL sl x1)), (0, .ref m0), (1, .int x1)], [], M)) rfl rfl rfl ?_
  refine ml_st (S' := (7, [(2, .int (sL sl x1)), (0, .ref m0), (1, .int x1)], [.int (sL sl x1)], M)) rfl rfl rfl ?_
  refine ml_if (S1 := (21, [], [], M)) (S2 := (10, [(2, .int (sL sl x1)), (0, .ref m0), (1, .int x1)], [], M)) rfl rfl rfl (fun c_7 => ?_) (fun c_7 => ?_)
  · have c_7 : (sL sl x1) = 0 := of_decide_eq_true c_7
    refine ml_st (S' := (22, [], [.int 0], M)) rfl rfl rfl ?_
    exact ml_ret rfl (r_z (Or.inl rfl)) (⟨⟨_, rfl, Or.inl rfl, Or.inl rfl⟩, rfl⟩)
  · have c_7 : ¬ ((sL sl x1) = 0) := of_decide_eq_false c_7
    refine ml_blk 3 (S' := (13, [(2, .int (sL sl x1)), (0, .ref m0), (1, .int x1)], [.int 0, .int x1, .ref m0], M)) rfl ?_
    refine ml_call (a := [.ref m0, .int x1, .int 0]) (rest := []) rfl (hR.okc rfl rfl rfl) rfl rfl (rm_at hR hY (hs0) (hs1) (by decide) (by have h7 : (sL sl x1).toInt ≠ 0 := (fun e => c_7 (Int32.toInt_inj.mp e)); have : (0 : Int32).toInt = 0 := rfl; omega) (by omega)) (fun v14 M15 h16 => ?_)
    obtain ⟨rfl, h16⟩ := h16
    rw [h16]
    show ml _ _ _ (16, [(2, .int (sL sl x1)), (0, .ref m0), (1, .int x1)], [.int (tx sa ch x1 0)], M) _
    refine ml_st (S' := (18, [(2, .int (sL sl x1)), (0, .ref m0), (1, .int x1)], [.int 40, .int (tx sa ch x1 0)], M)) rfl rfl rfl ?_
    refine ml_if2 (S1 := (23, [(2, .int (sL sl x1)), (0, .ref m0), (1, .int x1)], [], M)) (S2 := (21, [], [], M)) rfl rfl rfl (fun c_18 => ?_) (fun c_18 => ?_)
    · have c_18 : (tx sa ch x1 0) = 40 := of_decide_eq_true c_18
      refine ml_st (S' := (24, [(2, .int (sL sl x1)), (0, .ref m0), (1, .int x1)], [.int 1], M)) rfl rfl rfl ?_
      refine ml_st (S' := (25, [(0, .ref m0), (1, .int x1), (2, .int (sL sl x1)), (3, .int 1)], [], M)) rfl rfl rfl ?_
      have L_25 : ∀ (n_25 : Nat) (i25_3 : Int32), (2147483648 - i25_3.toInt).toNat ≤ n_25 → (1 ≤ i25_3.toInt ∧ i25_3.toInt ≤ (sL sl x1).toInt ∧ ∃ m, itr (AG1 (tx sa ch x1) (sL sl x1)) m 1 i25_3) → ml (mT g) d (mb_218 g).2 (25, [(0, .ref m0), (1, .int x1), (2, .int (sL sl x1)), (3, .int i25_3)], [], M) (fun v M' => (∃ x : Int32, v = some (.int x) ∧ (x = 0 ∨ x = 1) ∧ (x = 0 ∨ MTX sa sl ch x1)) ∧ M' = M) := by
        intro n_25
        induction n_25 with
        | zero => intro i25_3 hn; exact (loop_zero hn).elim
        | succ n_25 ih_25 =>
          intro i25_3 hn_25 hi_25
          obtain ⟨hk1, hkn, m9, hit⟩ := hi_25
          refine ml_blk 2 (S' := (27, [(0, .ref m0), (1, .int x1), (2, .int (sL sl x1)), (3, .int i25_3)], [.int (sL sl x1), .int i25_3], M)) rfl ?_
          have J_54 : ((sL sl x1) ≤ i25_3 ∨ (tx sa ch x1) i25_3 = 41) → ml (mT g) d (mb_218 g).2 (54, [(0, .ref m0), (1, .int x1), (2, .int (sL sl x1)), (3, .int i25_3)], [], M) (fun v M' => (∃ x : Int32, v = some (.int x) ∧ (x = 0 ∨ x = 1) ∧ (x = 0 ∨ MTX sa sl ch x1)) ∧ M' = M) := by
            intro hj_54
            refine ml_blk 2 (S' := (56, [(0, .ref m0), (1, .int x1), (2, .int (sL sl x1)), (3, .int i25_3)], [.int (sL sl x1), .int i25_3], M)) rfl ?_
            refine ml_if2 (S1 := (61, [(0, .ref m0), (1, .int x1), (2, .int (sL sl x1)), (3, .int i25_3)], [], M)) (S2 := (59, [(0, .ref m0), (1, .int x1), (2, .int (sL sl x1)), (3, .int i25_3)], [], M)) rfl rfl rfl (fun c_56 => ?_) (fun c_56 => ?_)
            · have c_56 : i25_3 < (sL sl x1) := of_decide_eq_true c_56
              have hk54 := hj_54.resolve_left (Int32.not_le.mpr c_56)
              have hlt := i_lt c_56
              have hk2 : (i25_3 + 1).toInt = i25_3.toInt + 1 := inc_lt c_56
              have hagw : AGW (tx sa ch x1) (sL sl x1) 1 := ⟨m9, i25_3, hit, by omega, hlt, hk54⟩
              refine ml_st (S' := (64, [(3, .int (i25_3 + 1)), (0, .ref m0), (1, .int x1), (2, .int (sL sl x1))], [], M)) rfl rfl rfl ?_
              refine ml_blk 3 (S' := (67, [(3, .int (i25_3 + 1)), (0, .ref m0), (1, .int x1), (2, .int (sL sl x1))], [.int ((i25_3 + 1) + 1)], M)) rfl ?_
              refine ml_st (S' := (68, [(3, .int (i25_3 + 1)), (0, .ref m0), (1, .int x1), (2, .int (sL sl x1))], [.int (sL sl x1), .int ((i25_3 + 1) + 1)], M)) rfl rfl rfl ?_
              have J_94 : (3 ≤ (sL sl x1).toInt) → ml (mT g) d (mb_218 g).2 (94, [(0, .ref m0), (1, .int x1)], [], M) (fun v M' => (∃ x : Int32, v = some (.int x) ∧ (x = 0 ∨ x = 1) ∧ (x = 0 ∨ MTX sa sl ch x1)) ∧ M' = M) := by
                intro hj_94
                refine ml_blk 2 (S' := (96, [(0, .ref m0), (1, .int x1)], [.int x1, .ref m0], M)) rfl ?_
                refine ml_call (a := [.ref m0, .int x1]) (rest := []) rfl (hR.okc rfl rfl rfl) rfl rfl (rm_places0 hR hY (hs0) (hs1) (hagw) (by omega)) (fun v17 M18 h19 => ?_)
                obtain ⟨⟨u20, rfl⟩, h19⟩ := h19
                rw [h19]
                show ml _ _ _ (99, [(0, .ref m0), (1, .int x1)], [.int u20], M) _
                refine ml_st (S' := (102, [(0, .ref m0), (1, .int x1)], [.int 255, .int u20], M)) rfl rfl rfl ?_
                refine ml_if2 (S1 := (109, [(0, .ref m0), (1, .int x1)], [], M)) (S2 := (105, [(0, .ref m0), (1, .int x1)], [], M)) rfl rfl rfl (fun c_102 => ?_) (fun c_102 => ?_)
                · have c_102 : 255 < u20 := of_decide_eq_true c_102
                  refine ml_st (S' := (110, [], [.int 0], M)) rfl rfl rfl ?_
                  exact ml_ret rfl (r_z (Or.inl rfl)) (⟨⟨_, rfl, Or.inl rfl, Or.inl rfl⟩, rfl⟩)
                · have c_102 : ¬ (255 < u20) := of_decide_eq_false c_102
                  refine ml_st (S' := (106, [(0, .ref m0), (1, .int x1)], [.int 1], M)) rfl rfl rfl ?_
                  refine ml_st (S' := (110, [], [.int 1], M)) rfl rfl rfl ?_
                  exact ml_ret rfl (r_z (Or.inr rfl)) (⟨⟨_, rfl, Or.inr rfl, Or.inr ⟨hagw, hj_94⟩⟩, rfl⟩)
              refine ml_if2 (S1 := (82, [(0, .ref m0), (1, .int x1), (2, .int (sL sl x1)), (3, .int (i25_3 + 1))], [], M)) (S2 := (71, [(3, .int (i25_3 + 1)), (0, .ref m0), (1, .int x1), (2, .int (sL sl x1))], [], M)) rfl rfl rfl (fun c_68 => ?_) (fun c_68 => ?_)
              · have c_68 : ¬ ((i25_3 + 1) + 1) = (sL sl x1) := of_decide_eq_true c_68
                refine ml_blk 3 (S' := (85, [(0, .ref m0), (1, .int x1), (2, .int (sL sl x1)), (3, .int (i25_3 + 1))], [.int (i25_3 + 1), .int x1, .ref m0], M)) rfl ?_
                refine ml_call (a := [.ref m0, .int x1, .int (i25_3 + 1)]) (rest := []) rfl (hR.okc rfl rfl rfl) rfl rfl (rm_fieldText hR hY (hs0) (hs1) (by omega) (by omega) (by omega)) (fun v21 M22 h23 => ?_)
                obtain ⟨rfl, h23⟩ := h23
                rw [h23]
                show ml _ _ _ (88, [(0, .ref m0), (1, .int x1), (2, .int (sL sl x1)), (3, .int (i25_3 + 1))], [.int (FTx (tx sa ch x1) (sL sl x1) (i25_3 + 1))], M) _
                refine ml_st (S' := (89, [(0, .ref m0), (1, .int x1), (2, .int (sL sl x1)), (3, .int (i25_3 + 1))], [.int (sL sl x1), .int (FTx (tx sa ch x1) (sL sl x1) (i25_3 + 1))], M)) rfl rfl rfl ?_
                refine ml_if2 (S1 := (94, [(0, .ref m0), (1, .int x1)], [], M)) (S2 := (92, [(0, .ref m0), (1, .int x1), (2, .int (sL sl x1)), (3, .int (i25_3 + 1))], [], M)) rfl rfl rfl (fun c_89 => ?_) (fun c_89 => ?_)
                · have c_89 : (FTx (tx sa ch x1) (sL sl x1) (i25_3 + 1)) = (sL sl x1) := of_decide_eq_true c_89
                  exact J_94  ((by have q := FTx_b (c := (tx sa ch x1)) (n := (sL sl x1)) (a := i25_3 + 1) (by omega) (by omega) (by omega); have e : FTx (tx sa ch x1) (sL sl x1) (i25_3 + 1) = (sL sl x1) := c_89; rw [e] at q; rcases q with q | q; (rw [q] at hsl0; exact absurd hsl0 (by decide)); omega))
                · have c_89 : ¬ ((FTx (tx sa ch x1) (sL sl x1) (i25_3 + 1)) = (sL sl x1)) := of_decide_eq_false c_89
                  refine ml_st (S' := (93, [(0, .ref m0), (1, .int x1), (2, .int (sL sl x1)), (3, .int (i25_3 + 1))], [.int 0], M)) rfl rfl rfl ?_
                  exact ml_ret rfl (r_z (Or.inl rfl)) (⟨⟨_, rfl, Or.inl rfl, Or.inl rfl⟩, rfl⟩)
              · have c_68 : ¬ (¬ ((i25_3 + 1) + 1) = (sL sl x1)) := of_decide_eq_false c_68
                refine ml_blk 3 (S' := (74, [(3, .int (i25_3 + 1)), (0, .ref m0), (1, .int x1), (2, .int (sL sl x1))], [.int (i25_3 + 1), .int x1, .ref m0], M)) rfl ?_
                refine ml_call (a := [.ref m0, .int x1, .int (i25_3 + 1)]) (rest := []) rfl (hR.okc rfl rfl rfl) rfl rfl (rm_at hR hY (hs0) (hs1) (by omega) (by have e : (i25_3 + 1 + 1).toInt = (sL sl x1).toInt := congrArg Int32.toInt (Decidable.not_not.mp c_68); rw [i_add (by have : (1 : Int32).toInt = 1 := rfl; omega) (by have : (1 : Int32).toInt = 1 := rfl; omega), hk2] at e; have : (1 : Int32).toInt = 1 := rfl; omega) (by omega)) (fun v24 M25 h26 => ?_)
                obtain ⟨rfl, h26⟩ := h26
                rw [h26]
                show ml _ _ _ (77, [(3, .int (i25_3 + 1)), (0, .ref m0), (1, .int x1), (2, .int (sL sl x1))], [.int (tx sa ch x1 (i25_3 + 1))], M) _
                refine ml_st (S' := (79, [(3, .int (i25_3 + 1)), (0, .ref m0), (1, .int x1), (2, .int (sL sl x1))], [.int 86, .int (tx sa ch x1 (i25_3 + 1))], M)) rfl rfl rfl ?_
                refine ml_if2 (S1 := (94, [(0, .ref m0), (1, .int x1)], [], M)) (S2 := (82, [(0, .ref m0), (1, .int x1), (2, .int (sL sl x1)), (3, .int (i25_3 + 1))], [], M)) rfl rfl rfl (fun c_79 => ?_) (fun c_79 => ?_)
                · have c_79 : (tx sa ch x1 (i25_3 + 1)) = 86 := of_decide_eq_true c_79
                  exact J_94  ((by have e : (i25_3 + 1 + 1).toInt = (sL sl x1).toInt := congrArg Int32.toInt (Decidable.not_not.mp c_68); rw [i_add (by have : (1 : Int32).toInt = 1 := rfl; omega) (by have : (1 : Int32).toInt = 1 := rfl; omega), hk2] at e; have : (1 : Int32).toInt = 1 := rfl; omega))
                · have c_79 : ¬ ((tx sa ch x1 (i25_3 + 1)) = 86) := of_decide_eq_false c_79
                  refine ml_blk 3 (S' := (85, [(0, .ref m0), (1, .int x1), (2, .int (sL sl x1)), (3, .int (i25_3 + 1))], [.int (i25_3 + 1), .int x1, .ref m0], M)) rfl ?_
                  refine ml_call (a := [.ref m0, .int x1, .int (i25_3 + 1)]) (rest := []) rfl (hR.okc rfl rfl rfl) rfl rfl (rm_fieldText hR hY (hs0) (hs1) (by omega) (by omega) (by omega)) (fun v27 M28 h29 => ?_)
                  obtain ⟨rfl, h29⟩ := h29
                  rw [h29]
                  show ml _ _ _ (88, [(0, .ref m0), (1, .int x1), (2, .int (sL sl x1)), (3, .int (i25_3 + 1))], [.int (FTx (tx sa ch x1) (sL sl x1) (i25_3 + 1))], M) _
                  refine ml_st (S' := (89, [(0, .ref m0), (1, .int x1), (2, .int (sL sl x1)), (3, .int (i25_3 + 1))], [.int (sL sl x1), .int (FTx (tx sa ch x1) (sL sl x1) (i25_3 + 1))], M)) rfl rfl rfl ?_
                  refine ml_if2 (S1 := (94, [(0, .ref m0), (1, .int x1)], [], M)) (S2 := (92, [(0, .ref m0), (1, .int x1), (2, .int (sL sl x1)), (3, .int (i25_3 + 1))], [], M)) rfl rfl rfl (fun c_89 => ?_) (fun c_89 => ?_)
                  · have c_89 : (FTx (tx sa ch x1) (sL sl x1) (i25_3 + 1)) = (sL sl x1) := of_decide_eq_true c_89
                    exact J_94  ((by have q := FTx_b (c := (tx sa ch x1)) (n := (sL sl x1)) (a := i25_3 + 1) (by omega) (by omega) (by omega); have e : FTx (tx sa ch x1) (sL sl x1) (i25_3 + 1) = (sL sl x1) := c_89; rw [e] at q; rcases q with q | q; (rw [q] at hsl0; exact absurd hsl0 (by decide)); omega))
                  · have c_89 : ¬ ((FTx (tx sa ch x1) (sL sl x1) (i25_3 + 1)) = (sL sl x1)) := of_decide_eq_false c_89
                    refine ml_st (S' := (93, [(0, .ref m0), (1, .int x1), (2, .int (sL sl x1)), (3, .int (i25_3 + 1))], [.int 0], M)) rfl rfl rfl ?_
                    exact ml_ret rfl (r_z (Or.inl rfl)) (⟨⟨_, rfl, Or.inl rfl, Or.inl rfl⟩, rfl⟩)
            · have c_56 : ¬ (i25_3 < (sL sl x1)) := of_decide_eq_false c_56
              refine ml_st (S' := (60, [(0, .ref m0), (1, .int x1), (2, .int (sL sl x1)), (3, .int i25_3)], [.int 0], M)) rfl rfl rfl ?_
              exact ml_ret rfl (r_z (Or.inl rfl)) (⟨⟨_, rfl, Or.inl rfl, Or.inl rfl⟩, rfl⟩)
          refine ml_if2 (S1 := (54, [(0, .ref m0), (1, .int x1), (2, .int (sL sl x1)), (3, .int i25_3)], [], M)) (S2 := (30, [(0, .ref m0), (1, .int x1), (2, .int (sL sl x1)), (3, .int i25_3)], [], M)) rfl rfl rfl (fun c_27 => ?_) (fun c_27 => ?_)
          · have c_27 : (sL sl x1) ≤ i25_3 := of_decide_eq_true c_27
            exact J_54  (Or.inl c_27)
          · have c_27 : ¬ ((sL sl x1) ≤ i25_3) := of_decide_eq_false c_27
            refine ml_blk 3 (S' := (33, [(0, .ref m0), (1, .int x1), (2, .int (sL sl x1)), (3, .int i25_3)], [.int i25_3, .int x1, .ref m0], M)) rfl ?_
            refine ml_call (a := [.ref m0, .int x1, .int i25_3]) (rest := []) rfl (hR.okc rfl rfl rfl) rfl rfl (rm_at hR hY (hs0) (hs1) (by omega) (i_nle c_27) (by omega)) (fun v30 M31 h32 => ?_)
            obtain ⟨rfl, h32⟩ := h32
            rw [h32]
            show ml _ _ _ (36, [(0, .ref m0), (1, .int x1), (2, .int (sL sl x1)), (3, .int i25_3)], [.int (tx sa ch x1 i25_3)], M) _
            refine ml_st (S' := (38, [(0, .ref m0), (1, .int x1), (2, .int (sL sl x1)), (3, .int i25_3)], [.int 41, .int (tx sa ch x1 i25_3)], M)) rfl rfl rfl ?_
            refine ml_if2 (S1 := (54, [(0, .ref m0), (1, .int x1), (2, .int (sL sl x1)), (3, .int i25_3)], [], M)) (S2 := (41, [(0, .ref m0), (1, .int x1), (2, .int (sL sl x1)), (3, .int i25_3)], [], M)) rfl rfl rfl (fun c_38 => ?_) (fun c_38 => ?_)
            · have c_38 : (tx sa ch x1 i25_3) = 41 := of_decide_eq_true c_38
              exact J_54  (Or.inr c_38)
            · have c_38 : ¬ ((tx sa ch x1 i25_3) = 41) := of_decide_eq_false c_38
              refine ml_blk 3 (S' := (44, [(0, .ref m0), (1, .int x1), (2, .int (sL sl x1)), (3, .int i25_3)], [.int i25_3, .int x1, .ref m0], M)) rfl ?_
              refine ml_call (a := [.ref m0, .int x1, .int i25_3]) (rest := []) rfl (hR.okc rfl rfl rfl) rfl rfl (rm_fieldText hR hY (hs0) (hs1) (by omega) (hkn) (by omega)) (fun v33 M34 h35 => ?_)
              obtain ⟨rfl, h35⟩ := h35
              rw [h35]
              show ml _ _ _ (47, [(0, .ref m0), (1, .int x1), (2, .int (sL sl x1)), (3, .int i25_3)], [.int (FTx (tx sa ch x1) (sL sl x1) i25_3)], M) _
              refine ml_st (S' := (48, [(3, .int (FTx (tx sa ch x1) (sL sl x1) i25_3)), (0, .ref m0), (1, .int x1), (2, .int (sL sl x1))], [], M)) rfl rfl rfl ?_
              refine ml_st (S' := (49, [(3, .int (FTx (tx sa ch x1) (sL sl x1) i25_3)), (0, .ref m0), (1, .int x1), (2, .int (sL sl x1))], [.int (FTx (tx sa ch x1) (sL sl x1) i25_3)], M)) rfl rfl rfl ?_
              refine ml_if (S1 := (25, [(0, .ref m0), (1, .int x1), (2, .int (sL sl x1)), (3, .int (FTx (tx sa ch x1) (sL sl x1) i25_3))], [], M)) (S2 := (52, [(3, .int (FTx (tx sa ch x1) (sL sl x1) i25_3)), (0, .ref m0), (1, .int x1), (2, .int (sL sl x1))], [], M)) rfl rfl rfl (fun c_49 => ?_) (fun c_49 => ?_)
              · have c_49 : 0 ≤ (FTx (tx sa ch x1) (sL sl x1) i25_3) := of_decide_eq_true c_49
                have hft := (FTx_b (c := (tx sa ch x1)) (n := (sL sl x1)) (a := i25_3) (by omega) hkn (by omega)).resolve_left (fun e => absurd (e ▸ c_49 : (0 : Int32) ≤ -1) (by decide))
                exact ih_25 (FTx (tx sa ch x1) (sL sl x1) i25_3) (by have := hft.1; omega) (⟨by omega, hft.2, m9 + 1, i25_3, hit, by omega, i_nle c_27, c_38, rfl, hft.1, hft.2⟩)
              · have c_49 : ¬ (0 ≤ (FTx (tx sa ch x1) (sL sl x1) i25_3)) := of_decide_eq_false c_49
                refine ml_st (S' := (53, [(3, .int (FTx (tx sa ch x1) (sL sl x1) i25_3)), (0, .ref m0), (1, .int x1), (2, .int (sL sl x1))], [.int 0], M)) rfl rfl rfl ?_
                exact ml_ret rfl (r_z (Or.inl rfl)) (⟨⟨_, rfl, Or.inl rfl, Or.inl rfl⟩, rfl⟩)
      exact L_25 _ 1 (Nat.le_refl _) (⟨by decide, by have h7 : (sL sl x1).toInt ≠ 0 := (fun e => c_7 (Int32.toInt_inj.mp e)); show (1 : Int) ≤ _; omega, 0, rfl⟩)
    · have c_18 : ¬ ((tx sa ch x1 0) = 40) := of_decide_eq_false c_18
      refine ml_st (S' := (22, [], [.int 0], M)) rfl rfl rfl ?_
      exact ml_ret rfl (r_z (Or.inl rfl)) (⟨⟨_, rfl, Or.inl rfl, Or.inl rfl⟩, rfl⟩)
set_option maxHeartbeats 2000000 in
theorem rm_endsV {g : xe_G}  {m0 : Nat} {q : Nat → Nat} {z : Nat × Nat} {I : rI} {R : rR} {M : mi_H} {x1 : Int32} {S cN : Nat} {sa sl ch : Nat → Int32}  (hR : RS g m0 q z I R M) (hY : SK S cN sa sl ch I R) (hs0 : 0 ≤ x1.toInt) (hs1 : x1.toInt < S) (h2 : 2 ≤ (sL sl x1).toInt) {d : Nat} (hd : 2 ≤ d) : mt (mT g) d 203 [.ref m0, .int x1] M (fun v M' => (∃ x : Int32, v = some (.int x) ∧ (x = 0 ∨ x = 1)) ∧ M' = M) := by
  obtain ⟨d, rfl⟩ : ∃ e, d = e + 1 := ⟨d - 1, by omega⟩
  refine mt_in (b := mb_203 g) rfl rfl ?_
  show ml (mT g) d (mb_203 g).2 (0, [(0, .ref m0), (1, .int x1)], [], M) _
  have hsl := hY.s hs0 hs1
  have hsl0 : 0 ≤ (sL sl x1).toInt := hsl.2.2.2.1
  have hsl1 : (sL sl x1).toInt ≤ 66000 := by have h1 := hsl.2.2.1; have h2 := hsl.2.2.2.2.1; have h3 := hsl.2.2.2.2.2.1; show (sl _).toInt ≤ 66000; omega
  have v1 : ((sL sl x1) - 1).toInt = (sL sl x1).toInt - 1 := i_sub (by have : (1 : Int32).toInt = 1 := rfl; omega) (by have : (1 : Int32).toInt = 1 := rfl; omega)
  have v2 : ((sL sl x1) - 2).toInt = (sL sl x1).toInt - 2 := i_sub (by have : (2 : Int32).toInt = 2 := rfl; omega) (by have : (2 : Int32).toInt = 2 := rfl; omega)
  refine ml_blk 3 (S' := (3, [(0, .ref m0), (1, .int x1)], [.ref m0, .int x1, .ref m0], M)) rfl ?_
  refine ml_st (S' := (4, [(0, .ref m0), (1, .int x1)], [.int x1, .ref m0, .int x1, .ref m0], M)) rfl rfl rfl ?_
  refine ml_call (a := [.ref m0, .int x1]) (rest := [.int x1, .ref m0]) rfl (hR.okc rfl rfl rfl) rfl rfl (rm_length hR hY (hs0) (hs1) (by omega)) (fun v11 M12 h13 => ?_)
  obtain ⟨rfl, h13⟩ := h13
  rw [h13]
  show ml _ _ _ (7, [(0, .ref m0), (1, .int x1)], [.int (sL sl x1), .int x1, .ref m0], M) _
  refine ml_blk 2 (S' := (9, [(0, .ref m0), (1, .int x1)], [.int ((sL sl x1) - 1), .int x1, .ref m0], M)) rfl ?_
  refine ml_call (a := [.ref m0, .int x1, .int ((sL sl x1) - 1)]) (rest := []) rfl (hR.okc rfl rfl rfl) rfl rfl (rm_at hR hY (hs0) (hs1) (by omega) (by omega) (by omega)) (fun v14 M15 h16 => ?_)
  obtain ⟨rfl, h16⟩ := h16
  rw [h16]
  show ml _ _ _ (12, [(0, .ref m0), (1, .int x1)], [.int (tx sa ch x1 ((sL sl x1) - 1))], M) _
  refine ml_st (S' := (14, [(0, .ref m0), (1, .int x1)], [.int 86, .int (tx sa ch x1 ((sL sl x1) - 1))], M)) rfl rfl rfl ?_
  refine ml_if2 (S1 := (38, [], [], M)) (S2 := (17, [(0, .ref m0), (1, .int x1)], [], M)) rfl rfl rfl (fun c_14 => ?_) (fun c_14 => ?_)
  · have c_14 : ¬ (tx sa ch x1 ((sL sl x1) - 1)) = 86 := of_decide_eq_true c_14
    refine ml_st (S' := (39, [], [.int 0], M)) rfl rfl rfl ?_
    exact ml_ret rfl (r_z (Or.inl rfl)) (⟨⟨_, rfl, Or.inl rfl⟩, rfl⟩)
  · have c_14 : ¬ (¬ (tx sa ch x1 ((sL sl x1) - 1)) = 86) := of_decide_eq_false c_14
    refine ml_blk 3 (S' := (20, [(0, .ref m0), (1, .int x1)], [.ref m0, .int x1, .ref m0], M)) rfl ?_
    refine ml_st (S' := (21, [(0, .ref m0), (1, .int x1)], [.int x1, .ref m0, .int x1, .ref m0], M)) rfl rfl rfl ?_
    refine ml_call (a := [.ref m0, .int x1]) (rest := [.int x1, .ref m0]) rfl (hR.okc rfl rfl rfl) rfl rfl (rm_length hR hY (hs0) (hs1) (by omega)) (fun v17 M18 h19 => ?_)
    obtain ⟨rfl, h19⟩ := h19
    rw [h19]
    show ml _ _ _ (24, [(0, .ref m0), (1, .int x1)], [.int (sL sl x1), .int x1, .ref m0], M) _
    refine ml_blk 2 (S' := (26, [(0, .ref m0), (1, .int x1)], [.int ((sL sl x1) - 2), .int x1, .ref m0], M)) rfl ?_
    refine ml_call (a := [.ref m0, .int x1, .int ((sL sl x1) - 2)]) (rest := []) rfl (hR.okc rfl rfl rfl) rfl rfl (rm_at hR hY (hs0) (hs1) (by omega) (by omega) (by omega)) (fun v20 M21 h22 => ?_)
    obtain ⟨rfl, h22⟩ := h22
    rw [h22]
    show ml _ _ _ (29, [(0, .ref m0), (1, .int x1)], [.int (tx sa ch x1 ((sL sl x1) - 2))], M) _
    refine ml_st (S' := (31, [(0, .ref m0), (1, .int x1)], [.int 41, .int (tx sa ch x1 ((sL sl x1) - 2))], M)) rfl rfl rfl ?_
    refine ml_if2 (S1 := (38, [], [], M)) (S2 := (34, [(0, .ref m0), (1, .int x1)], [], M)) rfl rfl rfl (fun c_31 => ?_) (fun c_31 => ?_)
    · have c_31 : ¬ (tx sa ch x1 ((sL sl x1) - 2)) = 41 := of_decide_eq_true c_31
      refine ml_st (S' := (39, [], [.int 0], M)) rfl rfl rfl ?_
      exact ml_ret rfl (r_z (Or.inl rfl)) (⟨⟨_, rfl, Or.inl rfl⟩, rfl⟩)
    · have c_31 : ¬ (¬ (tx sa ch x1 ((sL sl x1) - 2)) = 41) := of_decide_eq_false c_31
      refine ml_st (S' := (35, [(0, .ref m0), (1, .int x1)], [.int 1], M)) rfl rfl rfl ?_
      refine ml_st (S' := (39, [], [.int 1], M)) rfl rfl rfl ?_
      exact ml_ret rfl (r_z (Or.inr rfl)) (⟨⟨_, rfl, Or.inr rfl⟩, rfl⟩)
theorem ct_pos {c : Int32 → Int32} {N : Int32} (h : 0 ≤ N.toInt) : ntv c 0 N = 0 ∨ 0 < N.toInt := by
  by_cases e : N.toInt = 0
  · left
    have : N = 0 := Int32.toInt_inj.mp e
    rw [this]
    exact ntv_0
  · right
    omega

set_option maxHeartbeats 2000000 in
theorem rm_classText {g : xe_G}  {m0 : Nat} {q : Nat → Nat} {z : Nat × Nat} {I : rI} {R : rR} {M : mi_H} {x1 : Int32} {S cN : Nat} {sa sl ch : Nat → Int32}  (hR : RS g m0 q z I R M) (hY : SK S cN sa sl ch I R) (hs0 : 0 ≤ x1.toInt) (hs1 : x1.toInt < S) {d : Nat} (hd : 4 ≤ d) : mt (mT g) d 194 [.ref m0, .int x1] M (fun v M' => (∃ x : Int32, v = some (.int x) ∧ (x = 0 ∨ x = 1) ∧ (x = 0 ∨ 0 < (sL sl x1).toInt)) ∧ M' = M) := by
  obtain ⟨d, rfl⟩ : ∃ e, d = e + 1 := ⟨d - 1, by omega⟩
  refine mt_in (b := mb_194 g) rfl rfl ?_
  show ml (mT g) d (mb_194 g).2 (0, [(0, .ref m0), (1, .int x1)], [], M) _
  have hsl := hY.s hs0 hs1
  have hsl0 : 0 ≤ (sL sl x1).toInt := hsl.2.2.2.1
  have hsl1 : (sL sl x1).toInt ≤ 66000 := by have h1 := hsl.2.2.1; have h2 := hsl.2.2.2.2.1; have h3 := hsl.2.2.2.2.2.1; show (sl _).toInt ≤ 66000; omega
  refine ml_blk 2 (S' := (2, [(0, .ref m0), (1, .int x1)], [.int x1, .ref m0], M)) rfl ?_
  refine ml_call (a := [.ref m0, .int x1]) (rest := []) rfl (hR.okc rfl rfl rfl) rfl rfl (rm_length hR hY (hs0) (hs1) (by omega)) (fun v11 M12 h13 => ?_)
  obtain ⟨rfl, h13⟩ := h13
  rw [h13]
  show ml _ _ _ (5, [(0, .ref m0), (1, .int x1)], [.int (sL sl x1)], M) _
  refine ml_if (S1 := (41, [(0, .ref m0), (1, .int x1)], [], M)) (S2 := (8, [(0, .ref m0), (1, .int x1)], [], M)) rfl rfl rfl (fun c_5 => ?_) (fun c_5 => ?_)
  · have c_5 : (sL sl x1) ≤ 0 := of_decide_eq_true c_5
    refine ml_blk 3 (S' := (44, [(0, .ref m0), (1, .int x1)], [.int 0, .int x1, .ref m0], M)) rfl ?_
    refine ml_blk 2 (S' := (46, [(0, .ref m0), (1, .int x1)], [.int x1, .ref m0, .int 0, .int x1, .ref m0], M)) rfl ?_
    refine ml_call (a := [.ref m0, .int x1]) (rest := [.int 0, .int x1, .ref m0]) rfl (hR.okc rfl rfl rfl) rfl rfl (rm_length hR hY (hs0) (hs1) (by omega)) (fun v14 M15 h16 => ?_)
    obtain ⟨rfl, h16⟩ := h16
    rw [h16]
    show ml _ _ _ (49, [(0, .ref m0), (1, .int x1)], [.int (sL sl x1), .int 0, .int x1, .ref m0], M) _
    refine ml_call (a := [.ref m0, .int x1, .int 0, .int (sL sl x1)]) (rest := []) rfl (hR.okc rfl rfl rfl) rfl rfl (rm_nameText hR hY (hs0) (hs1) (by decide) (by have : (0 : Int32).toInt = 0 := rfl; omega) (Int.le_refl _) (by omega)) (fun v17 M18 h19 => ?_)
    obtain ⟨rfl, h19⟩ := h19
    rw [h19]
    show ml _ _ _ (52, [], [.int (ntv (tx sa ch x1) 0 (sL sl x1))], M) _
    exact ml_ret rfl (r_z (ntx_01)) (⟨⟨_, rfl, ntx_01, ct_pos hsl0⟩, rfl⟩)
  · have c_5 : ¬ ((sL sl x1) ≤ 0) := of_decide_eq_false c_5
    refine ml_blk 3 (S' := (11, [(0, .ref m0), (1, .int x1)], [.int 0, .int x1, .ref m0], M)) rfl ?_
    refine ml_call (a := [.ref m0, .int x1, .int 0]) (rest := []) rfl (hR.okc rfl rfl rfl) rfl rfl (rm_at hR hY (hs0) (hs1) (by decide) (by have q := i_nle c_5; exact q) (by omega)) (fun v20 M21 h22 => ?_)
    obtain ⟨rfl, h22⟩ := h22
    rw [h22]
    show ml _ _ _ (14, [(0, .ref m0), (1, .int x1)], [.int (tx sa ch x1 0)], M) _
    refine ml_st (S' := (16, [(0, .ref m0), (1, .int x1)], [.int 91, .int (tx sa ch x1 0)], M)) rfl rfl rfl ?_
    refine ml_if2 (S1 := (41, [(0, .ref m0), (1, .int x1)], [], M)) (S2 := (19, [(0, .ref m0), (1, .int x1)], [], M)) rfl rfl rfl (fun c_16 => ?_) (fun c_16 => ?_)
    · have c_16 : ¬ (tx sa ch x1 0) = 91 := of_decide_eq_true c_16
      refine ml_blk 3 (S' := (44, [(0, .ref m0), (1, .int x1)], [.int 0, .int x1, .ref m0], M)) rfl ?_
      refine ml_blk 2 (S' := (46, [(0, .ref m0), (1, .int x1)], [.int x1, .ref m0, .int 0, .int x1, .ref m0], M)) rfl ?_
      refine ml_call (a := [.ref m0, .int x1]) (rest := [.int 0, .int x1, .ref m0]) rfl (hR.okc rfl rfl rfl) rfl rfl (rm_length hR hY (hs0) (hs1) (by omega)) (fun v23 M24 h25 => ?_)
      obtain ⟨rfl, h25⟩ := h25
      rw [h25]
      show ml _ _ _ (49, [(0, .ref m0), (1, .int x1)], [.int (sL sl x1), .int 0, .int x1, .ref m0], M) _
      refine ml_call (a := [.ref m0, .int x1, .int 0, .int (sL sl x1)]) (rest := []) rfl (hR.okc rfl rfl rfl) rfl rfl (rm_nameText hR hY (hs0) (hs1) (by decide) (by have : (0 : Int32).toInt = 0 := rfl; omega) (Int.le_refl _) (by omega)) (fun v26 M27 h28 => ?_)
      obtain ⟨rfl, h28⟩ := h28
      rw [h28]
      show ml _ _ _ (52, [], [.int (ntv (tx sa ch x1) 0 (sL sl x1))], M) _
      exact ml_ret rfl (r_z (ntx_01)) (⟨⟨_, rfl, ntx_01, ct_pos hsl0⟩, rfl⟩)
    · have c_16 : ¬ (¬ (tx sa ch x1 0) = 91) := of_decide_eq_false c_16
      refine ml_blk 3 (S' := (22, [(0, .ref m0), (1, .int x1)], [.int 0, .int x1, .ref m0], M)) rfl ?_
      refine ml_call (a := [.ref m0, .int x1, .int 0]) (rest := []) rfl (hR.okc rfl rfl rfl) rfl rfl (rm_fieldText hR hY (hs0) (hs1) (by decide) (by have : (0 : Int32).toInt = 0 := rfl; omega) (by omega)) (fun v29 M30 h31 => ?_)
      obtain ⟨rfl, h31⟩ := h31
      rw [h31]
      show ml _ _ _ (25, [(0, .ref m0), (1, .int x1)], [.int (FTx (tx sa ch x1) (sL sl x1) 0)], M) _
      refine ml_blk 2 (S' := (27, [(0, .ref m0), (1, .int x1)], [.int x1, .ref m0, .int (FTx (tx sa ch x1) (sL sl x1) 0)], M)) rfl ?_
      refine ml_call (a := [.ref m0, .int x1]) (rest := [.int (FTx (tx sa ch x1) (sL sl x1) 0)]) rfl (hR.okc rfl rfl rfl) rfl rfl (rm_length hR hY (hs0) (hs1) (by omega)) (fun v32 M33 h34 => ?_)
      obtain ⟨rfl, h34⟩ := h34
      rw [h34]
      show ml _ _ _ (30, [(0, .ref m0), (1, .int x1)], [.int (sL sl x1), .int (FTx (tx sa ch x1) (sL sl x1) 0)], M) _
      refine ml_if2 (S1 := (37, [(0, .ref m0), (1, .int x1)], [], M)) (S2 := (33, [(0, .ref m0), (1, .int x1)], [], M)) rfl rfl rfl (fun c_30 => ?_) (fun c_30 => ?_)
      · have c_30 : ¬ (FTx (tx sa ch x1) (sL sl x1) 0) = (sL sl x1) := of_decide_eq_true c_30
        refine ml_st (S' := (38, [(0, .ref m0), (1, .int x1)], [.int 0], M)) rfl rfl rfl ?_
        refine ml_st (S' := (52, [], [.int 0], M)) rfl rfl rfl ?_
        exact ml_ret rfl (r_z (Or.inl rfl)) (⟨⟨_, rfl, Or.inl rfl, Or.inl rfl⟩, rfl⟩)
      · have c_30 : ¬ (¬ (FTx (tx sa ch x1) (sL sl x1) 0) = (sL sl x1)) := of_decide_eq_false c_30
        refine ml_st (S' := (34, [(0, .ref m0), (1, .int x1)], [.int 1], M)) rfl rfl rfl ?_
        refine ml_st (S' := (52, [], [.int 1], M)) rfl rfl rfl ?_
        exact ml_ret rfl (r_z (Or.inr rfl)) (⟨⟨_, rfl, Or.inr rfl, Or.inr (by have q := i_nle c_5; have : (0 : Int32).toInt = 0 := rfl; omega)⟩, rfl⟩)
set_option maxHeartbeats 2000000 in
theorem rm_wide {g : xe_G}  {m0 : Nat} {q : Nat → Nat} {z : Nat × Nat} {I : rI} {R : rR} {M : mi_H} {x1 x2 : Int32} {S cN : Nat} {sa sl ch : Nat → Int32}  (hR : RS g m0 q z I R M) (hY : SK S cN sa sl ch I R) (hs0 : 0 ≤ x1.toInt) (hs1 : x1.toInt < S) (hk0 : 0 ≤ x2.toInt) (hk1 : x2.toInt < (sL sl x1).toInt) {d : Nat} (hd : 2 ≤ d) : mt (mT g) d 256 [.ref m0, .int x1, .int x2] M (fun v M' => (∃ x : Int32, v = some (.int x) ∧ (x = 0 ∨ x = 1)) ∧ M' = M) := by
  obtain ⟨d, rfl⟩ : ∃ e, d = e + 1 := ⟨d - 1, by omega⟩
  refine mt_in (b := mb_256 g) rfl rfl ?_
  show ml (mT g) d (mb_256 g).2 (0, [(0, .ref m0), (1, .int x1), (2, .int x2)], [], M) _
  refine ml_blk 3 (S' := (3, [(0, .ref m0), (1, .int x1), (2, .int x2)], [.int x2, .int x1, .ref m0], M)) rfl ?_
  refine ml_call (a := [.ref m0, .int x1, .int x2]) (rest := []) rfl (hR.okc rfl rfl rfl) rfl rfl (rm_at hR hY (hs0) (hs1) (hk0) (hk1) (by omega)) (fun v11 M12 h13 => ?_)
  obtain ⟨rfl, h13⟩ := h13
  rw [h13]
  show ml _ _ _ (6, [(0, .ref m0), (1, .int x1), (2, .int x2)], [.int (tx sa ch x1 x2)], M) _
  refine ml_st (S' := (8, [(0, .ref m0), (1, .int x1), (2, .int x2)], [.int 74, .int (tx sa ch x1 x2)], M)) rfl rfl rfl ?_
  refine ml_if2 (S1 := (22, [], [], M)) (S2 := (11, [(0, .ref m0), (1, .int x1), (2, .int x2)], [], M)) rfl rfl rfl (fun c_8 => ?_) (fun c_8 => ?_)
  · have c_8 : (tx sa ch x1 x2) = 74 := of_decide_eq_true c_8
    refine ml_st (S' := (23, [], [.int 1], M)) rfl rfl rfl ?_
    refine ml_st (S' := (27, [], [.int 1], M)) rfl rfl rfl ?_
    exact ml_ret rfl (r_z (Or.inr rfl)) (⟨⟨_, rfl, Or.inr rfl⟩, rfl⟩)
  · have c_8 : ¬ ((tx sa ch x1 x2) = 74) := of_decide_eq_false c_8
    refine ml_blk 3 (S' := (14, [(0, .ref m0), (1, .int x1), (2, .int x2)], [.int x2, .int x1, .ref m0], M)) rfl ?_
    refine ml_call (a := [.ref m0, .int x1, .int x2]) (rest := []) rfl (hR.okc rfl rfl rfl) rfl rfl (rm_at hR hY (hs0) (hs1) (hk0) (hk1) (by omega)) (fun v14 M15 h16 => ?_)
    obtain ⟨rfl, h16⟩ := h16
    rw [h16]
    show ml _ _ _ (17, [(0, .ref m0), (1, .int x1), (2, .int x2)], [.int (tx sa ch x1 x2)], M) _
    refine ml_st (S' := (19, [(0, .ref m0), (1, .int x1), (2, .int x2)], [.int 68, .int (tx sa ch x1 x2)], M)) rfl rfl rfl ?_
    refine ml_if2 (S1 := (26, [(0, .ref m0), (1, .int x1), (2, .int x2)], [], M)) (S2 := (22, [], [], M)) rfl rfl rfl (fun c_19 => ?_) (fun c_19 => ?_)
    · have c_19 : ¬ (tx sa ch x1 x2) = 68 := of_decide_eq_true c_19
      refine ml_st (S' := (27, [], [.int 0], M)) rfl rfl rfl ?_
      exact ml_ret rfl (r_z (Or.inl rfl)) (⟨⟨_, rfl, Or.inl rfl⟩, rfl⟩)
    · have c_19 : ¬ (¬ (tx sa ch x1 x2) = 68) := of_decide_eq_false c_19
      refine ml_st (S' := (23, [], [.int 1], M)) rfl rfl rfl ?_
      refine ml_st (S' := (27, [], [.int 1], M)) rfl rfl rfl ?_
      exact ml_ret rfl (r_z (Or.inr rfl)) (⟨⟨_, rfl, Or.inr rfl⟩, rfl⟩)
set_option maxHeartbeats 2000000 in
theorem rm_indexes0 {g : xe_G}  {m0 : Nat} {q : Nat → Nat} {z : Nat × Nat} {I : rI} {R : rR} {M : mi_H} {x1 x2 x3 : Int32} {n : Nat} {f : Nat → Int32} {S : Nat} {cp mj : Int32} {pa py : Nat → Int32}  (hR : RS g m0 q z I R M) (hF : FK n f I R) (hP : PK n f S cp mj pa py I R) (ht : tgf f cp pa x1 = x2) (hl : x2 = 7 ∨ x2 = 12) {d : Nat} (hd : 4 ≤ d) : mt (mT g) d 214 [.ref m0, .int x1, .int x2, .int x3] M (fun v M' => (∃ x : Int32, v = some (.int x) ∧ (x = 0 ∨ x = 1) ∧ (x = 0 ∨ IXP f cp pa x1 x2)) ∧ M' = M) := by
  obtain ⟨d, rfl⟩ : ∃ e, d = e + 1 := ⟨d - 1, by omega⟩
  refine mt_in (b := mb_214 g) rfl rfl ?_
  show ml (mT g) d (mb_214 g).2 (0, [(0, .ref m0), (1, .int x1), (2, .int x2), (3, .int x3)], [], M) _
  refine ml_blk 2 (S' := (3, [(0, .ref m0), (1, .int x1), (2, .int x2), (3, .int x3)], [.int 7, .int x2], M)) rfl ?_
  have J_30 : t7 x2 → ml (mT g) d (mb_214 g).2 (30, [(0, .ref m0), (1, .int x1)], [], M) (fun v M' => (∃ x : Int32, v = some (.int x) ∧ (x = 0 ∨ x = 1) ∧ (x = 0 ∨ IXP f cp pa x1 x2)) ∧ M' = M) := by
    intro hj_30
    refine ml_blk 3 (S' := (33, [(0, .ref m0), (1, .int x1)], [.int x1, .ref m0, .ref m0], M)) rfl ?_
    refine ml_st (S' := (34, [(0, .ref m0), (1, .int x1)], [.int 1, .int x1, .ref m0, .ref m0], M)) rfl rfl rfl ?_
    refine ml_call (a := [.ref m0, .int x1, .int 1]) (rest := [.ref m0]) rfl (hR.okc rfl rfl rfl) rfl rfl (rm_index hR hF hP ((hP.tg ht (t7_ne hj_30)).1) ((hP.tg ht (t7_ne hj_30)).2.1) ((hP.tg ht (t7_ne hj_30)).2.2.1) (by decide) (by have q := (hP.tg ht (t7_ne hj_30)).2.2.2.2; rw [show esz _ = 3 from esz_7 hj_30] at q; have : (1 : Int32).toInt = 1 := rfl; omega) (by omega)) (fun v11 M12 h13 => ?_)
    obtain ⟨rfl, h13⟩ := h13
    rw [h13]
    show ml _ _ _ (37, [(0, .ref m0), (1, .int x1)], [.int (ixf f pa x1 1), .ref m0], M) _
    refine ml_call (a := [.ref m0, .int (ixf f pa x1 1)]) (rest := []) rfl (hR.okc rfl rfl rfl) rfl rfl (rm_tag hR hF hP (by omega)) (fun v14 M15 h16 => ?_)
    obtain ⟨rfl, h16⟩ := h16
    rw [h16]
    show ml _ _ _ (40, [(0, .ref m0), (1, .int x1)], [.int (tgf f cp pa (ixf f pa x1 1))], M) _
    refine ml_st (S' := (41, [(0, .ref m0), (1, .int x1)], [.int 1, .int (tgf f cp pa (ixf f pa x1 1))], M)) rfl rfl rfl ?_
    refine ml_if2 (S1 := (48, [(0, .ref m0), (1, .int x1)], [], M)) (S2 := (44, [(0, .ref m0), (1, .int x1)], [], M)) rfl rfl rfl (fun c_41 => ?_) (fun c_41 => ?_)
    · have c_41 : ¬ (tgf f cp pa (ixf f pa x1 1)) = 1 := of_decide_eq_true c_41
      refine ml_st (S' := (49, [], [.int 0], M)) rfl rfl rfl ?_
      exact ml_ret rfl (r_z (Or.inl rfl)) (⟨⟨_, rfl, Or.inl rfl, Or.inl rfl⟩, rfl⟩)
    · have c_41 : ¬ (¬ (tgf f cp pa (ixf f pa x1 1)) = 1) := of_decide_eq_false c_41
      refine ml_st (S' := (45, [(0, .ref m0), (1, .int x1)], [.int 1], M)) rfl rfl rfl ?_
      refine ml_st (S' := (49, [], [.int 1], M)) rfl rfl rfl ?_
      exact ml_ret rfl (r_z (Or.inr rfl)) (⟨⟨_, rfl, Or.inr rfl, Or.inr (IXP_7 hj_30 (show tgf f cp pa (ixf f pa x1 1) = 1 from Decidable.not_not.mp c_41))⟩, rfl⟩)
  refine ml_if2 (S1 := (30, [(0, .ref m0), (1, .int x1)], [], M)) (S2 := (6, [(0, .ref m0), (1, .int x1), (2, .int x2), (3, .int x3)], [], M)) rfl rfl rfl (fun c_3 => ?_) (fun c_3 => ?_)
  · have c_3 : x2 = 7 := of_decide_eq_true c_3
    exact J_30  (Or.inl c_3)
  · have c_3 : ¬ (x2 = 7) := of_decide_eq_false c_3
    refine ml_blk 2 (S' := (9, [(0, .ref m0), (1, .int x1), (2, .int x2), (3, .int x3)], [.int 8, .int x2], M)) rfl ?_
    refine ml_if2 (S1 := (30, [(0, .ref m0), (1, .int x1)], [], M)) (S2 := (12, [(0, .ref m0), (1, .int x1), (2, .int x2), (3, .int x3)], [], M)) rfl rfl rfl (fun c_9 => ?_) (fun c_9 => ?_)
    · have c_9 : x2 = 8 := of_decide_eq_true c_9
      exact J_30  (Or.inr (Or.inl c_9))
    · have c_9 : ¬ (x2 = 8) := of_decide_eq_false c_9
      refine ml_blk 2 (S' := (15, [(0, .ref m0), (1, .int x1), (2, .int x2), (3, .int x3)], [.int 16, .int x2], M)) rfl ?_
      refine ml_if2 (S1 := (30, [(0, .ref m0), (1, .int x1)], [], M)) (S2 := (18, [(0, .ref m0), (1, .int x1), (2, .int x2), (3, .int x3)], [], M)) rfl rfl rfl (fun c_15 => ?_) (fun c_15 => ?_)
      · have c_15 : x2 = 16 := of_decide_eq_true c_15
        exact J_30  (Or.inr (Or.inr (Or.inl c_15)))
      · have c_15 : ¬ (x2 = 16) := of_decide_eq_false c_15
        refine ml_blk 2 (S' := (21, [(0, .ref m0), (1, .int x1), (2, .int x2), (3, .int x3)], [.int 19, .int x2], M)) rfl ?_
        refine ml_if2 (S1 := (30, [(0, .ref m0), (1, .int x1)], [], M)) (S2 := (24, [(0, .ref m0), (1, .int x1), (2, .int x2), (3, .int x3)], [], M)) rfl rfl rfl (fun c_21 => ?_) (fun c_21 => ?_)
        · have c_21 : x2 = 19 := of_decide_eq_true c_21
          exact J_30  (Or.inr (Or.inr (Or.inr (Or.inl c_21))))
        · have c_21 : ¬ (x2 = 19) := of_decide_eq_false c_21
          refine ml_blk 2 (S' := (27, [(0, .ref m0), (1, .int x1), (2, .int x2), (3, .int x3)], [.int 20, .int x2], M)) rfl ?_
          refine ml_if2 (S1 := (50, [(0, .ref m0), (1, .int x1), (2, .int x2), (3, .int x3)], [], M)) (S2 := (30, [(0, .ref m0), (1, .int x1)], [], M)) rfl rfl rfl (fun c_27 => ?_) (fun c_27 => ?_)
          · have c_27 : ¬ x2 = 20 := of_decide_eq_true c_27
            refine ml_blk 2 (S' := (53, [(0, .ref m0), (1, .int x1), (2, .int x2), (3, .int x3)], [.int 9, .int x2], M)) rfl ?_
            have J_130 : (¬ t7 x2 ∧ ¬ t9 x2) → ml (mT g) d (mb_214 g).2 (130, [(0, .ref m0), (1, .int x1), (2, .int x2)], [], M) (fun v M' => (∃ x : Int32, v = some (.int x) ∧ (x = 0 ∨ x = 1) ∧ (x = 0 ∨ IXP f cp pa x1 x2)) ∧ M' = M) := by
              intro hj_130
              refine ml_blk 2 (S' := (133, [(0, .ref m0), (1, .int x1), (2, .int x2)], [.int 12, .int x2], M)) rfl ?_
              refine ml_if2 (S1 := (170, [(0, .ref m0), (1, .int x1), (2, .int x2)], [], M)) (S2 := (136, [(0, .ref m0), (1, .int x1), (2, .int x2)], [], M)) rfl rfl rfl (fun c_133 => ?_) (fun c_133 => ?_)
              · have c_133 : ¬ x2 = 12 := of_decide_eq_true c_133
                exact (hl.elim c_3 c_133).elim
              · have c_133 : ¬ (¬ x2 = 12) := of_decide_eq_false c_133
                refine ml_blk 3 (S' := (139, [(0, .ref m0), (1, .int x1), (2, .int x2)], [.int x1, .ref m0, .ref m0], M)) rfl ?_
                refine ml_st (S' := (140, [(0, .ref m0), (1, .int x1), (2, .int x2)], [.int 1, .int x1, .ref m0, .ref m0], M)) rfl rfl rfl ?_
                refine ml_call (a := [.ref m0, .int x1, .int 1]) (rest := [.ref m0]) rfl (hR.okc rfl rfl rfl) rfl rfl (rm_index hR hF hP ((hP.tg (ht.trans (Decidable.not_not.mp c_133)) (by decide)).1) ((hP.tg (ht.trans (Decidable.not_not.mp c_133)) (by decide)).2.1) ((hP.tg (ht.trans (Decidable.not_not.mp c_133)) (by decide)).2.2.1) (by decide) (by have q := (hP.tg (ht.trans (Decidable.not_not.mp c_133)) (by decide)).2.2.2.2; rw [show esz _ = 5 from rfl] at q; have : (1 : Int32).toInt = 1 := rfl; omega) (by omega)) (fun v17 M18 h19 => ?_)
                obtain ⟨rfl, h19⟩ := h19
                rw [h19]
                show ml _ _ _ (143, [(0, .ref m0), (1, .int x1), (2, .int x2)], [.int (ixf f pa x1 1), .ref m0], M) _
                refine ml_call (a := [.ref m0, .int (ixf f pa x1 1)]) (rest := []) rfl (hR.okc rfl rfl rfl) rfl rfl (rm_tag hR hF hP (by omega)) (fun v20 M21 h22 => ?_)
                obtain ⟨rfl, h22⟩ := h22
                rw [h22]
                show ml _ _ _ (146, [(0, .ref m0), (1, .int x1), (2, .int x2)], [.int (tgf f cp pa (ixf f pa x1 1))], M) _
                refine ml_st (S' := (147, [(0, .ref m0), (1, .int x1), (2, .int x2)], [.int 1, .int (tgf f cp pa (ixf f pa x1 1))], M)) rfl rfl rfl ?_
                refine ml_if2 (S1 := (168, [], [], M)) (S2 := (150, [(0, .ref m0), (1, .int x1), (2, .int x2)], [], M)) rfl rfl rfl (fun c_147 => ?_) (fun c_147 => ?_)
                · have c_147 : ¬ (tgf f cp pa (ixf f pa x1 1)) = 1 := of_decide_eq_true c_147
                  refine ml_st (S' := (169, [], [.int 0], M)) rfl rfl rfl ?_
                  exact ml_ret rfl (r_z (Or.inl rfl)) (⟨⟨_, rfl, Or.inl rfl, Or.inl rfl⟩, rfl⟩)
                · have c_147 : ¬ (¬ (tgf f cp pa (ixf f pa x1 1)) = 1) := of_decide_eq_false c_147
                  refine ml_blk 3 (S' := (153, [(0, .ref m0), (1, .int x1), (2, .int x2)], [.int x1, .ref m0, .ref m0], M)) rfl ?_
                  refine ml_st (S' := (154, [(0, .ref m0), (1, .int x1), (2, .int x2)], [.int 3, .int x1, .ref m0, .ref m0], M)) rfl rfl rfl ?_
                  refine ml_call (a := [.ref m0, .int x1, .int 3]) (rest := [.ref m0]) rfl (hR.okc rfl rfl rfl) rfl rfl (rm_index hR hF hP ((hP.tg (ht.trans (Decidable.not_not.mp c_133)) (by decide)).1) ((hP.tg (ht.trans (Decidable.not_not.mp c_133)) (by decide)).2.1) ((hP.tg (ht.trans (Decidable.not_not.mp c_133)) (by decide)).2.2.1) (by decide) (by have q := (hP.tg (ht.trans (Decidable.not_not.mp c_133)) (by decide)).2.2.2.2; rw [show esz _ = 5 from rfl] at q; have : (3 : Int32).toInt = 3 := rfl; omega) (by omega)) (fun v23 M24 h25 => ?_)
                  obtain ⟨rfl, h25⟩ := h25
                  rw [h25]
                  show ml _ _ _ (157, [(0, .ref m0), (1, .int x1), (2, .int x2)], [.int (ixf f pa x1 3), .ref m0], M) _
                  refine ml_call (a := [.ref m0, .int (ixf f pa x1 3)]) (rest := []) rfl (hR.okc rfl rfl rfl) rfl rfl (rm_tag hR hF hP (by omega)) (fun v26 M27 h28 => ?_)
                  obtain ⟨rfl, h28⟩ := h28
                  rw [h28]
                  show ml _ _ _ (160, [(0, .ref m0), (1, .int x1), (2, .int x2)], [.int (tgf f cp pa (ixf f pa x1 3))], M) _
                  refine ml_st (S' := (161, [(0, .ref m0), (1, .int x1), (2, .int x2)], [.int 1, .int (tgf f cp pa (ixf f pa x1 3))], M)) rfl rfl rfl ?_
                  refine ml_if2 (S1 := (168, [], [], M)) (S2 := (164, [(0, .ref m0), (1, .int x1), (2, .int x2)], [], M)) rfl rfl rfl (fun c_161 => ?_) (fun c_161 => ?_)
                  · have c_161 : ¬ (tgf f cp pa (ixf f pa x1 3)) = 1 := of_decide_eq_true c_161
                    refine ml_st (S' := (169, [], [.int 0], M)) rfl rfl rfl ?_
                    exact ml_ret rfl (r_z (Or.inl rfl)) (⟨⟨_, rfl, Or.inl rfl, Or.inl rfl⟩, rfl⟩)
                  · have c_161 : ¬ (¬ (tgf f cp pa (ixf f pa x1 3)) = 1) := of_decide_eq_false c_161
                    refine ml_st (S' := (165, [(0, .ref m0), (1, .int x1), (2, .int x2)], [.int 1], M)) rfl rfl rfl ?_
                    refine ml_st (S' := (169, [], [.int 1], M)) rfl rfl rfl ?_
                    exact ml_ret rfl (r_z (Or.inr rfl)) (⟨⟨_, rfl, Or.inr rfl, Or.inr (IXP_12 (Decidable.not_not.mp c_133) ⟨Decidable.not_not.mp c_147, Decidable.not_not.mp c_161⟩)⟩, rfl⟩)
            refine ml_if2 (S1 := (130, [(0, .ref m0), (1, .int x1), (2, .int x2)], [], M)) (S2 := (56, [(0, .ref m0), (1, .int x1), (2, .int x2), (3, .int x3)], [], M)) rfl rfl rfl (fun c_53 => ?_) (fun c_53 => ?_)
            · have c_53 : x2 < 9 := of_decide_eq_true c_53
              exact J_130  (⟨(fun h => by rcases h with h | h | h | h | h; exact c_3 h; exact c_9 h; exact c_15 h; exact c_21 h; exact c_27 h), fun q => by have := i_lt c_53; have q1 := q.1; have : (9 : Int32).toInt = 9 := rfl; omega⟩)
            · have c_53 : ¬ (x2 < 9) := of_decide_eq_false c_53
              refine ml_blk 2 (S' := (59, [(0, .ref m0), (1, .int x1), (2, .int x2), (3, .int x3)], [.int 11, .int x2], M)) rfl ?_
              refine ml_if2 (S1 := (130, [(0, .ref m0), (1, .int x1), (2, .int x2)], [], M)) (S2 := (62, [(0, .ref m0), (1, .int x1), (2, .int x2), (3, .int x3)], [], M)) rfl rfl rfl (fun c_59 => ?_) (fun c_59 => ?_)
              · have c_59 : 11 < x2 := of_decide_eq_true c_59
                exact J_130  (⟨(fun h => by rcases h with h | h | h | h | h; exact c_3 h; exact c_9 h; exact c_15 h; exact c_21 h; exact c_27 h), fun q => by have := i_lt c_59; have q1 := q.2; have : (11 : Int32).toInt = 11 := rfl; omega⟩)
              · have c_59 : ¬ (11 < x2) := of_decide_eq_false c_59
                have ht9 : t9 x2 := ⟨by have q := i_nlt c_53; have : (9 : Int32).toInt = 9 := rfl; omega, by have q := i_nlt c_59; have : (11 : Int32).toInt = 11 := rfl; omega⟩
                exfalso
                rcases hl with rfl | rfl
                · exact absurd (by decide) c_53
                · exact absurd (by decide) c_59
          · have c_27 : ¬ (¬ x2 = 20) := of_decide_eq_false c_27
            exact J_30  (Or.inr (Or.inr (Or.inr (Or.inr (Decidable.not_not.mp c_27)))))
set_option maxHeartbeats 2000000 in
theorem rm_indexes1 {g : xe_G}  {m0 : Nat} {q : Nat → Nat} {z : Nat × Nat} {I : rI} {R : rR} {M : mi_H} {x1 x2 x3 : Int32} {n : Nat} {f : Nat → Int32} {S : Nat} {cp mj : Int32} {pa py : Nat → Int32}  (hR : RS g m0 q z I R M) (hF : FK n f I R) (hP : PK n f S cp mj pa py I R) (ht : tgf f cp pa x1 = x2) (hl : t9 x2) {d : Nat} (hd : 5 ≤ d) : mt (mT g) d 214 [.ref m0, .int x1, .int x2, .int x3] M (fun v M' => (∃ x : Int32, v = some (.int x) ∧ (x = 0 ∨ x = 1) ∧ (x = 0 ∨ IXP f cp pa x1 x2)) ∧ M' = M) := by
  obtain ⟨d, rfl⟩ : ∃ e, d = e + 1 := ⟨d - 1, by omega⟩
  refine mt_in (b := mb_214 g) rfl rfl ?_
  show ml (mT g) d (mb_214 g).2 (0, [(0, .ref m0), (1, .int x1), (2, .int x2), (3, .int x3)], [], M) _
  refine ml_blk 2 (S' := (3, [(0, .ref m0), (1, .int x1), (2, .int x2), (3, .int x3)], [.int 7, .int x2], M)) rfl ?_
  have J_30 : t7 x2 → ml (mT g) d (mb_214 g).2 (30, [(0, .ref m0), (1, .int x1)], [], M) (fun v M' => (∃ x : Int32, v = some (.int x) ∧ (x = 0 ∨ x = 1) ∧ (x = 0 ∨ IXP f cp pa x1 x2)) ∧ M' = M) := by
    intro hj_30
    exact (t79 hj_30 hl).elim
  refine ml_if2 (S1 := (30, [(0, .ref m0), (1, .int x1)], [], M)) (S2 := (6, [(0, .ref m0), (1, .int x1), (2, .int x2), (3, .int x3)], [], M)) rfl rfl rfl (fun c_3 => ?_) (fun c_3 => ?_)
  · have c_3 : x2 = 7 := of_decide_eq_true c_3
    exact J_30  (Or.inl c_3)
  · have c_3 : ¬ (x2 = 7) := of_decide_eq_false c_3
    refine ml_blk 2 (S' := (9, [(0, .ref m0), (1, .int x1), (2, .int x2), (3, .int x3)], [.int 8, .int x2], M)) rfl ?_
    refine ml_if2 (S1 := (30, [(0, .ref m0), (1, .int x1)], [], M)) (S2 := (12, [(0, .ref m0), (1, .int x1), (2, .int x2), (3, .int x3)], [], M)) rfl rfl rfl (fun c_9 => ?_) (fun c_9 => ?_)
    · have c_9 : x2 = 8 := of_decide_eq_true c_9
      exact J_30  (Or.inr (Or.inl c_9))
    · have c_9 : ¬ (x2 = 8) := of_decide_eq_false c_9
      refine ml_blk 2 (S' := (15, [(0, .ref m0), (1, .int x1), (2, .int x2), (3, .int x3)], [.int 16, .int x2], M)) rfl ?_
      refine ml_if2 (S1 := (30, [(0, .ref m0), (1, .int x1)], [], M)) (S2 := (18, [(0, .ref m0), (1, .int x1), (2, .int x2), (3, .int x3)], [], M)) rfl rfl rfl (fun c_15 => ?_) (fun c_15 => ?_)
      · have c_15 : x2 = 16 := of_decide_eq_true c_15
        exact J_30  (Or.inr (Or.inr (Or.inl c_15)))
      · have c_15 : ¬ (x2 = 16) := of_decide_eq_false c_15
        refine ml_blk 2 (S' := (21, [(0, .ref m0), (1, .int x1), (2, .int x2), (3, .int x3)], [.int 19, .int x2], M)) rfl ?_
        refine ml_if2 (S1 := (30, [(0, .ref m0), (1, .int x1)], [], M)) (S2 := (24, [(0, .ref m0), (1, .int x1), (2, .int x2), (3, .int x3)], [], M)) rfl rfl rfl (fun c_21 => ?_) (fun c_21 => ?_)
        · have c_21 : x2 = 19 := of_decide_eq_true c_21
          exact J_30  (Or.inr (Or.inr (Or.inr (Or.inl c_21))))
        · have c_21 : ¬ (x2 = 19) := of_decide_eq_false c_21
          refine ml_blk 2 (S' := (27, [(0, .ref m0), (1, .int x1), (2, .int x2), (3, .int x3)], [.int 20, .int x2], M)) rfl ?_
          refine ml_if2 (S1 := (50, [(0, .ref m0), (1, .int x1), (2, .int x2), (3, .int x3)], [], M)) (S2 := (30, [(0, .ref m0), (1, .int x1)], [], M)) rfl rfl rfl (fun c_27 => ?_) (fun c_27 => ?_)
          · have c_27 : ¬ x2 = 20 := of_decide_eq_true c_27
            refine ml_blk 2 (S' := (53, [(0, .ref m0), (1, .int x1), (2, .int x2), (3, .int x3)], [.int 9, .int x2], M)) rfl ?_
            have J_130 : (¬ t7 x2 ∧ ¬ t9 x2) → ml (mT g) d (mb_214 g).2 (130, [(0, .ref m0), (1, .int x1), (2, .int x2)], [], M) (fun v M' => (∃ x : Int32, v = some (.int x) ∧ (x = 0 ∨ x = 1) ∧ (x = 0 ∨ IXP f cp pa x1 x2)) ∧ M' = M) := by
              intro hj_130
              exact (hj_130.2 hl).elim
            refine ml_if2 (S1 := (130, [(0, .ref m0), (1, .int x1), (2, .int x2)], [], M)) (S2 := (56, [(0, .ref m0), (1, .int x1), (2, .int x2), (3, .int x3)], [], M)) rfl rfl rfl (fun c_53 => ?_) (fun c_53 => ?_)
            · have c_53 : x2 < 9 := of_decide_eq_true c_53
              exact J_130  (⟨(fun h => by rcases h with h | h | h | h | h; exact c_3 h; exact c_9 h; exact c_15 h; exact c_21 h; exact c_27 h), fun q => by have := i_lt c_53; have q1 := q.1; have : (9 : Int32).toInt = 9 := rfl; omega⟩)
            · have c_53 : ¬ (x2 < 9) := of_decide_eq_false c_53
              refine ml_blk 2 (S' := (59, [(0, .ref m0), (1, .int x1), (2, .int x2), (3, .int x3)], [.int 11, .int x2], M)) rfl ?_
              refine ml_if2 (S1 := (130, [(0, .ref m0), (1, .int x1), (2, .int x2)], [], M)) (S2 := (62, [(0, .ref m0), (1, .int x1), (2, .int x2), (3, .int x3)], [], M)) rfl rfl rfl (fun c_59 => ?_) (fun c_59 => ?_)
              · have c_59 : 11 < x2 := of_decide_eq_true c_59
                exact J_130  (⟨(fun h => by rcases h with h | h | h | h | h; exact c_3 h; exact c_9 h; exact c_15 h; exact c_21 h; exact c_27 h), fun q => by have := i_lt c_59; have q1 := q.2; have : (11 : Int32).toInt = 11 := rfl; omega⟩)
              · have c_59 : ¬ (11 < x2) := of_decide_eq_false c_59
                have ht9 : t9 x2 := ⟨by have q := i_nlt c_53; have : (9 : Int32).toInt = 9 := rfl; omega, by have q := i_nlt c_59; have : (11 : Int32).toInt = 11 := rfl; omega⟩
                refine ml_blk 3 (S' := (65, [(0, .ref m0), (1, .int x1), (2, .int x2), (3, .int x3)], [.int x1, .ref m0, .ref m0], M)) rfl ?_
                refine ml_st (S' := (66, [(0, .ref m0), (1, .int x1), (2, .int x2), (3, .int x3)], [.int 1, .int x1, .ref m0, .ref m0], M)) rfl rfl rfl ?_
                refine ml_call (a := [.ref m0, .int x1, .int 1]) (rest := [.ref m0]) rfl (hR.okc rfl rfl rfl) rfl rfl (rm_index hR hF hP ((hP.tg ht (t9_n0 ht9)).1) ((hP.tg ht (t9_n0 ht9)).2.1) ((hP.tg ht (t9_n0 ht9)).2.2.1) (by decide) (by have q := (hP.tg ht (t9_n0 ht9)).2.2.2.2; rw [show esz _ = 5 from esz_9 ht9] at q; have : (1 : Int32).toInt = 1 := rfl; omega) (by omega)) (fun v11 M12 h13 => ?_)
                obtain ⟨rfl, h13⟩ := h13
                rw [h13]
                show ml _ _ _ (69, [(0, .ref m0), (1, .int x1), (2, .int x2), (3, .int x3)], [.int (ixf f pa x1 1), .ref m0], M) _
                refine ml_call (a := [.ref m0, .int (ixf f pa x1 1)]) (rest := []) rfl (hR.okc rfl rfl rfl) rfl rfl (rm_tag hR hF hP (by omega)) (fun v14 M15 h16 => ?_)
                obtain ⟨rfl, h16⟩ := h16
                rw [h16]
                show ml _ _ _ (72, [(0, .ref m0), (1, .int x1), (2, .int x2), (3, .int x3)], [.int (tgf f cp pa (ixf f pa x1 1))], M) _
                refine ml_st (S' := (74, [(0, .ref m0), (1, .int x1), (2, .int x2), (3, .int x3)], [.int 7, .int (tgf f cp pa (ixf f pa x1 1))], M)) rfl rfl rfl ?_
                refine ml_if2 (S1 := (128, [], [], M)) (S2 := (77, [(0, .ref m0), (1, .int x1), (2, .int x2), (3, .int x3)], [], M)) rfl rfl rfl (fun c_74 => ?_) (fun c_74 => ?_)
                · have c_74 : ¬ (tgf f cp pa (ixf f pa x1 1)) = 7 := of_decide_eq_true c_74
                  refine ml_st (S' := (129, [], [.int 0], M)) rfl rfl rfl ?_
                  exact ml_ret rfl (r_z (Or.inl rfl)) (⟨⟨_, rfl, Or.inl rfl, Or.inl rfl⟩, rfl⟩)
                · have c_74 : ¬ (¬ (tgf f cp pa (ixf f pa x1 1)) = 7) := of_decide_eq_false c_74
                  refine ml_blk 3 (S' := (80, [(0, .ref m0), (1, .int x1), (2, .int x2), (3, .int x3)], [.int x1, .ref m0, .ref m0], M)) rfl ?_
                  refine ml_st (S' := (81, [(0, .ref m0), (1, .int x1), (2, .int x2), (3, .int x3)], [.int 1, .int x1, .ref m0, .ref m0], M)) rfl rfl rfl ?_
                  refine ml_call (a := [.ref m0, .int x1, .int 1]) (rest := [.ref m0]) rfl (hR.okc rfl rfl rfl) rfl rfl (rm_index hR hF hP ((hP.tg ht (t9_n0 ht9)).1) ((hP.tg ht (t9_n0 ht9)).2.1) ((hP.tg ht (t9_n0 ht9)).2.2.1) (by decide) (by have q := (hP.tg ht (t9_n0 ht9)).2.2.2.2; rw [show esz _ = 5 from esz_9 ht9] at q; have : (1 : Int32).toInt = 1 := rfl; omega) (by omega)) (fun v17 M18 h19 => ?_)
                  obtain ⟨rfl, h19⟩ := h19
                  rw [h19]
                  show ml _ _ _ (84, [(0, .ref m0), (1, .int x1), (2, .int x2), (3, .int x3)], [.int (ixf f pa x1 1), .ref m0], M) _
                  refine ml_blk 2 (S' := (87, [(0, .ref m0), (1, .int x1), (2, .int x2), (3, .int x3)], [.int 0, .int 7, .int (ixf f pa x1 1), .ref m0], M)) rfl ?_
                  refine ml_call (a := [.ref m0, .int (ixf f pa x1 1), .int 7, .int 0]) (rest := []) rfl (hR.okc rfl rfl rfl) rfl rfl (rm_indexes0 hR hF hP (Decidable.not_not.mp c_74) (Or.inl rfl) (by omega)) (fun v20 M21 h22 => ?_)
                  obtain ⟨⟨u23, rfl, z24, w25⟩, h22⟩ := h22
                  rw [h22]
                  show ml _ _ _ (90, [(0, .ref m0), (1, .int x1), (2, .int x2), (3, .int x3)], [.int u23], M) _
                  refine ml_if (S1 := (128, [], [], M)) (S2 := (93, [(0, .ref m0), (1, .int x1), (2, .int x2), (3, .int x3)], [], M)) rfl rfl rfl (fun c_90 => ?_) (fun c_90 => ?_)
                  · have c_90 : u23 = 0 := of_decide_eq_true c_90
                    refine ml_st (S' := (129, [], [.int 0], M)) rfl rfl rfl ?_
                    exact ml_ret rfl (r_z (Or.inl rfl)) (⟨⟨_, rfl, Or.inl rfl, Or.inl rfl⟩, rfl⟩)
                  · have c_90 : ¬ (u23 = 0) := of_decide_eq_false c_90
                    refine ml_blk 3 (S' := (96, [(0, .ref m0), (1, .int x1), (2, .int x2), (3, .int x3)], [.int x1, .ref m0, .ref m0], M)) rfl ?_
                    refine ml_st (S' := (97, [(0, .ref m0), (1, .int x1), (2, .int x2), (3, .int x3)], [.int 3, .int x1, .ref m0, .ref m0], M)) rfl rfl rfl ?_
                    refine ml_call (a := [.ref m0, .int x1, .int 3]) (rest := [.ref m0]) rfl (hR.okc rfl rfl rfl) rfl rfl (rm_index hR hF hP ((hP.tg ht (t9_n0 ht9)).1) ((hP.tg ht (t9_n0 ht9)).2.1) ((hP.tg ht (t9_n0 ht9)).2.2.1) (by decide) (by have q := (hP.tg ht (t9_n0 ht9)).2.2.2.2; rw [show esz _ = 5 from esz_9 ht9] at q; have : (3 : Int32).toInt = 3 := rfl; omega) (by omega)) (fun v26 M27 h28 => ?_)
                    obtain ⟨rfl, h28⟩ := h28
                    rw [h28]
                    show ml _ _ _ (100, [(0, .ref m0), (1, .int x1), (2, .int x2), (3, .int x3)], [.int (ixf f pa x1 3), .ref m0], M) _
                    refine ml_call (a := [.ref m0, .int (ixf f pa x1 3)]) (rest := []) rfl (hR.okc rfl rfl rfl) rfl rfl (rm_tag hR hF hP (by omega)) (fun v29 M30 h31 => ?_)
                    obtain ⟨rfl, h31⟩ := h31
                    rw [h31]
                    show ml _ _ _ (103, [(0, .ref m0), (1, .int x1), (2, .int x2), (3, .int x3)], [.int (tgf f cp pa (ixf f pa x1 3))], M) _
                    refine ml_st (S' := (105, [(0, .ref m0), (1, .int x1), (2, .int x2), (3, .int x3)], [.int 12, .int (tgf f cp pa (ixf f pa x1 3))], M)) rfl rfl rfl ?_
                    refine ml_if2 (S1 := (128, [], [], M)) (S2 := (108, [(0, .ref m0), (1, .int x1), (2, .int x2), (3, .int x3)], [], M)) rfl rfl rfl (fun c_105 => ?_) (fun c_105 => ?_)
                    · have c_105 : ¬ (tgf f cp pa (ixf f pa x1 3)) = 12 := of_decide_eq_true c_105
                      refine ml_st (S' := (129, [], [.int 0], M)) rfl rfl rfl ?_
                      exact ml_ret rfl (r_z (Or.inl rfl)) (⟨⟨_, rfl, Or.inl rfl, Or.inl rfl⟩, rfl⟩)
                    · have c_105 : ¬ (¬ (tgf f cp pa (ixf f pa x1 3)) = 12) := of_decide_eq_false c_105
                      refine ml_blk 3 (S' := (111, [(0, .ref m0), (1, .int x1), (2, .int x2), (3, .int x3)], [.int x1, .ref m0, .ref m0], M)) rfl ?_
                      refine ml_st (S' := (112, [(0, .ref m0), (1, .int x1), (2, .int x2), (3, .int x3)], [.int 3, .int x1, .ref m0, .ref m0], M)) rfl rfl rfl ?_
                      refine ml_call (a := [.ref m0, .int x1, .int 3]) (rest := [.ref m0]) rfl (hR.okc rfl rfl rfl) rfl rfl (rm_index hR hF hP ((hP.tg ht (t9_n0 ht9)).1) ((hP.tg ht (t9_n0 ht9)).2.1) ((hP.tg ht (t9_n0 ht9)).2.2.1) (by decide) (by have q := (hP.tg ht (t9_n0 ht9)).2.2.2.2; rw [show esz _ = 5 from esz_9 ht9] at q; have : (3 : Int32).toInt = 3 := rfl; omega) (by omega)) (fun v32 M33 h34 => ?_)
                      obtain ⟨rfl, h34⟩ := h34
                      rw [h34]
                      show ml _ _ _ (115, [(0, .ref m0), (1, .int x1), (2, .int x2), (3, .int x3)], [.int (ixf f pa x1 3), .ref m0], M) _
                      refine ml_blk 2 (S' := (118, [(0, .ref m0), (1, .int x1), (2, .int x2), (3, .int x3)], [.int 0, .int 12, .int (ixf f pa x1 3), .ref m0], M)) rfl ?_
                      refine ml_call (a := [.ref m0, .int (ixf f pa x1 3), .int 12, .int 0]) (rest := []) rfl (hR.okc rfl rfl rfl) rfl rfl (rm_indexes0 hR hF hP (Decidable.not_not.mp c_105) (Or.inr rfl) (by omega)) (fun v35 M36 h37 => ?_)
                      obtain ⟨⟨u38, rfl, z39, w40⟩, h37⟩ := h37
                      rw [h37]
                      show ml _ _ _ (121, [(0, .ref m0), (1, .int x1), (2, .int x2), (3, .int x3)], [.int u38], M) _
                      refine ml_if (S1 := (128, [], [], M)) (S2 := (124, [(0, .ref m0), (1, .int x1), (2, .int x2), (3, .int x3)], [], M)) rfl rfl rfl (fun c_121 => ?_) (fun c_121 => ?_)
                      · have c_121 : u38 = 0 := of_decide_eq_true c_121
                        refine ml_st (S' := (129, [], [.int 0], M)) rfl rfl rfl ?_
                        exact ml_ret rfl (r_z (Or.inl rfl)) (⟨⟨_, rfl, Or.inl rfl, Or.inl rfl⟩, rfl⟩)
                      · have c_121 : ¬ (u38 = 0) := of_decide_eq_false c_121
                        refine ml_st (S' := (125, [(0, .ref m0), (1, .int x1), (2, .int x2), (3, .int x3)], [.int 1], M)) rfl rfl rfl ?_
                        refine ml_st (S' := (129, [], [.int 1], M)) rfl rfl rfl ?_
                        exact ml_ret rfl (r_z (Or.inr rfl)) (⟨⟨_, rfl, Or.inr rfl, Or.inr (IXP_9 ht9 ⟨Decidable.not_not.mp c_74, (w25.resolve_left c_90).1 (Or.inl rfl), Decidable.not_not.mp c_105, (w40.resolve_left c_121).2.1 rfl⟩)⟩, rfl⟩)
          · have c_27 : ¬ (¬ x2 = 20) := of_decide_eq_false c_27
            exact J_30  (Or.inr (Or.inr (Or.inr (Or.inr (Decidable.not_not.mp c_27)))))
set_option maxHeartbeats 2000000 in
theorem rm_indexes {g : xe_G}  {m0 : Nat} {q : Nat → Nat} {z : Nat × Nat} {I : rI} {R : rR} {M : mi_H} {x1 x2 x3 : Int32} {n : Nat} {f : Nat → Int32} {S : Nat} {cp mj : Int32} {pa py : Nat → Int32}  (hR : RS g m0 q z I R M) (hF : FK n f I R) (hP : PK n f S cp mj pa py I R) (ht : tgf f cp pa x1 = x2) {d : Nat} (hd : 6 ≤ d) : mt (mT g) d 214 [.ref m0, .int x1, .int x2, .int x3] M (fun v M' => (∃ x : Int32, v = some (.int x) ∧ (x = 0 ∨ x = 1) ∧ (x = 0 ∨ IXP f cp pa x1 x2)) ∧ M' = M) := by
  obtain ⟨d, rfl⟩ : ∃ e, d = e + 1 := ⟨d - 1, by omega⟩
  refine mt_in (b := mb_214 g) rfl rfl ?_
  show ml (mT g) d (mb_214 g).2 (0, [(0, .ref m0), (1, .int x1), (2, .int x2), (3, .int x3)], [], M) _
  refine ml_blk 2 (S' := (3, [(0, .ref m0), (1, .int x1), (2, .int x2), (3, .int x3)], [.int 7, .int x2], M)) rfl ?_
  have J_30 : t7 x2 → ml (mT g) d (mb_214 g).2 (30, [(0, .ref m0), (1, .int x1)], [], M) (fun v M' => (∃ x : Int32, v = some (.int x) ∧ (x = 0 ∨ x = 1) ∧ (x = 0 ∨ IXP f cp pa x1 x2)) ∧ M' = M) := by
    intro hj_30
    refine ml_blk 3 (S' := (33, [(0, .ref m0), (1, .int x1)], [.int x1, .ref m0, .ref m0], M)) rfl ?_
    refine ml_st (S' := (34, [(0, .ref m0), (1, .int x1)], [.int 1, .int x1, .ref m0, .ref m0], M)) rfl rfl rfl ?_
    refine ml_call (a := [.ref m0, .int x1, .int 1]) (rest := [.ref m0]) rfl (hR.okc rfl rfl rfl) rfl rfl (rm_index hR hF hP ((hP.tg ht (t7_ne hj_30)).1) ((hP.tg ht (t7_ne hj_30)).2.1) ((hP.tg ht (t7_ne hj_30)).2.2.1) (by decide) (by have q := (hP.tg ht (t7_ne hj_30)).2.2.2.2; rw [show esz _ = 3 from esz_7 hj_30] at q; have : (1 : Int32).toInt = 1 := rfl; omega) (by omega)) (fun v11 M12 h13 => ?_)
    obtain ⟨rfl, h13⟩ := h13
    rw [h13]
    show ml _ _ _ (37, [(0, .ref m0), (1, .int x1)], [.int (ixf f pa x1 1), .ref m0], M) _
    refine ml_call (a := [.ref m0, .int (ixf f pa x1 1)]) (rest := []) rfl (hR.okc rfl rfl rfl) rfl rfl (rm_tag hR hF hP (by omega)) (fun v14 M15 h16 => ?_)
    obtain ⟨rfl, h16⟩ := h16
    rw [h16]
    show ml _ _ _ (40, [(0, .ref m0), (1, .int x1)], [.int (tgf f cp pa (ixf f pa x1 1))], M) _
    refine ml_st (S' := (41, [(0, .ref m0), (1, .int x1)], [.int 1, .int (tgf f cp pa (ixf f pa x1 1))], M)) rfl rfl rfl ?_
    refine ml_if2 (S1 := (48, [(0, .ref m0), (1, .int x1)], [], M)) (S2 := (44, [(0, .ref m0), (1, .int x1)], [], M)) rfl rfl rfl (fun c_41 => ?_) (fun c_41 => ?_)
    · have c_41 : ¬ (tgf f cp pa (ixf f pa x1 1)) = 1 := of_decide_eq_true c_41
      refine ml_st (S' := (49, [], [.int 0], M)) rfl rfl rfl ?_
      exact ml_ret rfl (r_z (Or.inl rfl)) (⟨⟨_, rfl, Or.inl rfl, Or.inl rfl⟩, rfl⟩)
    · have c_41 : ¬ (¬ (tgf f cp pa (ixf f pa x1 1)) = 1) := of_decide_eq_false c_41
      refine ml_st (S' := (45, [(0, .ref m0), (1, .int x1)], [.int 1], M)) rfl rfl rfl ?_
      refine ml_st (S' := (49, [], [.int 1], M)) rfl rfl rfl ?_
      exact ml_ret rfl (r_z (Or.inr rfl)) (⟨⟨_, rfl, Or.inr rfl, Or.inr (IXP_7 hj_30 (show tgf f cp pa (ixf f pa x1 1) = 1 from Decidable.not_not.mp c_41))⟩, rfl⟩)
  refine ml_if2 (S1 := (30, [(0, .ref m0), (1, .int x1)], [], M)) (S2 := (6, [(0, .ref m0), (1, .int x1), (2, .int x2), (3, .int x3)], [], M)) rfl rfl rfl (fun c_3 => ?_) (fun c_3 => ?_)
  · have c_3 : x2 = 7 := of_decide_eq_true c_3
    exact J_30  (Or.inl c_3)
  · have c_3 : ¬ (x2 = 7) := of_decide_eq_false c_3
    refine ml_blk 2 (S' := (9, [(0, .ref m0), (1, .int x1), (2, .int x2), (3, .int x3)], [.int 8, .int x2], M)) rfl ?_
    refine ml_if2 (S1 := (30, [(0, .ref m0), (1, .int x1)], [], M)) (S2 := (12, [(0, .ref m0), (1, .int x1), (2, .int x2), (3, .int x3)], [], M)) rfl rfl rfl (fun c_9 => ?_) (fun c_9 => ?_)
    · have c_9 : x2 = 8 := of_decide_eq_true c_9
      exact J_30  (Or.inr (Or.inl c_9))
    · have c_9 : ¬ (x2 = 8) := of_decide_eq_false c_9
      refine ml_blk 2 (S' := (15, [(0, .ref m0), (1, .int x1), (2, .int x2), (3, .int x3)], [.int 16, .int x2], M)) rfl ?_
      refine ml_if2 (S1 := (30, [(0, .ref m0), (1, .int x1)], [], M)) (S2 := (18, [(0, .ref m0), (1, .int x1), (2, .int x2), (3, .int x3)], [], M)) rfl rfl rfl (fun c_15 => ?_) (fun c_15 => ?_)
      · have c_15 : x2 = 16 := of_decide_eq_true c_15
        exact J_30  (Or.inr (Or.inr (Or.inl c_15)))
      · have c_15 : ¬ (x2 = 16) := of_decide_eq_false c_15
        refine ml_blk 2 (S' := (21, [(0, .ref m0), (1, .int x1), (2, .int x2), (3, .int x3)], [.int 19, .int x2], M)) rfl ?_
        refine ml_if2 (S1 := (30, [(0, .ref m0), (1, .int x1)], [], M)) (S2 := (24, [(0, .ref m0), (1, .int x1), (2, .int x2), (3, .int x3)], [], M)) rfl rfl rfl (fun c_21 => ?_) (fun c_21 => ?_)
        · have c_21 : x2 = 19 := of_decide_eq_true c_21
          exact J_30  (Or.inr (Or.inr (Or.inr (Or.inl c_21))))
        · have c_21 : ¬ (x2 = 19) := of_decide_eq_false c_21
          refine ml_blk 2 (S' := (27, [(0, .ref m0), (1, .int x1), (2, .int x2), (3, .int x3)], [.int 20, .int x2], M)) rfl ?_
          refine ml_if2 (S1 := (50, [(0, .ref m0), (1, .int x1), (2, .int x2), (3, .int x3)], [], M)) (S2 := (30, [(0, .ref m0), (1, .int x1)], [], M)) rfl rfl rfl (fun c_27 => ?_) (fun c_27 => ?_)
          · have c_27 : ¬ x2 = 20 := of_decide_eq_true c_27
            refine ml_blk 2 (S' := (53, [(0, .ref m0), (1, .int x1), (2, .int x2), (3, .int x3)], [.int 9, .int x2], M)) rfl ?_
            have J_130 : (¬ t7 x2 ∧ ¬ t9 x2) → ml (mT g) d (mb_214 g).2 (130, [(0, .ref m0), (1, .int x1), (2, .int x2)], [], M) (fun v M' => (∃ x : Int32, v = some (.int x) ∧ (x = 0 ∨ x = 1) ∧ (x = 0 ∨ IXP f cp pa x1 x2)) ∧ M' = M) := by
              intro hj_130
              refine ml_blk 2 (S' := (133, [(0, .ref m0), (1, .int x1), (2, .int x2)], [.int 12, .int x2], M)) rfl ?_
              refine ml_if2 (S1 := (170, [(0, .ref m0), (1, .int x1), (2, .int x2)], [], M)) (S2 := (136, [(0, .ref m0), (1, .int x1), (2, .int x2)], [], M)) rfl rfl rfl (fun c_133 => ?_) (fun c_133 => ?_)
              · have c_133 : ¬ x2 = 12 := of_decide_eq_true c_133
                refine ml_blk 2 (S' := (173, [(0, .ref m0), (1, .int x1), (2, .int x2)], [.int 15, .int x2], M)) rfl ?_
                refine ml_if2 (S1 := (229, [(0, .ref m0), (1, .int x1), (2, .int x2)], [], M)) (S2 := (176, [(0, .ref m0), (1, .int x1), (2, .int x2)], [], M)) rfl rfl rfl (fun c_173 => ?_) (fun c_173 => ?_)
                · have c_173 : ¬ x2 = 15 := of_decide_eq_true c_173
                  refine ml_blk 2 (S' := (232, [(0, .ref m0), (1, .int x1), (2, .int x2)], [.int 17, .int x2], M)) rfl ?_
                  have J_241 : (x2 = 17 ∨ x2 = 18) → ml (mT g) d (mb_214 g).2 (241, [(0, .ref m0), (1, .int x1)], [], M) (fun v M' => (∃ x : Int32, v = some (.int x) ∧ (x = 0 ∨ x = 1) ∧ (x = 0 ∨ IXP f cp pa x1 x2)) ∧ M' = M) := by
                    intro hj_241
                    refine ml_blk 3 (S' := (244, [(0, .ref m0), (1, .int x1)], [.int x1, .ref m0, .ref m0], M)) rfl ?_
                    refine ml_st (S' := (245, [(0, .ref m0), (1, .int x1)], [.int 3, .int x1, .ref m0, .ref m0], M)) rfl rfl rfl ?_
                    refine ml_call (a := [.ref m0, .int x1, .int 3]) (rest := [.ref m0]) rfl (hR.okc rfl rfl rfl) rfl rfl (rm_index hR hF hP ((hP.tg ht (fun e => by rcases hj_241 with h | h <;> rw [h] at e <;> exact absurd e (by decide))).1) ((hP.tg ht (fun e => by rcases hj_241 with h | h <;> rw [h] at e <;> exact absurd e (by decide))).2.1) ((hP.tg ht (fun e => by rcases hj_241 with h | h <;> rw [h] at e <;> exact absurd e (by decide))).2.2.1) (by decide) (by have q := (hP.tg ht (fun e => by rcases hj_241 with h | h <;> rw [h] at e <;> exact absurd e (by decide))).2.2.2.2; rw [show esz _ = 5 from esz_17 hj_241] at q; have : (3 : Int32).toInt = 3 := rfl; omega) (by omega)) (fun v17 M18 h19 => ?_)
                    obtain ⟨rfl, h19⟩ := h19
                    rw [h19]
                    show ml _ _ _ (248, [(0, .ref m0), (1, .int x1)], [.int (ixf f pa x1 3), .ref m0], M) _
                    refine ml_call (a := [.ref m0, .int (ixf f pa x1 3)]) (rest := []) rfl (hR.okc rfl rfl rfl) rfl rfl (rm_tag hR hF hP (by omega)) (fun v20 M21 h22 => ?_)
                    obtain ⟨rfl, h22⟩ := h22
                    rw [h22]
                    show ml _ _ _ (251, [(0, .ref m0), (1, .int x1)], [.int (tgf f cp pa (ixf f pa x1 3))], M) _
                    refine ml_st (S' := (253, [(0, .ref m0), (1, .int x1)], [.int 12, .int (tgf f cp pa (ixf f pa x1 3))], M)) rfl rfl rfl ?_
                    refine ml_if2 (S1 := (276, [], [], M)) (S2 := (256, [(0, .ref m0), (1, .int x1)], [], M)) rfl rfl rfl (fun c_253 => ?_) (fun c_253 => ?_)
                    · have c_253 : ¬ (tgf f cp pa (ixf f pa x1 3)) = 12 := of_decide_eq_true c_253
                      refine ml_st (S' := (277, [], [.int 0], M)) rfl rfl rfl ?_
                      exact ml_ret rfl (r_z (Or.inl rfl)) (⟨⟨_, rfl, Or.inl rfl, Or.inl rfl⟩, rfl⟩)
                    · have c_253 : ¬ (¬ (tgf f cp pa (ixf f pa x1 3)) = 12) := of_decide_eq_false c_253
                      refine ml_blk 3 (S' := (259, [(0, .ref m0), (1, .int x1)], [.int x1, .ref m0, .ref m0], M)) rfl ?_
                      refine ml_st (S' := (260, [(0, .ref m0), (1, .int x1)], [.int 3, .int x1, .ref m0, .ref m0], M)) rfl rfl rfl ?_
                      refine ml_call (a := [.ref m0, .int x1, .int 3]) (rest := [.ref m0]) rfl (hR.okc rfl rfl rfl) rfl rfl (rm_index hR hF hP ((hP.tg ht (fun e => by rcases hj_241 with h | h <;> rw [h] at e <;> exact absurd e (by decide))).1) ((hP.tg ht (fun e => by rcases hj_241 with h | h <;> rw [h] at e <;> exact absurd e (by decide))).2.1) ((hP.tg ht (fun e => by rcases hj_241 with h | h <;> rw [h] at e <;> exact absurd e (by decide))).2.2.1) (by decide) (by have q := (hP.tg ht (fun e => by rcases hj_241 with h | h <;> rw [h] at e <;> exact absurd e (by decide))).2.2.2.2; rw [show esz _ = 5 from esz_17 hj_241] at q; have : (3 : Int32).toInt = 3 := rfl; omega) (by omega)) (fun v23 M24 h25 => ?_)
                      obtain ⟨rfl, h25⟩ := h25
                      rw [h25]
                      show ml _ _ _ (263, [(0, .ref m0), (1, .int x1)], [.int (ixf f pa x1 3), .ref m0], M) _
                      refine ml_blk 2 (S' := (266, [(0, .ref m0), (1, .int x1)], [.int 0, .int 12, .int (ixf f pa x1 3), .ref m0], M)) rfl ?_
                      refine ml_call (a := [.ref m0, .int (ixf f pa x1 3), .int 12, .int 0]) (rest := []) rfl (hR.okc rfl rfl rfl) rfl rfl (rm_indexes0 hR hF hP (Decidable.not_not.mp c_253) (Or.inr rfl) (by omega)) (fun v26 M27 h28 => ?_)
                      obtain ⟨⟨u29, rfl, z30, w31⟩, h28⟩ := h28
                      rw [h28]
                      show ml _ _ _ (269, [(0, .ref m0), (1, .int x1)], [.int u29], M) _
                      refine ml_if (S1 := (276, [], [], M)) (S2 := (272, [(0, .ref m0), (1, .int x1)], [], M)) rfl rfl rfl (fun c_269 => ?_) (fun c_269 => ?_)
                      · have c_269 : u29 = 0 := of_decide_eq_true c_269
                        refine ml_st (S' := (277, [], [.int 0], M)) rfl rfl rfl ?_
                        exact ml_ret rfl (r_z (Or.inl rfl)) (⟨⟨_, rfl, Or.inl rfl, Or.inl rfl⟩, rfl⟩)
                      · have c_269 : ¬ (u29 = 0) := of_decide_eq_false c_269
                        refine ml_st (S' := (273, [(0, .ref m0), (1, .int x1)], [.int 1], M)) rfl rfl rfl ?_
                        refine ml_st (S' := (277, [], [.int 1], M)) rfl rfl rfl ?_
                        exact ml_ret rfl (r_z (Or.inr rfl)) (⟨⟨_, rfl, Or.inr rfl, Or.inr (IXP_17 hj_241 ⟨Decidable.not_not.mp c_253, (w31.resolve_left c_269).2.1 rfl⟩)⟩, rfl⟩)
                  refine ml_if2 (S1 := (241, [(0, .ref m0), (1, .int x1)], [], M)) (S2 := (235, [(0, .ref m0), (1, .int x1), (2, .int x2)], [], M)) rfl rfl rfl (fun c_232 => ?_) (fun c_232 => ?_)
                  · have c_232 : x2 = 17 := of_decide_eq_true c_232
                    exact J_241  (Or.inl c_232)
                  · have c_232 : ¬ (x2 = 17) := of_decide_eq_false c_232
                    refine ml_blk 2 (S' := (238, [(0, .ref m0), (1, .int x1), (2, .int x2)], [.int 18, .int x2], M)) rfl ?_
                    refine ml_if2 (S1 := (278, [(0, .ref m0), (1, .int x1), (2, .int x2)], [], M)) (S2 := (241, [(0, .ref m0), (1, .int x1)], [], M)) rfl rfl rfl (fun c_238 => ?_) (fun c_238 => ?_)
                    · have c_238 : ¬ x2 = 18 := of_decide_eq_true c_238
                      refine ml_st (S' := (279, [(0, .ref m0), (1, .int x1), (2, .int x2)], [.int 1], M)) rfl rfl rfl ?_
                      exact ml_ret rfl (r_z (Or.inr rfl)) (⟨⟨_, rfl, Or.inr rfl, Or.inr (IXP_o hj_130.1 c_133 hj_130.2 c_173 (fun h => h.elim c_232 c_238))⟩, rfl⟩)
                    · have c_238 : ¬ (¬ x2 = 18) := of_decide_eq_false c_238
                      exact J_241  (Or.inr (Decidable.not_not.mp c_238))
                · have c_173 : ¬ (¬ x2 = 15) := of_decide_eq_false c_173
                  refine ml_blk 3 (S' := (179, [(0, .ref m0), (1, .int x1), (2, .int x2)], [.int x1, .ref m0, .ref m0], M)) rfl ?_
                  refine ml_st (S' := (180, [(0, .ref m0), (1, .int x1), (2, .int x2)], [.int 2, .int x1, .ref m0, .ref m0], M)) rfl rfl rfl ?_
                  refine ml_call (a := [.ref m0, .int x1, .int 2]) (rest := [.ref m0]) rfl (hR.okc rfl rfl rfl) rfl rfl (rm_index hR hF hP ((hP.tg (ht.trans (Decidable.not_not.mp c_173)) (by decide)).1) ((hP.tg (ht.trans (Decidable.not_not.mp c_173)) (by decide)).2.1) ((hP.tg (ht.trans (Decidable.not_not.mp c_173)) (by decide)).2.2.1) (by decide) (by have q := (hP.tg (ht.trans (Decidable.not_not.mp c_173)) (by decide)).2.2.2.2; rw [show esz _ = 4 from rfl] at q; have : (2 : Int32).toInt = 2 := rfl; omega) (by omega)) (fun v32 M33 h34 => ?_)
                  obtain ⟨rfl, h34⟩ := h34
                  rw [h34]
                  show ml _ _ _ (183, [(0, .ref m0), (1, .int x1), (2, .int x2)], [.int (ixf f pa x1 2), .ref m0], M) _
                  refine ml_call (a := [.ref m0, .int (ixf f pa x1 2)]) (rest := []) rfl (hR.okc rfl rfl rfl) rfl rfl (rm_tag hR hF hP (by omega)) (fun v35 M36 h37 => ?_)
                  obtain ⟨rfl, h37⟩ := h37
                  rw [h37]
                  show ml _ _ _ (186, [(0, .ref m0), (1, .int x1), (2, .int x2)], [.int (tgf f cp pa (ixf f pa x1 2))], M) _
                  refine ml_st (S' := (188, [(4, .int (tgf f cp pa (ixf f pa x1 2))), (0, .ref m0), (1, .int x1), (2, .int x2)], [], M)) rfl rfl rfl ?_
                  refine ml_st (S' := (190, [(4, .int (tgf f cp pa (ixf f pa x1 2))), (0, .ref m0), (1, .int x1), (2, .int x2)], [.int (tgf f cp pa (ixf f pa x1 2))], M)) rfl rfl rfl ?_
                  refine ml_if (S1 := (227, [], [], M)) (S2 := (193, [(4, .int (tgf f cp pa (ixf f pa x1 2))), (0, .ref m0), (1, .int x1), (2, .int x2)], [], M)) rfl rfl rfl (fun c_190 => ?_) (fun c_190 => ?_)
                  · have c_190 : (tgf f cp pa (ixf f pa x1 2)) = 0 := of_decide_eq_true c_190
                    refine ml_st (S' := (228, [], [.int 0], M)) rfl rfl rfl ?_
                    exact ml_ret rfl (r_z (Or.inl rfl)) (⟨⟨_, rfl, Or.inl rfl, Or.inl rfl⟩, rfl⟩)
                  · have c_190 : ¬ ((tgf f cp pa (ixf f pa x1 2)) = 0) := of_decide_eq_false c_190
                    refine ml_blk 2 (S' := (197, [(4, .int (tgf f cp pa (ixf f pa x1 2))), (0, .ref m0), (1, .int x1), (2, .int x2)], [.int 9, .int (tgf f cp pa (ixf f pa x1 2))], M)) rfl ?_
                    refine ml_if2 (S1 := (223, [], [], M)) (S2 := (200, [(4, .int (tgf f cp pa (ixf f pa x1 2))), (0, .ref m0), (1, .int x1), (2, .int x2)], [], M)) rfl rfl rfl (fun c_197 => ?_) (fun c_197 => ?_)
                    · have c_197 : (tgf f cp pa (ixf f pa x1 2)) < 9 := of_decide_eq_true c_197
                      refine ml_st (S' := (224, [], [.int 1], M)) rfl rfl rfl ?_
                      refine ml_st (S' := (228, [], [.int 1], M)) rfl rfl rfl ?_
                      exact ml_ret rfl (r_z (Or.inr rfl)) (⟨⟨_, rfl, Or.inr rfl, Or.inr (IXP_15 (Decidable.not_not.mp c_173) (fun h => absurd h (fun q => by have := i_lt c_197; have q1 := q.1; have : (9 : Int32).toInt = 9 := rfl; omega)))⟩, rfl⟩)
                    · have c_197 : ¬ ((tgf f cp pa (ixf f pa x1 2)) < 9) := of_decide_eq_false c_197
                      refine ml_blk 2 (S' := (204, [(4, .int (tgf f cp pa (ixf f pa x1 2))), (0, .ref m0), (1, .int x1), (2, .int x2)], [.int 11, .int (tgf f cp pa (ixf f pa x1 2))], M)) rfl ?_
                      refine ml_if2 (S1 := (223, [], [], M)) (S2 := (207, [(4, .int (tgf f cp pa (ixf f pa x1 2))), (0, .ref m0), (1, .int x1), (2, .int x2)], [], M)) rfl rfl rfl (fun c_204 => ?_) (fun c_204 => ?_)
                      · have c_204 : 11 < (tgf f cp pa (ixf f pa x1 2)) := of_decide_eq_true c_204
                        refine ml_st (S' := (224, [], [.int 1], M)) rfl rfl rfl ?_
                        refine ml_st (S' := (228, [], [.int 1], M)) rfl rfl rfl ?_
                        exact ml_ret rfl (r_z (Or.inr rfl)) (⟨⟨_, rfl, Or.inr rfl, Or.inr (IXP_15 (Decidable.not_not.mp c_173) (fun h => absurd h (fun q => by have := i_lt c_204; have q1 := q.2; have : (11 : Int32).toInt = 11 := rfl; omega)))⟩, rfl⟩)
                      · have c_204 : ¬ (11 < (tgf f cp pa (ixf f pa x1 2))) := of_decide_eq_false c_204
                        refine ml_blk 3 (S' := (210, [(4, .int (tgf f cp pa (ixf f pa x1 2))), (0, .ref m0), (1, .int x1), (2, .int x2)], [.int x1, .ref m0, .ref m0], M)) rfl ?_
                        refine ml_st (S' := (211, [(4, .int (tgf f cp pa (ixf f pa x1 2))), (0, .ref m0), (1, .int x1), (2, .int x2)], [.int 2, .int x1, .ref m0, .ref m0], M)) rfl rfl rfl ?_
                        refine ml_call (a := [.ref m0, .int x1, .int 2]) (rest := [.ref m0]) rfl (hR.okc rfl rfl rfl) rfl rfl (rm_index hR hF hP ((hP.tg (ht.trans (Decidable.not_not.mp c_173)) (by decide)).1) ((hP.tg (ht.trans (Decidable.not_not.mp c_173)) (by decide)).2.1) ((hP.tg (ht.trans (Decidable.not_not.mp c_173)) (by decide)).2.2.1) (by decide) (by have q := (hP.tg (ht.trans (Decidable.not_not.mp c_173)) (by decide)).2.2.2.2; rw [show esz _ = 4 from rfl] at q; have : (2 : Int32).toInt = 2 := rfl; omega) (by omega)) (fun v38 M39 h40 => ?_)
                        obtain ⟨rfl, h40⟩ := h40
                        rw [h40]
                        show ml _ _ _ (214, [(4, .int (tgf f cp pa (ixf f pa x1 2))), (0, .ref m0), (1, .int x1), (2, .int x2)], [.int (ixf f pa x1 2), .ref m0], M) _
                        refine ml_blk 2 (S' := (217, [(4, .int (tgf f cp pa (ixf f pa x1 2))), (0, .ref m0), (1, .int x1), (2, .int x2)], [.int 0, .int (tgf f cp pa (ixf f pa x1 2)), .int (ixf f pa x1 2), .ref m0], M)) rfl ?_
                        refine ml_call (a := [.ref m0, .int (ixf f pa x1 2), .int (tgf f cp pa (ixf f pa x1 2)), .int 0]) (rest := []) rfl (hR.okc rfl rfl rfl) rfl rfl (rm_indexes1 hR hF hP (rfl) (⟨by have q := i_nlt c_197; have : (9 : Int32).toInt = 9 := rfl; omega, by have q := i_nlt c_204; have : (11 : Int32).toInt = 11 := rfl; omega⟩) (by omega)) (fun v41 M42 h43 => ?_)
                        obtain ⟨⟨u44, rfl, z45, w46⟩, h43⟩ := h43
                        rw [h43]
                        show ml _ _ _ (220, [(4, .int (tgf f cp pa (ixf f pa x1 2))), (0, .ref m0), (1, .int x1), (2, .int x2)], [.int u44], M) _
                        refine ml_if (S1 := (227, [], [], M)) (S2 := (223, [], [], M)) rfl rfl rfl (fun c_220 => ?_) (fun c_220 => ?_)
                        · have c_220 : u44 = 0 := of_decide_eq_true c_220
                          refine ml_st (S' := (228, [], [.int 0], M)) rfl rfl rfl ?_
                          exact ml_ret rfl (r_z (Or.inl rfl)) (⟨⟨_, rfl, Or.inl rfl, Or.inl rfl⟩, rfl⟩)
                        · have c_220 : ¬ (u44 = 0) := of_decide_eq_false c_220
                          refine ml_st (S' := (224, [], [.int 1], M)) rfl rfl rfl ?_
                          refine ml_st (S' := (228, [], [.int 1], M)) rfl rfl rfl ?_
                          exact ml_ret rfl (r_z (Or.inr rfl)) (⟨⟨_, rfl, Or.inr rfl, Or.inr (IXP_15 (Decidable.not_not.mp c_173) (fun h => (w46.resolve_left c_220).2.2.1 h))⟩, rfl⟩)
              · have c_133 : ¬ (¬ x2 = 12) := of_decide_eq_false c_133
                refine ml_blk 3 (S' := (139, [(0, .ref m0), (1, .int x1), (2, .int x2)], [.int x1, .ref m0, .ref m0], M)) rfl ?_
                refine ml_st (S' := (140, [(0, .ref m0), (1, .int x1), (2, .int x2)], [.int 1, .int x1, .ref m0, .ref m0], M)) rfl rfl rfl ?_
                refine ml_call (a := [.ref m0, .int x1, .int 1]) (rest := [.ref m0]) rfl (hR.okc rfl rfl rfl) rfl rfl (rm_index hR hF hP ((hP.tg (ht.trans (Decidable.not_not.mp c_133)) (by decide)).1) ((hP.tg (ht.trans (Decidable.not_not.mp c_133)) (by decide)).2.1) ((hP.tg (ht.trans (Decidable.not_not.mp c_133)) (by decide)).2.2.1) (by decide) (by have q := (hP.tg (ht.trans (Decidable.not_not.mp c_133)) (by decide)).2.2.2.2; rw [show esz _ = 5 from rfl] at q; have : (1 : Int32).toInt = 1 := rfl; omega) (by omega)) (fun v47 M48 h49 => ?_)
                obtain ⟨rfl, h49⟩ := h49
                rw [h49]
                show ml _ _ _ (143, [(0, .ref m0), (1, .int x1), (2, .int x2)], [.int (ixf f pa x1 1), .ref m0], M) _
                refine ml_call (a := [.ref m0, .int (ixf f pa x1 1)]) (rest := []) rfl (hR.okc rfl rfl rfl) rfl rfl (rm_tag hR hF hP (by omega)) (fun v50 M51 h52 => ?_)
                obtain ⟨rfl, h52⟩ := h52
                rw [h52]
                show ml _ _ _ (146, [(0, .ref m0), (1, .int x1), (2, .int x2)], [.int (tgf f cp pa (ixf f pa x1 1))], M) _
                refine ml_st (S' := (147, [(0, .ref m0), (1, .int x1), (2, .int x2)], [.int 1, .int (tgf f cp pa (ixf f pa x1 1))], M)) rfl rfl rfl ?_
                refine ml_if2 (S1 := (168, [], [], M)) (S2 := (150, [(0, .ref m0), (1, .int x1), (2, .int x2)], [], M)) rfl rfl rfl (fun c_147 => ?_) (fun c_147 => ?_)
                · have c_147 : ¬ (tgf f cp pa (ixf f pa x1 1)) = 1 := of_decide_eq_true c_147
                  refine ml_st (S' := (169, [], [.int 0], M)) rfl rfl rfl ?_
                  exact ml_ret rfl (r_z (Or.inl rfl)) (⟨⟨_, rfl, Or.inl rfl, Or.inl rfl⟩, rfl⟩)
                · have c_147 : ¬ (¬ (tgf f cp pa (ixf f pa x1 1)) = 1) := of_decide_eq_false c_147
                  refine ml_blk 3 (S' := (153, [(0, .ref m0), (1, .int x1), (2, .int x2)], [.int x1, .ref m0, .ref m0], M)) rfl ?_
                  refine ml_st (S' := (154, [(0, .ref m0), (1, .int x1), (2, .int x2)], [.int 3, .int x1, .ref m0, .ref m0], M)) rfl rfl rfl ?_
                  refine ml_call (a := [.ref m0, .int x1, .int 3]) (rest := [.ref m0]) rfl (hR.okc rfl rfl rfl) rfl rfl (rm_index hR hF hP ((hP.tg (ht.trans (Decidable.not_not.mp c_133)) (by decide)).1) ((hP.tg (ht.trans (Decidable.not_not.mp c_133)) (by decide)).2.1) ((hP.tg (ht.trans (Decidable.not_not.mp c_133)) (by decide)).2.2.1) (by decide) (by have q := (hP.tg (ht.trans (Decidable.not_not.mp c_133)) (by decide)).2.2.2.2; rw [show esz _ = 5 from rfl] at q; have : (3 : Int32).toInt = 3 := rfl; omega) (by omega)) (fun v53 M54 h55 => ?_)
                  obtain ⟨rfl, h55⟩ := h55
                  rw [h55]
                  show ml _ _ _ (157, [(0, .ref m0), (1, .int x1), (2, .int x2)], [.int (ixf f pa x1 3), .ref m0], M) _
                  refine ml_call (a := [.ref m0, .int (ixf f pa x1 3)]) (rest := []) rfl (hR.okc rfl rfl rfl) rfl rfl (rm_tag hR hF hP (by omega)) (fun v56 M57 h58 => ?_)
                  obtain ⟨rfl, h58⟩ := h58
                  rw [h58]
                  show ml _ _ _ (160, [(0, .ref m0), (1, .int x1), (2, .int x2)], [.int (tgf f cp pa (ixf f pa x1 3))], M) _
                  refine ml_st (S' := (161, [(0, .ref m0), (1, .int x1), (2, .int x2)], [.int 1, .int (tgf f cp pa (ixf f pa x1 3))], M)) rfl rfl rfl ?_
                  refine ml_if2 (S1 := (168, [], [], M)) (S2 := (164, [(0, .ref m0), (1, .int x1), (2, .int x2)], [], M)) rfl rfl rfl (fun c_161 => ?_) (fun c_161 => ?_)
                  · have c_161 : ¬ (tgf f cp pa (ixf f pa x1 3)) = 1 := of_decide_eq_true c_161
                    refine ml_st (S' := (169, [], [.int 0], M)) rfl rfl rfl ?_
                    exact ml_ret rfl (r_z (Or.inl rfl)) (⟨⟨_, rfl, Or.inl rfl, Or.inl rfl⟩, rfl⟩)
                  · have c_161 : ¬ (¬ (tgf f cp pa (ixf f pa x1 3)) = 1) := of_decide_eq_false c_161
                    refine ml_st (S' := (165, [(0, .ref m0), (1, .int x1), (2, .int x2)], [.int 1], M)) rfl rfl rfl ?_
                    refine ml_st (S' := (169, [], [.int 1], M)) rfl rfl rfl ?_
                    exact ml_ret rfl (r_z (Or.inr rfl)) (⟨⟨_, rfl, Or.inr rfl, Or.inr (IXP_12 (Decidable.not_not.mp c_133) ⟨Decidable.not_not.mp c_147, Decidable.not_not.mp c_161⟩)⟩, rfl⟩)
            refine ml_if2 (S1 := (130, [(0, .ref m0), (1, .int x1), (2, .int x2)], [], M)) (S2 := (56, [(0, .ref m0), (1, .int x1), (2, .int x2), (3, .int x3)], [], M)) rfl rfl rfl (fun c_53 => ?_) (fun c_53 => ?_)
            · have c_53 : x2 < 9 := of_decide_eq_true c_53
              exact J_130  (⟨(fun h => by rcases h with h | h | h | h | h; exact c_3 h; exact c_9 h; exact c_15 h; exact c_21 h; exact c_27 h), fun q => by have := i_lt c_53; have q1 := q.1; have : (9 : Int32).toInt = 9 := rfl; omega⟩)
            · have c_53 : ¬ (x2 < 9) := of_decide_eq_false c_53
              refine ml_blk 2 (S' := (59, [(0, .ref m0), (1, .int x1), (2, .int x2), (3, .int x3)], [.int 11, .int x2], M)) rfl ?_
              refine ml_if2 (S1 := (130, [(0, .ref m0), (1, .int x1), (2, .int x2)], [], M)) (S2 := (62, [(0, .ref m0), (1, .int x1), (2, .int x2), (3, .int x3)], [], M)) rfl rfl rfl (fun c_59 => ?_) (fun c_59 => ?_)
              · have c_59 : 11 < x2 := of_decide_eq_true c_59
                exact J_130  (⟨(fun h => by rcases h with h | h | h | h | h; exact c_3 h; exact c_9 h; exact c_15 h; exact c_21 h; exact c_27 h), fun q => by have := i_lt c_59; have q1 := q.2; have : (11 : Int32).toInt = 11 := rfl; omega⟩)
              · have c_59 : ¬ (11 < x2) := of_decide_eq_false c_59
                have ht9 : t9 x2 := ⟨by have q := i_nlt c_53; have : (9 : Int32).toInt = 9 := rfl; omega, by have q := i_nlt c_59; have : (11 : Int32).toInt = 11 := rfl; omega⟩
                refine ml_blk 3 (S' := (65, [(0, .ref m0), (1, .int x1), (2, .int x2), (3, .int x3)], [.int x1, .ref m0, .ref m0], M)) rfl ?_
                refine ml_st (S' := (66, [(0, .ref m0), (1, .int x1), (2, .int x2), (3, .int x3)], [.int 1, .int x1, .ref m0, .ref m0], M)) rfl rfl rfl ?_
                refine ml_call (a := [.ref m0, .int x1, .int 1]) (rest := [.ref m0]) rfl (hR.okc rfl rfl rfl) rfl rfl (rm_index hR hF hP ((hP.tg ht (t9_n0 ht9)).1) ((hP.tg ht (t9_n0 ht9)).2.1) ((hP.tg ht (t9_n0 ht9)).2.2.1) (by decide) (by have q := (hP.tg ht (t9_n0 ht9)).2.2.2.2; rw [show esz _ = 5 from esz_9 ht9] at q; have : (1 : Int32).toInt = 1 := rfl; omega) (by omega)) (fun v59 M60 h61 => ?_)
                obtain ⟨rfl, h61⟩ := h61
                rw [h61]
                show ml _ _ _ (69, [(0, .ref m0), (1, .int x1), (2, .int x2), (3, .int x3)], [.int (ixf f pa x1 1), .ref m0], M) _
                refine ml_call (a := [.ref m0, .int (ixf f pa x1 1)]) (rest := []) rfl (hR.okc rfl rfl rfl) rfl rfl (rm_tag hR hF hP (by omega)) (fun v62 M63 h64 => ?_)
                obtain ⟨rfl, h64⟩ := h64
                rw [h64]
                show ml _ _ _ (72, [(0, .ref m0), (1, .int x1), (2, .int x2), (3, .int x3)], [.int (tgf f cp pa (ixf f pa x1 1))], M) _
                refine ml_st (S' := (74, [(0, .ref m0), (1, .int x1), (2, .int x2), (3, .int x3)], [.int 7, .int (tgf f cp pa (ixf f pa x1 1))], M)) rfl rfl rfl ?_
                refine ml_if2 (S1 := (128, [], [], M)) (S2 := (77, [(0, .ref m0), (1, .int x1), (2, .int x2), (3, .int x3)], [], M)) rfl rfl rfl (fun c_74 => ?_) (fun c_74 => ?_)
                · have c_74 : ¬ (tgf f cp pa (ixf f pa x1 1)) = 7 := of_decide_eq_true c_74
                  refine ml_st (S' := (129, [], [.int 0], M)) rfl rfl rfl ?_
                  exact ml_ret rfl (r_z (Or.inl rfl)) (⟨⟨_, rfl, Or.inl rfl, Or.inl rfl⟩, rfl⟩)
                · have c_74 : ¬ (¬ (tgf f cp pa (ixf f pa x1 1)) = 7) := of_decide_eq_false c_74
                  refine ml_blk 3 (S' := (80, [(0, .ref m0), (1, .int x1), (2, .int x2), (3, .int x3)], [.int x1, .ref m0, .ref m0], M)) rfl ?_
                  refine ml_st (S' := (81, [(0, .ref m0), (1, .int x1), (2, .int x2), (3, .int x3)], [.int 1, .int x1, .ref m0, .ref m0], M)) rfl rfl rfl ?_
                  refine ml_call (a := [.ref m0, .int x1, .int 1]) (rest := [.ref m0]) rfl (hR.okc rfl rfl rfl) rfl rfl (rm_index hR hF hP ((hP.tg ht (t9_n0 ht9)).1) ((hP.tg ht (t9_n0 ht9)).2.1) ((hP.tg ht (t9_n0 ht9)).2.2.1) (by decide) (by have q := (hP.tg ht (t9_n0 ht9)).2.2.2.2; rw [show esz _ = 5 from esz_9 ht9] at q; have : (1 : Int32).toInt = 1 := rfl; omega) (by omega)) (fun v65 M66 h67 => ?_)
                  obtain ⟨rfl, h67⟩ := h67
                  rw [h67]
                  show ml _ _ _ (84, [(0, .ref m0), (1, .int x1), (2, .int x2), (3, .int x3)], [.int (ixf f pa x1 1), .ref m0], M) _
                  refine ml_blk 2 (S' := (87, [(0, .ref m0), (1, .int x1), (2, .int x2), (3, .int x3)], [.int 0, .int 7, .int (ixf f pa x1 1), .ref m0], M)) rfl ?_
                  refine ml_call (a := [.ref m0, .int (ixf f pa x1 1), .int 7, .int 0]) (rest := []) rfl (hR.okc rfl rfl rfl) rfl rfl (rm_indexes0 hR hF hP (Decidable.not_not.mp c_74) (Or.inl rfl) (by omega)) (fun v68 M69 h70 => ?_)
                  obtain ⟨⟨u71, rfl, z72, w73⟩, h70⟩ := h70
                  rw [h70]
                  show ml _ _ _ (90, [(0, .ref m0), (1, .int x1), (2, .int x2), (3, .int x3)], [.int u71], M) _
                  refine ml_if (S1 := (128, [], [], M)) (S2 := (93, [(0, .ref m0), (1, .int x1), (2, .int x2), (3, .int x3)], [], M)) rfl rfl rfl (fun c_90 => ?_) (fun c_90 => ?_)
                  · have c_90 : u71 = 0 := of_decide_eq_true c_90
                    refine ml_st (S' := (129, [], [.int 0], M)) rfl rfl rfl ?_
                    exact ml_ret rfl (r_z (Or.inl rfl)) (⟨⟨_, rfl, Or.inl rfl, Or.inl rfl⟩, rfl⟩)
                  · have c_90 : ¬ (u71 = 0) := of_decide_eq_false c_90
                    refine ml_blk 3 (S' := (96, [(0, .ref m0), (1, .int x1), (2, .int x2), (3, .int x3)], [.int x1, .ref m0, .ref m0], M)) rfl ?_
                    refine ml_st (S' := (97, [(0, .ref m0), (1, .int x1), (2, .int x2), (3, .int x3)], [.int 3, .int x1, .ref m0, .ref m0], M)) rfl rfl rfl ?_
                    refine ml_call (a := [.ref m0, .int x1, .int 3]) (rest := [.ref m0]) rfl (hR.okc rfl rfl rfl) rfl rfl (rm_index hR hF hP ((hP.tg ht (t9_n0 ht9)).1) ((hP.tg ht (t9_n0 ht9)).2.1) ((hP.tg ht (t9_n0 ht9)).2.2.1) (by decide) (by have q := (hP.tg ht (t9_n0 ht9)).2.2.2.2; rw [show esz _ = 5 from esz_9 ht9] at q; have : (3 : Int32).toInt = 3 := rfl; omega) (by omega)) (fun v74 M75 h76 => ?_)
                    obtain ⟨rfl, h76⟩ := h76
                    rw [h76]
                    show ml _ _ _ (100, [(0, .ref m0), (1, .int x1), (2, .int x2), (3, .int x3)], [.int (ixf f pa x1 3), .ref m0], M) _
                    refine ml_call (a := [.ref m0, .int (ixf f pa x1 3)]) (rest := []) rfl (hR.okc rfl rfl rfl) rfl rfl (rm_tag hR hF hP (by omega)) (fun v77 M78 h79 => ?_)
                    obtain ⟨rfl, h79⟩ := h79
                    rw [h79]
                    show ml _ _ _ (103, [(0, .ref m0), (1, .int x1), (2, .int x2), (3, .int x3)], [.int (tgf f cp pa (ixf f pa x1 3))], M) _
                    refine ml_st (S' := (105, [(0, .ref m0), (1, .int x1), (2, .int x2), (3, .int x3)], [.int 12, .int (tgf f cp pa (ixf f pa x1 3))], M)) rfl rfl rfl ?_
                    refine ml_if2 (S1 := (128, [], [], M)) (S2 := (108, [(0, .ref m0), (1, .int x1), (2, .int x2), (3, .int x3)], [], M)) rfl rfl rfl (fun c_105 => ?_) (fun c_105 => ?_)
                    · have c_105 : ¬ (tgf f cp pa (ixf f pa x1 3)) = 12 := of_decide_eq_true c_105
                      refine ml_st (S' := (129, [], [.int 0], M)) rfl rfl rfl ?_
                      exact ml_ret rfl (r_z (Or.inl rfl)) (⟨⟨_, rfl, Or.inl rfl, Or.inl rfl⟩, rfl⟩)
                    · have c_105 : ¬ (¬ (tgf f cp pa (ixf f pa x1 3)) = 12) := of_decide_eq_false c_105
                      refine ml_blk 3 (S' := (111, [(0, .ref m0), (1, .int x1), (2, .int x2), (3, .int x3)], [.int x1, .ref m0, .ref m0], M)) rfl ?_
                      refine ml_st (S' := (112, [(0, .ref m0), (1, .int x1), (2, .int x2), (3, .int x3)], [.int 3, .int x1, .ref m0, .ref m0], M)) rfl rfl rfl ?_
                      refine ml_call (a := [.ref m0, .int x1, .int 3]) (rest := [.ref m0]) rfl (hR.okc rfl rfl rfl) rfl rfl (rm_index hR hF hP ((hP.tg ht (t9_n0 ht9)).1) ((hP.tg ht (t9_n0 ht9)).2.1) ((hP.tg ht (t9_n0 ht9)).2.2.1) (by decide) (by have q := (hP.tg ht (t9_n0 ht9)).2.2.2.2; rw [show esz _ = 5 from esz_9 ht9] at q; have : (3 : Int32).toInt = 3 := rfl; omega) (by omega)) (fun v80 M81 h82 => ?_)
                      obtain ⟨rfl, h82⟩ := h82
                      rw [h82]
                      show ml _ _ _ (115, [(0, .ref m0), (1, .int x1), (2, .int x2), (3, .int x3)], [.int (ixf f pa x1 3), .ref m0], M) _
                      refine ml_blk 2 (S' := (118, [(0, .ref m0), (1, .int x1), (2, .int x2), (3, .int x3)], [.int 0, .int 12, .int (ixf f pa x1 3), .ref m0], M)) rfl ?_
                      refine ml_call (a := [.ref m0, .int (ixf f pa x1 3), .int 12, .int 0]) (rest := []) rfl (hR.okc rfl rfl rfl) rfl rfl (rm_indexes0 hR hF hP (Decidable.not_not.mp c_105) (Or.inr rfl) (by omega)) (fun v83 M84 h85 => ?_)
                      obtain ⟨⟨u86, rfl, z87, w88⟩, h85⟩ := h85
                      rw [h85]
                      show ml _ _ _ (121, [(0, .ref m0), (1, .int x1), (2, .int x2), (3, .int x3)], [.int u86], M) _
                      refine ml_if (S1 := (128, [], [], M)) (S2 := (124, [(0, .ref m0), (1, .int x1), (2, .int x2), (3, .int x3)], [], M)) rfl rfl rfl (fun c_121 => ?_) (fun c_121 => ?_)
                      · have c_121 : u86 = 0 := of_decide_eq_true c_121
                        refine ml_st (S' := (129, [], [.int 0], M)) rfl rfl rfl ?_
                        exact ml_ret rfl (r_z (Or.inl rfl)) (⟨⟨_, rfl, Or.inl rfl, Or.inl rfl⟩, rfl⟩)
                      · have c_121 : ¬ (u86 = 0) := of_decide_eq_false c_121
                        refine ml_st (S' := (125, [(0, .ref m0), (1, .int x1), (2, .int x2), (3, .int x3)], [.int 1], M)) rfl rfl rfl ?_
                        refine ml_st (S' := (129, [], [.int 1], M)) rfl rfl rfl ?_
                        exact ml_ret rfl (r_z (Or.inr rfl)) (⟨⟨_, rfl, Or.inr rfl, Or.inr (IXP_9 ht9 ⟨Decidable.not_not.mp c_74, (w73.resolve_left c_90).1 (Or.inl rfl), Decidable.not_not.mp c_105, (w88.resolve_left c_121).2.1 rfl⟩)⟩, rfl⟩)
          · have c_27 : ¬ (¬ x2 = 20) := of_decide_eq_false c_27
            exact J_30  (Or.inr (Or.inr (Or.inr (Or.inr (Decidable.not_not.mp c_27)))))
end
section
/-! the reference: the pool is checked (laid by wip/p2/c67.py) -/
set_option maxHeartbeats 2000000 in
theorem rm_plainClass {g : xe_G}  {m0 : Nat} {q : Nat → Nat} {z : Nat × Nat} {I : rI} {R : rR} {M : mi_H} {x1 : Int32} {n : Nat} {f : Nat → Int32} {S cN : Nat} {sa sl ch : Nat → Int32} {cp mj : Int32} {pa py : Nat → Int32}  (hR : RS g m0 q z I R M) (hF : FK n f I R) (hY : SK S cN sa sl ch I R) (hP : PK n f S cp mj pa py I R) (hE : EK f cp pa py sa sl ch) {d : Nat} (hd : 5 ≤ d) : mt (mT g) d 235 [.ref m0, .int x1] M (fun v M' => (∃ x : Int32, v = some (.int x) ∧ (x = 0 ∨ x = 1) ∧ (x = 0 ∨ tgf f cp pa x1 = 7)) ∧ M' = M) := by
  obtain ⟨d, rfl⟩ : ∃ e, d = e + 1 := ⟨d - 1, by omega⟩
  refine mt_in (b := mb_235 g) rfl rfl ?_
  show ml (mT g) d (mb_235 g).2 (0, [(0, .ref m0), (1, .int x1)], [], M) _
  refine ml_blk 2 (S' := (2, [(0, .ref m0), (1, .int x1)], [.int x1, .ref m0], M)) rfl ?_
  refine ml_call (a := [.ref m0, .int x1]) (rest := []) rfl (hR.okc rfl rfl rfl) rfl rfl (rm_tag hR hF hP (by omega)) (fun v11 M12 h13 => ?_)
  obtain ⟨rfl, h13⟩ := h13
  rw [h13]
  show ml _ _ _ (5, [(0, .ref m0), (1, .int x1)], [.int (tgf f cp pa x1)], M) _
  refine ml_st (S' := (7, [(0, .ref m0), (1, .int x1)], [.int 7, .int (tgf f cp pa x1)], M)) rfl rfl rfl ?_
  refine ml_if2 (S1 := (29, [], [], M)) (S2 := (10, [(0, .ref m0), (1, .int x1)], [], M)) rfl rfl rfl (fun c_7 => ?_) (fun c_7 => ?_)
  · have c_7 : ¬ (tgf f cp pa x1) = 7 := of_decide_eq_true c_7
    refine ml_st (S' := (30, [], [.int 0], M)) rfl rfl rfl ?_
    exact ml_ret rfl (r_z (Or.inl rfl)) (⟨⟨_, rfl, Or.inl rfl, Or.inl rfl⟩, rfl⟩)
  · have c_7 : ¬ (¬ (tgf f cp pa x1) = 7) := of_decide_eq_false c_7
    have h7 : tgf f cp pa x1 = 7 := Decidable.not_not.mp c_7
    have he := hE x1 (by rw [h7]; decide)
    have hi7 : ix7 f cp pa x1 := he.1.1 (by rw [h7]; exact Or.inl rfl)
    have hy := hP.y hi7
    refine ml_blk 3 (S' := (13, [(0, .ref m0), (1, .int x1)], [.int x1, .ref m0, .ref m0], M)) rfl ?_
    refine ml_call (a := [.ref m0, .int x1]) (rest := [.ref m0]) rfl (hR.okc rfl rfl rfl) rfl rfl (rm_className hR hF hP (h7) (hi7) (by omega)) (fun v14 M15 h16 => ?_)
    obtain ⟨rfl, h16⟩ := h16
    rw [h16]
    show ml _ _ _ (16, [(0, .ref m0), (1, .int x1)], [.int (pyf py (ixf f pa x1 1)), .ref m0], M) _
    refine ml_st (S' := (17, [(0, .ref m0), (1, .int x1)], [.int 0, .int (pyf py (ixf f pa x1 1)), .ref m0], M)) rfl rfl rfl ?_
    refine ml_call (a := [.ref m0, .int (pyf py (ixf f pa x1 1)), .int 0]) (rest := []) rfl (hR.okc rfl rfl rfl) rfl rfl (rm_at hR hY (hy.2.2.1) (hy.2.2.2) (by decide) (by have q := he.2.1 h7; have : (0 : Int32).toInt = 0 := rfl; omega) (by omega)) (fun v17 M18 h19 => ?_)
    obtain ⟨rfl, h19⟩ := h19
    rw [h19]
    show ml _ _ _ (20, [(0, .ref m0), (1, .int x1)], [.int (tx sa ch (pyf py (ixf f pa x1 1)) 0)], M) _
    refine ml_st (S' := (22, [(0, .ref m0), (1, .int x1)], [.int 91, .int (tx sa ch (pyf py (ixf f pa x1 1)) 0)], M)) rfl rfl rfl ?_
    refine ml_if2 (S1 := (29, [], [], M)) (S2 := (25, [(0, .ref m0), (1, .int x1)], [], M)) rfl rfl rfl (fun c_22 => ?_) (fun c_22 => ?_)
    · have c_22 : (tx sa ch (pyf py (ixf f pa x1 1)) 0) = 91 := of_decide_eq_true c_22
      refine ml_st (S' := (30, [], [.int 0], M)) rfl rfl rfl ?_
      exact ml_ret rfl (r_z (Or.inl rfl)) (⟨⟨_, rfl, Or.inl rfl, Or.inl rfl⟩, rfl⟩)
    · have c_22 : ¬ ((tx sa ch (pyf py (ixf f pa x1 1)) 0) = 91) := of_decide_eq_false c_22
      refine ml_st (S' := (26, [(0, .ref m0), (1, .int x1)], [.int 1], M)) rfl rfl rfl ?_
      refine ml_st (S' := (30, [], [.int 1], M)) rfl rfl rfl ?_
      exact ml_ret rfl (r_z (Or.inr rfl)) (⟨⟨_, rfl, Or.inr rfl, Or.inr h7⟩, rfl⟩)
set_option maxHeartbeats 2000000 in
theorem rm_handleEntry {g : xe_G}  {m0 : Nat} {q : Nat → Nat} {z : Nat × Nat} {I : rI} {R : rR} {M : mi_H} {x1 si : Int32} {n : Nat} {f : Nat → Int32} {S cN : Nat} {sa sl ch : Nat → Int32} {cp mj : Int32} {pa py : Nat → Int32}  (hR : RS g m0 q z I R M) (hk9 : I 9 = some si) (hF : FK n f I R) (hY : SK S cN sa sl ch I R) (hP : PK n f S cp mj pa py I R) (ht : tgf f cp pa x1 = 15) (hix : IXP f cp pa x1 15) {d : Nat} (hd : 4 ≤ d) : mt (mT g) d 212 [.ref m0, .int x1] M (fun v M' => (∃ x : Int32, v = some (.int x) ∧ (x = 0 ∨ x = 1)) ∧ M' = M) := by
  obtain ⟨d, rfl⟩ : ∃ e, d = e + 1 := ⟨d - 1, by omega⟩
  refine mt_in (b := mb_212 g) rfl rfl ?_
  show ml (mT g) d (mb_212 g).2 (0, [(0, .ref m0), (1, .int x1)], [], M) _
  have hn := hF.1
  have h15 := hP.tg ht (by decide)
  have q15 : (pa (Int32.toNatClampNeg x1)).toInt + 4 ≤ n := h15.2.2.2.2
  have ea : (pa (Int32.toNatClampNeg x1) + 1).toInt = (pa (Int32.toNatClampNeg x1)).toInt + 1 := i_add (by have : (1 : Int32).toInt = 1 := rfl; have := h15.2.2.1; omega) (by have : (1 : Int32).toInt = 1 := rfl; omega)
  refine ml_blk 2 (S' := (2, [(0, .ref m0), (1, .int x1)], [.ref m0, .ref m0], M)) rfl ?_
  refine rg_ref (S' := (5, [(0, .ref m0), (1, .int x1)], [.ref (q 21), .ref m0], M)) rfl hR rfl rfl ?_
  refine ml_st (S' := (6, [(0, .ref m0), (1, .int x1)], [.ref m0, .ref (q 21), .ref m0], M)) rfl rfl rfl ?_
  refine rg_int (S' := (9, [(0, .ref m0), (1, .int x1)], [.int 0, .ref (q 21), .ref m0], M)) rfl hR rfl (hP.1) rfl ?_
  refine ml_blk 2 (S' := (11, [(0, .ref m0), (1, .int x1)], [.int (0 + x1), .ref (q 21), .ref m0], M)) rfl ?_
  refine ra_ld (k := 21) (S' := (12, [(0, .ref m0), (1, .int x1)], [.int (pa (Int32.toNatClampNeg x1)), .ref m0], M)) rfl hR rfl ((hP.e h15.1 h15.2.1).2.1) ((hP.e h15.1 h15.2.1).1) rfl ?_
  refine ml_blk 2 (S' := (14, [(0, .ref m0), (1, .int x1)], [.int ((pa (Int32.toNatClampNeg x1)) + 1), .ref m0], M)) rfl ?_
  refine ml_call (a := [.ref m0, .int ((pa (Int32.toNatClampNeg x1)) + 1)]) (rest := []) rfl (hR.okc rfl rfl rfl) rfl rfl (rm_u1 hR hF (by have := h15.2.2.1; omega) (by omega) (by omega)) (fun v11 M12 h13 => ?_)
  obtain ⟨rfl, h13⟩ := h13
  rw [h13]
  show ml _ _ _ (17, [(0, .ref m0), (1, .int x1)], [.int (f1 f ((pa (Int32.toNatClampNeg x1)) + 1))], M) _
  refine ml_st (S' := (18, [(2, .int (f1 f ((pa (Int32.toNatClampNeg x1)) + 1))), (0, .ref m0), (1, .int x1)], [], M)) rfl rfl rfl ?_
  refine ml_blk 3 (S' := (21, [(2, .int (f1 f ((pa (Int32.toNatClampNeg x1)) + 1))), (0, .ref m0), (1, .int x1)], [.int 2, .int x1, .ref m0], M)) rfl ?_
  refine ml_call (a := [.ref m0, .int x1, .int 2]) (rest := []) rfl (hR.okc rfl rfl rfl) rfl rfl (rm_index hR hF hP (h15.1) (h15.2.1) (h15.2.2.1) (by decide) (by have : (2 : Int32).toInt = 2 := rfl; omega) (by omega)) (fun v14 M15 h16 => ?_)
  obtain ⟨rfl, h16⟩ := h16
  rw [h16]
  show ml _ _ _ (24, [(2, .int (f1 f ((pa (Int32.toNatClampNeg x1)) + 1))), (0, .ref m0), (1, .int x1)], [.int (ixf f pa x1 2)], M) _
  refine ml_st (S' := (25, [(3, .int (ixf f pa x1 2)), (2, .int (f1 f ((pa (Int32.toNatClampNeg x1)) + 1))), (0, .ref m0), (1, .int x1)], [], M)) rfl rfl rfl ?_
  refine ml_blk 2 (S' := (27, [(3, .int (ixf f pa x1 2)), (2, .int (f1 f ((pa (Int32.toNatClampNeg x1)) + 1))), (0, .ref m0), (1, .int x1)], [.int (ixf f pa x1 2), .ref m0], M)) rfl ?_
  refine ml_call (a := [.ref m0, .int (ixf f pa x1 2)]) (rest := []) rfl (hR.okc rfl rfl rfl) rfl rfl (rm_tag hR hF hP (by omega)) (fun v17 M18 h19 => ?_)
  obtain ⟨rfl, h19⟩ := h19
  rw [h19]
  show ml _ _ _ (30, [(3, .int (ixf f pa x1 2)), (2, .int (f1 f ((pa (Int32.toNatClampNeg x1)) + 1))), (0, .ref m0), (1, .int x1)], [.int (tgf f cp pa (ixf f pa x1 2))], M) _
  refine ml_st (S' := (32, [(4, .int (tgf f cp pa (ixf f pa x1 2))), (3, .int (ixf f pa x1 2)), (2, .int (f1 f ((pa (Int32.toNatClampNeg x1)) + 1))), (0, .ref m0), (1, .int x1)], [], M)) rfl rfl rfl ?_
  refine ml_blk 2 (S' := (34, [(4, .int (tgf f cp pa (ixf f pa x1 2))), (3, .int (ixf f pa x1 2)), (2, .int (f1 f ((pa (Int32.toNatClampNeg x1)) + 1))), (0, .ref m0), (1, .int x1)], [.int 1, .int (f1 f ((pa (Int32.toNatClampNeg x1)) + 1))], M)) rfl ?_
  refine ml_if2 (S1 := (43, [], [], M)) (S2 := (37, [(4, .int (tgf f cp pa (ixf f pa x1 2))), (3, .int (ixf f pa x1 2)), (2, .int (f1 f ((pa (Int32.toNatClampNeg x1)) + 1))), (0, .ref m0), (1, .int x1)], [], M)) rfl rfl rfl (fun c_34 => ?_) (fun c_34 => ?_)
  · have c_34 : (f1 f ((pa (Int32.toNatClampNeg x1)) + 1)) < 1 := of_decide_eq_true c_34
    refine ml_st (S' := (44, [], [.int 0], M)) rfl rfl rfl ?_
    exact ml_ret rfl (r_z (Or.inl rfl)) (⟨⟨_, rfl, Or.inl rfl⟩, rfl⟩)
  · have c_34 : ¬ ((f1 f ((pa (Int32.toNatClampNeg x1)) + 1)) < 1) := of_decide_eq_false c_34
    refine ml_blk 2 (S' := (40, [(4, .int (tgf f cp pa (ixf f pa x1 2))), (3, .int (ixf f pa x1 2)), (2, .int (f1 f ((pa (Int32.toNatClampNeg x1)) + 1))), (0, .ref m0), (1, .int x1)], [.int 9, .int (f1 f ((pa (Int32.toNatClampNeg x1)) + 1))], M)) rfl ?_
    refine ml_if2 (S1 := (45, [(4, .int (tgf f cp pa (ixf f pa x1 2))), (3, .int (ixf f pa x1 2)), (2, .int (f1 f ((pa (Int32.toNatClampNeg x1)) + 1))), (0, .ref m0), (1, .int x1)], [], M)) (S2 := (43, [], [], M)) rfl rfl rfl (fun c_40 => ?_) (fun c_40 => ?_)
    · have c_40 : (f1 f ((pa (Int32.toNatClampNeg x1)) + 1)) ≤ 9 := of_decide_eq_true c_40
      refine ml_blk 2 (S' := (47, [(4, .int (tgf f cp pa (ixf f pa x1 2))), (3, .int (ixf f pa x1 2)), (2, .int (f1 f ((pa (Int32.toNatClampNeg x1)) + 1))), (0, .ref m0), (1, .int x1)], [.int 4, .int (f1 f ((pa (Int32.toNatClampNeg x1)) + 1))], M)) rfl ?_
      refine ml_if2 (S1 := (63, [(4, .int (tgf f cp pa (ixf f pa x1 2))), (3, .int (ixf f pa x1 2)), (2, .int (f1 f ((pa (Int32.toNatClampNeg x1)) + 1))), (0, .ref m0), (1, .int x1)], [], M)) (S2 := (50, [(4, .int (tgf f cp pa (ixf f pa x1 2))), (3, .int (ixf f pa x1 2)), (2, .int (f1 f ((pa (Int32.toNatClampNeg x1)) + 1))), (0, .ref m0), (1, .int x1)], [], M)) rfl rfl rfl (fun c_47 => ?_) (fun c_47 => ?_)
      · have c_47 : 4 < (f1 f ((pa (Int32.toNatClampNeg x1)) + 1)) := of_decide_eq_true c_47
        refine ml_blk 2 (S' := (65, [(4, .int (tgf f cp pa (ixf f pa x1 2))), (3, .int (ixf f pa x1 2)), (2, .int (f1 f ((pa (Int32.toNatClampNeg x1)) + 1))), (0, .ref m0), (1, .int x1)], [.int 5, .int (f1 f ((pa (Int32.toNatClampNeg x1)) + 1))], M)) rfl ?_
        have J_125 : (tgf f cp pa (ixf f pa x1 2) = 10 ∨ tgf f cp pa (ixf f pa x1 2) = 11) → ml (mT g) d (mb_212 g).2 (125, [(0, .ref m0), (2, .int (f1 f ((pa (Int32.toNatClampNeg x1)) + 1))), (3, .int (ixf f pa x1 2))], [], M) (fun v M' => (∃ x : Int32, v = some (.int x) ∧ (x = 0 ∨ x = 1)) ∧ M' = M) := by
          intro hj_125
          have hr9 : t9 (tgf f cp pa (ixf f pa x1 2)) := t9_of (Or.inr hj_125)
          have hi9 := hix.2.2.2.1 rfl hr9
          refine ml_blk 3 (S' := (128, [(0, .ref m0), (2, .int (f1 f ((pa (Int32.toNatClampNeg x1)) + 1))), (3, .int (ixf f pa x1 2))], [.ref m0, .ref m0, .ref m0], M)) rfl ?_
          refine ml_blk 2 (S' := (130, [(0, .ref m0), (2, .int (f1 f ((pa (Int32.toNatClampNeg x1)) + 1))), (3, .int (ixf f pa x1 2))], [.int 3, .int (ixf f pa x1 2), .ref m0, .ref m0, .ref m0], M)) rfl ?_
          refine ml_call (a := [.ref m0, .int (ixf f pa x1 2), .int 3]) (rest := [.ref m0, .ref m0]) rfl (hR.okc rfl rfl rfl) rfl rfl (rm_index hR hF hP ((hP.tg rfl (t9_n0 hr9)).1) ((hP.tg rfl (t9_n0 hr9)).2.1) ((hP.tg rfl (t9_n0 hr9)).2.2.1) (by decide) (by have q := (hP.tg rfl (t9_n0 hr9)).2.2.2.2; rw [show esz _ = 5 from esz_9 hr9] at q; have : (3 : Int32).toInt = 3 := rfl; omega) (by omega)) (fun v20 M21 h22 => ?_)
          obtain ⟨rfl, h22⟩ := h22
          rw [h22]
          show ml _ _ _ (133, [(0, .ref m0), (2, .int (f1 f ((pa (Int32.toNatClampNeg x1)) + 1))), (3, .int (ixf f pa x1 2))], [.int (ixf f pa (ixf f pa x1 2) 3), .ref m0, .ref m0], M) _
          refine ml_st (S' := (134, [(0, .ref m0), (2, .int (f1 f ((pa (Int32.toNatClampNeg x1)) + 1))), (3, .int (ixf f pa x1 2))], [.int 1, .int (ixf f pa (ixf f pa x1 2) 3), .ref m0, .ref m0], M)) rfl rfl rfl ?_
          refine ml_call (a := [.ref m0, .int (ixf f pa (ixf f pa x1 2) 3), .int 1]) (rest := [.ref m0]) rfl (hR.okc rfl rfl rfl) rfl rfl (rm_index hR hF hP ((hP.tg hi9.2.2.1 (by decide)).1) ((hP.tg hi9.2.2.1 (by decide)).2.1) ((hP.tg hi9.2.2.1 (by decide)).2.2.1) (by decide) (by have q := (hP.tg hi9.2.2.1 (by decide)).2.2.2.2; rw [show esz _ = 5 from rfl] at q; have : (1 : Int32).toInt = 1 := rfl; omega) (by omega)) (fun v23 M24 h25 => ?_)
          obtain ⟨rfl, h25⟩ := h25
          rw [h25]
          show ml _ _ _ (137, [(0, .ref m0), (2, .int (f1 f ((pa (Int32.toNatClampNeg x1)) + 1))), (3, .int (ixf f pa x1 2))], [.int (ixf f pa (ixf f pa (ixf f pa x1 2) 3) 1), .ref m0], M) _
          refine ml_call (a := [.ref m0, .int (ixf f pa (ixf f pa (ixf f pa x1 2) 3) 1)]) (rest := []) rfl (hR.okc rfl rfl rfl) rfl rfl (rm_symOf hR hP (hi9.2.2.2.1) (by omega)) (fun v26 M27 h28 => ?_)
          obtain ⟨rfl, h28⟩ := h28
          rw [h28]
          show ml _ _ _ (140, [(0, .ref m0), (2, .int (f1 f ((pa (Int32.toNatClampNeg x1)) + 1))), (3, .int (ixf f pa x1 2))], [.int (pyf py (ixf f pa (ixf f pa (ixf f pa x1 2) 3) 1))], M) _
          refine ml_st (S' := (142, [(5, .int (pyf py (ixf f pa (ixf f pa (ixf f pa x1 2) 3) 1))), (0, .ref m0), (2, .int (f1 f ((pa (Int32.toNatClampNeg x1)) + 1))), (3, .int (ixf f pa x1 2))], [], M)) rfl rfl rfl ?_
          refine ml_blk 2 (S' := (145, [(5, .int (pyf py (ixf f pa (ixf f pa (ixf f pa x1 2) 3) 1))), (0, .ref m0), (2, .int (f1 f ((pa (Int32.toNatClampNeg x1)) + 1))), (3, .int (ixf f pa x1 2))], [.int 8, .int (f1 f ((pa (Int32.toNatClampNeg x1)) + 1))], M)) rfl ?_
          refine ml_if2 (S1 := (152, [(5, .int (pyf py (ixf f pa (ixf f pa (ixf f pa x1 2) 3) 1))), (0, .ref m0), (2, .int (f1 f ((pa (Int32.toNatClampNeg x1)) + 1))), (3, .int (ixf f pa x1 2))], [], M)) (S2 := (148, [(5, .int (pyf py (ixf f pa (ixf f pa (ixf f pa x1 2) 3) 1))), (0, .ref m0), (2, .int (f1 f ((pa (Int32.toNatClampNeg x1)) + 1))), (3, .int (ixf f pa x1 2))], [], M)) rfl rfl rfl (fun c_145 => ?_) (fun c_145 => ?_)
          · have c_145 : ¬ (f1 f ((pa (Int32.toNatClampNeg x1)) + 1)) = 8 := of_decide_eq_true c_145
            refine ml_st (S' := (153, [(0, .ref m0), (5, .int (pyf py (ixf f pa (ixf f pa (ixf f pa x1 2) 3) 1)))], [.int 0], M)) rfl rfl rfl ?_
            refine ml_blk 2 (S' := (156, [(0, .ref m0), (5, .int (pyf py (ixf f pa (ixf f pa (ixf f pa x1 2) 3) 1)))], [.ref m0, .int (pyf py (ixf f pa (ixf f pa (ixf f pa x1 2) 3) 1)), .int 0], M)) rfl ?_
            refine rg_int (S' := (159, [(0, .ref m0), (5, .int (pyf py (ixf f pa (ixf f pa (ixf f pa x1 2) 3) 1)))], [.int si, .int (pyf py (ixf f pa (ixf f pa (ixf f pa x1 2) 3) 1)), .int 0], M)) rfl hR rfl (hk9) rfl ?_
            refine ml_if2 (S1 := (166, [(0, .ref m0), (5, .int (pyf py (ixf f pa (ixf f pa (ixf f pa x1 2) 3) 1)))], [.int 0], M)) (S2 := (162, [(0, .ref m0), (5, .int (pyf py (ixf f pa (ixf f pa (ixf f pa x1 2) 3) 1)))], [.int 0], M)) rfl rfl rfl (fun c_159 => ?_) (fun c_159 => ?_)
            · have c_159 : ¬ (pyf py (ixf f pa (ixf f pa (ixf f pa x1 2) 3) 1)) = si := of_decide_eq_true c_159
              refine ml_st (S' := (167, [], [.int 0, .int 0], M)) rfl rfl rfl ?_
              refine ml_if2 (S1 := (174, [], [], M)) (S2 := (170, [], [], M)) rfl rfl rfl (fun c_167 => ?_) (fun c_167 => ?_)
              · have c_167 : ¬ 0 = 0 := of_decide_eq_true c_167
                refine ml_st (S' := (175, [], [.int 0], M)) rfl rfl rfl ?_
                exact ml_ret rfl (r_z (Or.inl rfl)) (⟨⟨_, rfl, Or.inl rfl⟩, rfl⟩)
              · have c_167 : ¬ (¬ 0 = 0) := of_decide_eq_false c_167
                refine ml_st (S' := (171, [], [.int 1], M)) rfl rfl rfl ?_
                refine ml_st (S' := (175, [], [.int 1], M)) rfl rfl rfl ?_
                exact ml_ret rfl (r_z (Or.inr rfl)) (⟨⟨_, rfl, Or.inr rfl⟩, rfl⟩)
            · have c_159 : ¬ (¬ (pyf py (ixf f pa (ixf f pa (ixf f pa x1 2) 3) 1)) = si) := of_decide_eq_false c_159
              refine ml_st (S' := (163, [(0, .ref m0), (5, .int (pyf py (ixf f pa (ixf f pa (ixf f pa x1 2) 3) 1)))], [.int 1, .int 0], M)) rfl rfl rfl ?_
              refine ml_st (S' := (167, [], [.int 1, .int 0], M)) rfl rfl rfl ?_
              refine ml_if2 (S1 := (174, [], [], M)) (S2 := (170, [], [], M)) rfl rfl rfl (fun c_167 => ?_) (fun c_167 => ?_)
              · have c_167 : ¬ 0 = 1 := of_decide_eq_true c_167
                refine ml_st (S' := (175, [], [.int 0], M)) rfl rfl rfl ?_
                exact ml_ret rfl (r_z (Or.inl rfl)) (⟨⟨_, rfl, Or.inl rfl⟩, rfl⟩)
              · have c_167 : ¬ (¬ 0 = 1) := of_decide_eq_false c_167
                refine ml_st (S' := (171, [], [.int 1], M)) rfl rfl rfl ?_
                refine ml_st (S' := (175, [], [.int 1], M)) rfl rfl rfl ?_
                exact ml_ret rfl (r_z (Or.inr rfl)) (⟨⟨_, rfl, Or.inr rfl⟩, rfl⟩)
          · have c_145 : ¬ (¬ (f1 f ((pa (Int32.toNatClampNeg x1)) + 1)) = 8) := of_decide_eq_false c_145
            refine ml_st (S' := (149, [(5, .int (pyf py (ixf f pa (ixf f pa (ixf f pa x1 2) 3) 1))), (0, .ref m0), (2, .int (f1 f ((pa (Int32.toNatClampNeg x1)) + 1))), (3, .int (ixf f pa x1 2))], [.int 1], M)) rfl rfl rfl ?_
            refine ml_st (S' := (153, [(0, .ref m0), (5, .int (pyf py (ixf f pa (ixf f pa (ixf f pa x1 2) 3) 1)))], [.int 1], M)) rfl rfl rfl ?_
            refine ml_blk 2 (S' := (156, [(0, .ref m0), (5, .int (pyf py (ixf f pa (ixf f pa (ixf f pa x1 2) 3) 1)))], [.ref m0, .int (pyf py (ixf f pa (ixf f pa (ixf f pa x1 2) 3) 1)), .int 1], M)) rfl ?_
            refine rg_int (S' := (159, [(0, .ref m0), (5, .int (pyf py (ixf f pa (ixf f pa (ixf f pa x1 2) 3) 1)))], [.int si, .int (pyf py (ixf f pa (ixf f pa (ixf f pa x1 2) 3) 1)), .int 1], M)) rfl hR rfl (hk9) rfl ?_
            refine ml_if2 (S1 := (166, [(0, .ref m0), (5, .int (pyf py (ixf f pa (ixf f pa (ixf f pa x1 2) 3) 1)))], [.int 1], M)) (S2 := (162, [(0, .ref m0), (5, .int (pyf py (ixf f pa (ixf f pa (ixf f pa x1 2) 3) 1)))], [.int 1], M)) rfl rfl rfl (fun c_159 => ?_) (fun c_159 => ?_)
            · have c_159 : ¬ (pyf py (ixf f pa (ixf f pa (ixf f pa x1 2) 3) 1)) = si := of_decide_eq_true c_159
              refine ml_st (S' := (167, [], [.int 0, .int 1], M)) rfl rfl rfl ?_
              refine ml_if2 (S1 := (174, [], [], M)) (S2 := (170, [], [], M)) rfl rfl rfl (fun c_167 => ?_) (fun c_167 => ?_)
              · have c_167 : ¬ 1 = 0 := of_decide_eq_true c_167
                refine ml_st (S' := (175, [], [.int 0], M)) rfl rfl rfl ?_
                exact ml_ret rfl (r_z (Or.inl rfl)) (⟨⟨_, rfl, Or.inl rfl⟩, rfl⟩)
              · have c_167 : ¬ (¬ 1 = 0) := of_decide_eq_false c_167
                refine ml_st (S' := (171, [], [.int 1], M)) rfl rfl rfl ?_
                refine ml_st (S' := (175, [], [.int 1], M)) rfl rfl rfl ?_
                exact ml_ret rfl (r_z (Or.inr rfl)) (⟨⟨_, rfl, Or.inr rfl⟩, rfl⟩)
            · have c_159 : ¬ (¬ (pyf py (ixf f pa (ixf f pa (ixf f pa x1 2) 3) 1)) = si) := of_decide_eq_false c_159
              refine ml_st (S' := (163, [(0, .ref m0), (5, .int (pyf py (ixf f pa (ixf f pa (ixf f pa x1 2) 3) 1)))], [.int 1, .int 1], M)) rfl rfl rfl ?_
              refine ml_st (S' := (167, [], [.int 1, .int 1], M)) rfl rfl rfl ?_
              refine ml_if2 (S1 := (174, [], [], M)) (S2 := (170, [], [], M)) rfl rfl rfl (fun c_167 => ?_) (fun c_167 => ?_)
              · have c_167 : ¬ 1 = 1 := of_decide_eq_true c_167
                refine ml_st (S' := (175, [], [.int 0], M)) rfl rfl rfl ?_
                exact ml_ret rfl (r_z (Or.inl rfl)) (⟨⟨_, rfl, Or.inl rfl⟩, rfl⟩)
              · have c_167 : ¬ (¬ 1 = 1) := of_decide_eq_false c_167
                refine ml_st (S' := (171, [], [.int 1], M)) rfl rfl rfl ?_
                refine ml_st (S' := (175, [], [.int 1], M)) rfl rfl rfl ?_
                exact ml_ret rfl (r_z (Or.inr rfl)) (⟨⟨_, rfl, Or.inr rfl⟩, rfl⟩)
        refine ml_if2 (S1 := (74, [(0, .ref m0), (2, .int (f1 f ((pa (Int32.toNatClampNeg x1)) + 1))), (3, .int (ixf f pa x1 2)), (4, .int (tgf f cp pa (ixf f pa x1 2)))], [], M)) (S2 := (68, [(4, .int (tgf f cp pa (ixf f pa x1 2))), (3, .int (ixf f pa x1 2)), (2, .int (f1 f ((pa (Int32.toNatClampNeg x1)) + 1))), (0, .ref m0), (1, .int x1)], [], M)) rfl rfl rfl (fun c_65 => ?_) (fun c_65 => ?_)
        · have c_65 : (f1 f ((pa (Int32.toNatClampNeg x1)) + 1)) = 5 := of_decide_eq_true c_65
          refine ml_blk 2 (S' := (78, [(0, .ref m0), (2, .int (f1 f ((pa (Int32.toNatClampNeg x1)) + 1))), (3, .int (ixf f pa x1 2)), (4, .int (tgf f cp pa (ixf f pa x1 2)))], [.int 10, .int (tgf f cp pa (ixf f pa x1 2))], M)) rfl ?_
          refine ml_if2 (S1 := (123, [], [], M)) (S2 := (81, [(0, .ref m0), (2, .int (f1 f ((pa (Int32.toNatClampNeg x1)) + 1))), (3, .int (ixf f pa x1 2)), (4, .int (tgf f cp pa (ixf f pa x1 2)))], [], M)) rfl rfl rfl (fun c_78 => ?_) (fun c_78 => ?_)
          · have c_78 : ¬ (tgf f cp pa (ixf f pa x1 2)) = 10 := of_decide_eq_true c_78
            refine ml_st (S' := (124, [], [.int 0], M)) rfl rfl rfl ?_
            exact ml_ret rfl (r_z (Or.inl rfl)) (⟨⟨_, rfl, Or.inl rfl⟩, rfl⟩)
          · have c_78 : ¬ (¬ (tgf f cp pa (ixf f pa x1 2)) = 10) := of_decide_eq_false c_78
            refine ml_st (S' := (125, [(0, .ref m0), (2, .int (f1 f ((pa (Int32.toNatClampNeg x1)) + 1))), (3, .int (ixf f pa x1 2))], [], M)) rfl rfl rfl ?_
            exact J_125  (Or.inl (Decidable.not_not.mp c_78))
        · have c_65 : ¬ ((f1 f ((pa (Int32.toNatClampNeg x1)) + 1)) = 5) := of_decide_eq_false c_65
          refine ml_blk 2 (S' := (71, [(4, .int (tgf f cp pa (ixf f pa x1 2))), (3, .int (ixf f pa x1 2)), (2, .int (f1 f ((pa (Int32.toNatClampNeg x1)) + 1))), (0, .ref m0), (1, .int x1)], [.int 8, .int (f1 f ((pa (Int32.toNatClampNeg x1)) + 1))], M)) rfl ?_
          refine ml_if2 (S1 := (84, [(4, .int (tgf f cp pa (ixf f pa x1 2))), (3, .int (ixf f pa x1 2)), (2, .int (f1 f ((pa (Int32.toNatClampNeg x1)) + 1))), (0, .ref m0), (1, .int x1)], [], M)) (S2 := (74, [(0, .ref m0), (2, .int (f1 f ((pa (Int32.toNatClampNeg x1)) + 1))), (3, .int (ixf f pa x1 2)), (4, .int (tgf f cp pa (ixf f pa x1 2)))], [], M)) rfl rfl rfl (fun c_71 => ?_) (fun c_71 => ?_)
          · have c_71 : ¬ (f1 f ((pa (Int32.toNatClampNeg x1)) + 1)) = 8 := of_decide_eq_true c_71
            refine ml_blk 2 (S' := (87, [(4, .int (tgf f cp pa (ixf f pa x1 2))), (3, .int (ixf f pa x1 2)), (2, .int (f1 f ((pa (Int32.toNatClampNeg x1)) + 1))), (0, .ref m0), (1, .int x1)], [.int 9, .int (f1 f ((pa (Int32.toNatClampNeg x1)) + 1))], M)) rfl ?_
            refine ml_if2 (S1 := (100, [(4, .int (tgf f cp pa (ixf f pa x1 2))), (3, .int (ixf f pa x1 2)), (2, .int (f1 f ((pa (Int32.toNatClampNeg x1)) + 1))), (0, .ref m0), (1, .int x1)], [], M)) (S2 := (90, [(4, .int (tgf f cp pa (ixf f pa x1 2))), (3, .int (ixf f pa x1 2)), (2, .int (f1 f ((pa (Int32.toNatClampNeg x1)) + 1))), (0, .ref m0), (1, .int x1)], [], M)) rfl rfl rfl (fun c_87 => ?_) (fun c_87 => ?_)
            · have c_87 : ¬ (f1 f ((pa (Int32.toNatClampNeg x1)) + 1)) = 9 := of_decide_eq_true c_87
              refine ml_blk 2 (S' := (104, [(4, .int (tgf f cp pa (ixf f pa x1 2))), (3, .int (ixf f pa x1 2)), (2, .int (f1 f ((pa (Int32.toNatClampNeg x1)) + 1))), (0, .ref m0), (1, .int x1)], [.int 10, .int (tgf f cp pa (ixf f pa x1 2))], M)) rfl ?_
              refine ml_if2 (S1 := (125, [(0, .ref m0), (2, .int (f1 f ((pa (Int32.toNatClampNeg x1)) + 1))), (3, .int (ixf f pa x1 2))], [], M)) (S2 := (107, [(4, .int (tgf f cp pa (ixf f pa x1 2))), (3, .int (ixf f pa x1 2)), (2, .int (f1 f ((pa (Int32.toNatClampNeg x1)) + 1))), (0, .ref m0), (1, .int x1)], [], M)) rfl rfl rfl (fun c_104 => ?_) (fun c_104 => ?_)
              · have c_104 : (tgf f cp pa (ixf f pa x1 2)) = 10 := of_decide_eq_true c_104
                exact J_125  (Or.inl c_104)
              · have c_104 : ¬ ((tgf f cp pa (ixf f pa x1 2)) = 10) := of_decide_eq_false c_104
                refine ml_blk 2 (S' := (111, [(4, .int (tgf f cp pa (ixf f pa x1 2))), (3, .int (ixf f pa x1 2)), (2, .int (f1 f ((pa (Int32.toNatClampNeg x1)) + 1))), (0, .ref m0), (1, .int x1)], [.int 11, .int (tgf f cp pa (ixf f pa x1 2))], M)) rfl ?_
                refine ml_if2 (S1 := (123, [], [], M)) (S2 := (114, [(4, .int (tgf f cp pa (ixf f pa x1 2))), (3, .int (ixf f pa x1 2)), (2, .int (f1 f ((pa (Int32.toNatClampNeg x1)) + 1))), (0, .ref m0), (1, .int x1)], [], M)) rfl rfl rfl (fun c_111 => ?_) (fun c_111 => ?_)
                · have c_111 : ¬ (tgf f cp pa (ixf f pa x1 2)) = 11 := of_decide_eq_true c_111
                  refine ml_st (S' := (124, [], [.int 0], M)) rfl rfl rfl ?_
                  exact ml_ret rfl (r_z (Or.inl rfl)) (⟨⟨_, rfl, Or.inl rfl⟩, rfl⟩)
                · have c_111 : ¬ (¬ (tgf f cp pa (ixf f pa x1 2)) = 11) := of_decide_eq_false c_111
                  refine ml_st (S' := (115, [(4, .int (tgf f cp pa (ixf f pa x1 2))), (3, .int (ixf f pa x1 2)), (2, .int (f1 f ((pa (Int32.toNatClampNeg x1)) + 1))), (0, .ref m0), (1, .int x1)], [.ref m0], M)) rfl rfl rfl ?_
                  refine rg_int (S' := (118, [(4, .int (tgf f cp pa (ixf f pa x1 2))), (3, .int (ixf f pa x1 2)), (2, .int (f1 f ((pa (Int32.toNatClampNeg x1)) + 1))), (0, .ref m0), (1, .int x1)], [.int mj], M)) rfl hR rfl (hP.2.2.1) rfl ?_
                  refine ml_st (S' := (120, [(4, .int (tgf f cp pa (ixf f pa x1 2))), (3, .int (ixf f pa x1 2)), (2, .int (f1 f ((pa (Int32.toNatClampNeg x1)) + 1))), (0, .ref m0), (1, .int x1)], [.int 52, .int mj], M)) rfl rfl rfl ?_
                  refine ml_if2 (S1 := (125, [(0, .ref m0), (2, .int (f1 f ((pa (Int32.toNatClampNeg x1)) + 1))), (3, .int (ixf f pa x1 2))], [], M)) (S2 := (123, [], [], M)) rfl rfl rfl (fun c_120 => ?_) (fun c_120 => ?_)
                  · have c_120 : 52 ≤ mj := of_decide_eq_true c_120
                    exact J_125  (Or.inr (Decidable.not_not.mp c_111))
                  · have c_120 : ¬ (52 ≤ mj) := of_decide_eq_false c_120
                    refine ml_st (S' := (124, [], [.int 0], M)) rfl rfl rfl ?_
                    exact ml_ret rfl (r_z (Or.inl rfl)) (⟨⟨_, rfl, Or.inl rfl⟩, rfl⟩)
            · have c_87 : ¬ (¬ (f1 f ((pa (Int32.toNatClampNeg x1)) + 1)) = 9) := of_decide_eq_false c_87
              refine ml_blk 2 (S' := (94, [(4, .int (tgf f cp pa (ixf f pa x1 2))), (3, .int (ixf f pa x1 2)), (2, .int (f1 f ((pa (Int32.toNatClampNeg x1)) + 1))), (0, .ref m0), (1, .int x1)], [.int 11, .int (tgf f cp pa (ixf f pa x1 2))], M)) rfl ?_
              refine ml_if2 (S1 := (123, [], [], M)) (S2 := (97, [(4, .int (tgf f cp pa (ixf f pa x1 2))), (3, .int (ixf f pa x1 2)), (2, .int (f1 f ((pa (Int32.toNatClampNeg x1)) + 1))), (0, .ref m0), (1, .int x1)], [], M)) rfl rfl rfl (fun c_94 => ?_) (fun c_94 => ?_)
              · have c_94 : ¬ (tgf f cp pa (ixf f pa x1 2)) = 11 := of_decide_eq_true c_94
                refine ml_st (S' := (124, [], [.int 0], M)) rfl rfl rfl ?_
                exact ml_ret rfl (r_z (Or.inl rfl)) (⟨⟨_, rfl, Or.inl rfl⟩, rfl⟩)
              · have c_94 : ¬ (¬ (tgf f cp pa (ixf f pa x1 2)) = 11) := of_decide_eq_false c_94
                refine ml_st (S' := (125, [(0, .ref m0), (2, .int (f1 f ((pa (Int32.toNatClampNeg x1)) + 1))), (3, .int (ixf f pa x1 2))], [], M)) rfl rfl rfl ?_
                exact J_125  (Or.inr (Decidable.not_not.mp c_94))
          · have c_71 : ¬ (¬ (f1 f ((pa (Int32.toNatClampNeg x1)) + 1)) = 8) := of_decide_eq_false c_71
            refine ml_blk 2 (S' := (78, [(0, .ref m0), (2, .int (f1 f ((pa (Int32.toNatClampNeg x1)) + 1))), (3, .int (ixf f pa x1 2)), (4, .int (tgf f cp pa (ixf f pa x1 2)))], [.int 10, .int (tgf f cp pa (ixf f pa x1 2))], M)) rfl ?_
            refine ml_if2 (S1 := (123, [], [], M)) (S2 := (81, [(0, .ref m0), (2, .int (f1 f ((pa (Int32.toNatClampNeg x1)) + 1))), (3, .int (ixf f pa x1 2)), (4, .int (tgf f cp pa (ixf f pa x1 2)))], [], M)) rfl rfl rfl (fun c_78 => ?_) (fun c_78 => ?_)
            · have c_78 : ¬ (tgf f cp pa (ixf f pa x1 2)) = 10 := of_decide_eq_true c_78
              refine ml_st (S' := (124, [], [.int 0], M)) rfl rfl rfl ?_
              exact ml_ret rfl (r_z (Or.inl rfl)) (⟨⟨_, rfl, Or.inl rfl⟩, rfl⟩)
            · have c_78 : ¬ (¬ (tgf f cp pa (ixf f pa x1 2)) = 10) := of_decide_eq_false c_78
              refine ml_st (S' := (125, [(0, .ref m0), (2, .int (f1 f ((pa (Int32.toNatClampNeg x1)) + 1))), (3, .int (ixf f pa x1 2))], [], M)) rfl rfl rfl ?_
              exact J_125  (Or.inl (Decidable.not_not.mp c_78))
      · have c_47 : ¬ (4 < (f1 f ((pa (Int32.toNatClampNeg x1)) + 1))) := of_decide_eq_false c_47
        refine ml_blk 2 (S' := (54, [(4, .int (tgf f cp pa (ixf f pa x1 2))), (3, .int (ixf f pa x1 2)), (2, .int (f1 f ((pa (Int32.toNatClampNeg x1)) + 1))), (0, .ref m0), (1, .int x1)], [.int 9, .int (tgf f cp pa (ixf f pa x1 2))], M)) rfl ?_
        refine ml_if2 (S1 := (61, [(4, .int (tgf f cp pa (ixf f pa x1 2))), (3, .int (ixf f pa x1 2)), (2, .int (f1 f ((pa (Int32.toNatClampNeg x1)) + 1))), (0, .ref m0), (1, .int x1)], [], M)) (S2 := (57, [(4, .int (tgf f cp pa (ixf f pa x1 2))), (3, .int (ixf f pa x1 2)), (2, .int (f1 f ((pa (Int32.toNatClampNeg x1)) + 1))), (0, .ref m0), (1, .int x1)], [], M)) rfl rfl rfl (fun c_54 => ?_) (fun c_54 => ?_)
        · have c_54 : ¬ (tgf f cp pa (ixf f pa x1 2)) = 9 := of_decide_eq_true c_54
          refine ml_st (S' := (62, [], [.int 0], M)) rfl rfl rfl ?_
          exact ml_ret rfl (r_z (Or.inl rfl)) (⟨⟨_, rfl, Or.inl rfl⟩, rfl⟩)
        · have c_54 : ¬ (¬ (tgf f cp pa (ixf f pa x1 2)) = 9) := of_decide_eq_false c_54
          refine ml_st (S' := (58, [(4, .int (tgf f cp pa (ixf f pa x1 2))), (3, .int (ixf f pa x1 2)), (2, .int (f1 f ((pa (Int32.toNatClampNeg x1)) + 1))), (0, .ref m0), (1, .int x1)], [.int 1], M)) rfl rfl rfl ?_
          refine ml_st (S' := (62, [], [.int 1], M)) rfl rfl rfl ?_
          exact ml_ret rfl (r_z (Or.inr rfl)) (⟨⟨_, rfl, Or.inr rfl⟩, rfl⟩)
    · have c_40 : ¬ ((f1 f ((pa (Int32.toNatClampNeg x1)) + 1)) ≤ 9) := of_decide_eq_false c_40
      refine ml_st (S' := (44, [], [.int 0], M)) rfl rfl rfl ?_
      exact ml_ret rfl (r_z (Or.inl rfl)) (⟨⟨_, rfl, Or.inl rfl⟩, rfl⟩)
set_option maxHeartbeats 2000000 in
theorem rm_checkPool {g : xe_G}  {m0 : Nat} {q : Nat → Nat} {z : Nat × Nat} {I : rI} {R : rR} {M : mi_H} {si : Int32} {n : Nat} {f : Nat → Int32} {S cN : Nat} {sa sl ch : Nat → Int32} {cp mj : Int32} {pa py : Nat → Int32}  (hR : RS g m0 q z I R M) (hk9 : I 9 = some si) (hF : FK n f I R) (hY : SK S cN sa sl ch I R) (hP : PK n f S cp mj pa py I R) {d : Nat} (hd : 7 ≤ d) : mt (mT g) d 192 [.ref m0] M (fun v M' => ∃ (x : Int32) (I' : rI) (R' : rR), v = some (.int x) ∧ RS g m0 q z I' R' M' ∧ eqI [47, 48] I I' ∧ eqR [] R R' ∧ (x = 0 ∨ x = 1) ∧ (x = 0 ∨ EK f cp pa py sa sl ch)) := by
  obtain ⟨d, rfl⟩ : ∃ e, d = e + 1 := ⟨d - 1, by omega⟩
  refine mt_in (b := mb_192 g) rfl rfl ?_
  show ml (mT g) d (mb_192 g).2 (0, [(0, .ref m0)], [], M) _
  have hn := hF.1
  refine ml_st (S' := (1, [(0, .ref m0)], [.int 1], M)) rfl rfl rfl ?_
  refine ml_st (S' := (2, [(0, .ref m0), (1, .int 1)], [], M)) rfl rfl rfl ?_
  have L_2 : ∀ (n_2 : Nat) (i2_1 : Int32), (2147483648 - i2_1.toInt).toNat ≤ n_2 → (1 ≤ i2_1.toInt ∧ i2_1.toInt ≤ cp.toInt ∧ ∀ j : Int32, 0 < j.toInt → j.toInt < i2_1.toInt → tgf f cp pa j ≠ 0 → EOK f cp pa py sa sl ch j) → ml (mT g) d (mb_192 g).2 (2, [(0, .ref m0), (1, .int i2_1)], [], M) (fun v M' => ∃ (x : Int32) (I' : rI) (R' : rR), v = some (.int x) ∧ RS g m0 q z I' R' M' ∧ eqI [47, 48] I I' ∧ eqR [] R R' ∧ (x = 0 ∨ x = 1) ∧ (x = 0 ∨ EK f cp pa py sa sl ch)) := by
    intro n_2
    induction n_2 with
    | zero => intro i2_1 hn; exact (loop_zero hn).elim
    | succ n_2 ih_2 =>
      intro i2_1 hn_2 hi_2
      obtain ⟨hk0, hk1, hall⟩ := hi_2
      refine ml_blk 2 (S' := (4, [(0, .ref m0), (1, .int i2_1)], [.ref m0, .int i2_1], M)) rfl ?_
      refine rg_int (S' := (7, [(0, .ref m0), (1, .int i2_1)], [.int cp, .int i2_1], M)) rfl hR rfl (hP.2.1) rfl ?_
      refine ml_if2 (S1 := (426, [(0, .ref m0), (1, .int i2_1)], [], M)) (S2 := (10, [(0, .ref m0), (1, .int i2_1)], [], M)) rfl rfl rfl (fun c_7 => ?_) (fun c_7 => ?_)
      · have c_7 : cp ≤ i2_1 := of_decide_eq_true c_7
        refine ml_st (S' := (427, [(0, .ref m0), (1, .int i2_1)], [.int 1], M)) rfl rfl rfl ?_
        exact ml_ret rfl (r_z (Or.inr rfl)) (⟨_, _, _, rfl, hR, eqI.rf, eqR.rf, Or.inr rfl, Or.inr (fun j hj => by obtain ⟨a1, a2, -⟩ := tgf_in rfl hj; exact hall j a1 (by have := i_le c_7; omega) hj)⟩)
      · have c_7 : ¬ (cp ≤ i2_1) := of_decide_eq_false c_7
        have hkl := i_nle c_7
        have he0 := hP.e (k := i2_1) (by omega) hkl
        refine ml_st (S' := (11, [(0, .ref m0), (1, .int i2_1)], [.ref m0], M)) rfl rfl rfl ?_
        refine rg_ref (S' := (14, [(0, .ref m0), (1, .int i2_1)], [.ref (q 21)], M)) rfl hR rfl rfl ?_
        refine ml_st (S' := (15, [(0, .ref m0), (1, .int i2_1)], [.ref m0, .ref (q 21)], M)) rfl rfl rfl ?_
        refine rg_int (S' := (18, [(0, .ref m0), (1, .int i2_1)], [.int 0, .ref (q 21)], M)) rfl hR rfl (hP.1) rfl ?_
        refine ml_blk 2 (S' := (20, [(0, .ref m0), (1, .int i2_1)], [.int (0 + i2_1), .ref (q 21)], M)) rfl ?_
        refine ra_ld (k := 21) (S' := (21, [(0, .ref m0), (1, .int i2_1)], [.int (pa (Int32.toNatClampNeg i2_1))], M)) rfl hR rfl (he0.2.1) (he0.1) rfl ?_
        refine ml_st (S' := (22, [(2, .int (pa (Int32.toNatClampNeg i2_1))), (0, .ref m0), (1, .int i2_1)], [], M)) rfl rfl rfl ?_
        refine ml_st (S' := (23, [(2, .int (pa (Int32.toNatClampNeg i2_1))), (0, .ref m0), (1, .int i2_1)], [.int (pa (Int32.toNatClampNeg i2_1))], M)) rfl rfl rfl ?_
        have J_420 : (tgf f cp pa i2_1 ≠ 0 → EOK f cp pa py sa sl ch i2_1) → ml (mT g) d (mb_192 g).2 (420, [(0, .ref m0), (1, .int i2_1)], [], M) (fun v M' => ∃ (x : Int32) (I' : rI) (R' : rR), v = some (.int x) ∧ RS g m0 q z I' R' M' ∧ eqI [47, 48] I I' ∧ eqR [] R R' ∧ (x = 0 ∨ x = 1) ∧ (x = 0 ∨ EK f cp pa py sa sl ch)) := by
          intro hj_420
          refine ml_st (S' := (423, [(1, .int (i2_1 + 1)), (0, .ref m0)], [], M)) rfl rfl rfl ?_
          refine ml_st (S' := (2, [(0, .ref m0), (1, .int (i2_1 + 1))], [], M)) rfl rfl rfl ?_
          exact ih_2 (i2_1 + 1) (loop_inc (Int32.not_le.mp c_7) hn_2) (⟨by rw [inc_lt (Int32.not_le.mp c_7)]; omega, by rw [inc_lt (Int32.not_le.mp c_7)]; omega, fun j h0 h1 h2 => by rw [inc_lt (Int32.not_le.mp c_7)] at h1; by_cases e : j = i2_1; (rw [e] at h2 ⊢; exact hj_420 h2); (exact hall j h0 (by have : j.toInt ≠ i2_1.toInt := fun q => e (Int32.toInt_inj.mp q); omega) h2)⟩)
        refine ml_if (S1 := (29, [(2, .int (pa (Int32.toNatClampNeg i2_1))), (0, .ref m0), (1, .int i2_1)], [], M)) (S2 := (26, [(2, .int (pa (Int32.toNatClampNeg i2_1))), (0, .ref m0), (1, .int i2_1)], [], M)) rfl rfl rfl (fun c_23 => ?_) (fun c_23 => ?_)
        · have c_23 : 0 ≤ (pa (Int32.toNatClampNeg i2_1)) := of_decide_eq_true c_23
          have hp0 : 0 ≤ (pa (Int32.toNatClampNeg i2_1)).toInt := by have q := i_le c_23; have : (0 : Int32).toInt = 0 := rfl; omega
          have hent := he0.2.2.resolve_left (m1_neg hp0)
          have htg : tgf f cp pa i2_1 = (f1 f (pa (Int32.toNatClampNeg i2_1))) := tgf_of (by omega) hkl hp0
          refine ml_blk 2 (S' := (31, [(2, .int (pa (Int32.toNatClampNeg i2_1))), (0, .ref m0), (1, .int i2_1)], [.int (pa (Int32.toNatClampNeg i2_1)), .ref m0], M)) rfl ?_
          refine ml_call (a := [.ref m0, .int (pa (Int32.toNatClampNeg i2_1))]) (rest := []) rfl (hR.okc rfl rfl rfl) rfl rfl (rm_u1 hR hF (hp0) (by have := esz_ge (t := (f1 f (pa (Int32.toNatClampNeg i2_1)))); have := hent.2.1; omega) (by omega)) (fun v11 M12 h13 => ?_)
          obtain ⟨rfl, h13⟩ := h13
          rw [h13]
          show ml _ _ _ (34, [(2, .int (pa (Int32.toNatClampNeg i2_1))), (0, .ref m0), (1, .int i2_1)], [.int (f1 f (pa (Int32.toNatClampNeg i2_1)))], M) _
          refine ml_st (S' := (35, [(3, .int (f1 f (pa (Int32.toNatClampNeg i2_1)))), (2, .int (pa (Int32.toNatClampNeg i2_1))), (0, .ref m0), (1, .int i2_1)], [], M)) rfl rfl rfl ?_
          refine ml_blk 3 (S' := (38, [(3, .int (f1 f (pa (Int32.toNatClampNeg i2_1)))), (2, .int (pa (Int32.toNatClampNeg i2_1))), (0, .ref m0), (1, .int i2_1)], [.int (f1 f (pa (Int32.toNatClampNeg i2_1))), .int i2_1, .ref m0], M)) rfl ?_
          refine ml_st (S' := (39, [(3, .int (f1 f (pa (Int32.toNatClampNeg i2_1)))), (2, .int (pa (Int32.toNatClampNeg i2_1))), (0, .ref m0), (1, .int i2_1)], [.int 1, .int (f1 f (pa (Int32.toNatClampNeg i2_1))), .int i2_1, .ref m0], M)) rfl rfl rfl ?_
          refine ml_call (a := [.ref m0, .int i2_1, .int (f1 f (pa (Int32.toNatClampNeg i2_1))), .int 1]) (rest := []) rfl (hR.okc rfl rfl rfl) rfl rfl (rm_indexes hR hF hP (htg) (by omega)) (fun v14 M15 h16 => ?_)
          obtain ⟨⟨u17, rfl, z18, w19⟩, h16⟩ := h16
          rw [h16]
          show ml _ _ _ (42, [(3, .int (f1 f (pa (Int32.toNatClampNeg i2_1)))), (2, .int (pa (Int32.toNatClampNeg i2_1))), (0, .ref m0), (1, .int i2_1)], [.int u17], M) _
          refine ml_if (S1 := (53, [(3, .int (f1 f (pa (Int32.toNatClampNeg i2_1)))), (2, .int (pa (Int32.toNatClampNeg i2_1))), (0, .ref m0), (1, .int i2_1)], [], M)) (S2 := (45, [(3, .int (f1 f (pa (Int32.toNatClampNeg i2_1)))), (2, .int (pa (Int32.toNatClampNeg i2_1))), (0, .ref m0), (1, .int i2_1)], [], M)) rfl rfl rfl (fun c_42 => ?_) (fun c_42 => ?_)
          · have c_42 : ¬ u17 = 0 := of_decide_eq_true c_42
            have hix := w19.resolve_left c_42
            refine ml_blk 2 (S' := (56, [(3, .int (f1 f (pa (Int32.toNatClampNeg i2_1)))), (2, .int (pa (Int32.toNatClampNeg i2_1))), (0, .ref m0), (1, .int i2_1)], [.int 7, .int (f1 f (pa (Int32.toNatClampNeg i2_1)))], M)) rfl ?_
            have J_84 : ((f1 f (pa (Int32.toNatClampNeg i2_1))) = 7 → 0 < (sL sl (pyf py (ixf f pa i2_1 1))).toInt) → ml (mT g) d (mb_192 g).2 (84, [(0, .ref m0), (1, .int i2_1), (2, .int (pa (Int32.toNatClampNeg i2_1))), (3, .int (f1 f (pa (Int32.toNatClampNeg i2_1))))], [], M) (fun v M' => ∃ (x : Int32) (I' : rI) (R' : rR), v = some (.int x) ∧ RS g m0 q z I' R' M' ∧ eqI [47, 48] I I' ∧ eqR [] R R' ∧ (x = 0 ∨ x = 1) ∧ (x = 0 ∨ EK f cp pa py sa sl ch)) := by
              intro hj_84
              refine ml_blk 2 (S' := (87, [(0, .ref m0), (1, .int i2_1), (2, .int (pa (Int32.toNatClampNeg i2_1))), (3, .int (f1 f (pa (Int32.toNatClampNeg i2_1))))], [.int 12, .int (f1 f (pa (Int32.toNatClampNeg i2_1)))], M)) rfl ?_
              have J_150 : ml (mT g) d (mb_192 g).2 (150, [(0, .ref m0), (1, .int i2_1), (2, .int (pa (Int32.toNatClampNeg i2_1))), (3, .int (f1 f (pa (Int32.toNatClampNeg i2_1))))], [], M) (fun v M' => ∃ (x : Int32) (I' : rI) (R' : rR), v = some (.int x) ∧ RS g m0 q z I' R' M' ∧ eqI [47, 48] I I' ∧ eqR [] R R' ∧ (x = 0 ∨ x = 1) ∧ (x = 0 ∨ EK f cp pa py sa sl ch)) := by
                refine ml_blk 2 (S' := (153, [(0, .ref m0), (1, .int i2_1), (2, .int (pa (Int32.toNatClampNeg i2_1))), (3, .int (f1 f (pa (Int32.toNatClampNeg i2_1))))], [.int 9, .int (f1 f (pa (Int32.toNatClampNeg i2_1)))], M)) rfl ?_
                have J_277 : ((f1 f (pa (Int32.toNatClampNeg i2_1))) = 10 ∨ (f1 f (pa (Int32.toNatClampNeg i2_1))) = 11 → MTX sa sl ch (pyf py (ixf f pa (ixf f pa i2_1 3) 3))) → ml (mT g) d (mb_192 g).2 (277, [(0, .ref m0), (1, .int i2_1), (2, .int (pa (Int32.toNatClampNeg i2_1))), (3, .int (f1 f (pa (Int32.toNatClampNeg i2_1))))], [], M) (fun v M' => ∃ (x : Int32) (I' : rI) (R' : rR), v = some (.int x) ∧ RS g m0 q z I' R' M' ∧ eqI [47, 48] I I' ∧ eqR [] R R' ∧ (x = 0 ∨ x = 1) ∧ (x = 0 ∨ EK f cp pa py sa sl ch)) := by
                  intro hj_277
                  refine ml_blk 2 (S' := (280, [(0, .ref m0), (1, .int i2_1), (2, .int (pa (Int32.toNatClampNeg i2_1))), (3, .int (f1 f (pa (Int32.toNatClampNeg i2_1))))], [.int 15, .int (f1 f (pa (Int32.toNatClampNeg i2_1)))], M)) rfl ?_
                  have J_299 : ml (mT g) d (mb_192 g).2 (299, [(0, .ref m0), (1, .int i2_1), (2, .int (pa (Int32.toNatClampNeg i2_1))), (3, .int (f1 f (pa (Int32.toNatClampNeg i2_1))))], [], M) (fun v M' => ∃ (x : Int32) (I' : rI) (R' : rR), v = some (.int x) ∧ RS g m0 q z I' R' M' ∧ eqI [47, 48] I I' ∧ eqR [] R R' ∧ (x = 0 ∨ x = 1) ∧ (x = 0 ∨ EK f cp pa py sa sl ch)) := by
                    refine ml_blk 2 (S' := (302, [(0, .ref m0), (1, .int i2_1), (2, .int (pa (Int32.toNatClampNeg i2_1))), (3, .int (f1 f (pa (Int32.toNatClampNeg i2_1))))], [.int 16, .int (f1 f (pa (Int32.toNatClampNeg i2_1)))], M)) rfl ?_
                    have J_330 : ml (mT g) d (mb_192 g).2 (330, [(0, .ref m0), (1, .int i2_1), (2, .int (pa (Int32.toNatClampNeg i2_1))), (3, .int (f1 f (pa (Int32.toNatClampNeg i2_1))))], [], M) (fun v M' => ∃ (x : Int32) (I' : rI) (R' : rR), v = some (.int x) ∧ RS g m0 q z I' R' M' ∧ eqI [47, 48] I I' ∧ eqR [] R R' ∧ (x = 0 ∨ x = 1) ∧ (x = 0 ∨ EK f cp pa py sa sl ch)) := by
                      refine ml_blk 2 (S' := (333, [(0, .ref m0), (1, .int i2_1), (2, .int (pa (Int32.toNatClampNeg i2_1))), (3, .int (f1 f (pa (Int32.toNatClampNeg i2_1))))], [.int 17, .int (f1 f (pa (Int32.toNatClampNeg i2_1)))], M)) rfl ?_
                      have J_342 : ((f1 f (pa (Int32.toNatClampNeg i2_1))) = 17 ∨ (f1 f (pa (Int32.toNatClampNeg i2_1))) = 18) → ml (mT g) d (mb_192 g).2 (342, [(0, .ref m0), (1, .int i2_1), (2, .int (pa (Int32.toNatClampNeg i2_1))), (3, .int (f1 f (pa (Int32.toNatClampNeg i2_1))))], [], M) (fun v M' => ∃ (x : Int32) (I' : rI) (R' : rR), v = some (.int x) ∧ RS g m0 q z I' R' M' ∧ eqI [47, 48] I I' ∧ eqR [] R R' ∧ (x = 0 ∨ x = 1) ∧ (x = 0 ∨ EK f cp pa py sa sl ch)) := by
                        intro hj_342
                        have hi17 := hix.2.2.2.2 hj_342
                        have hyA := hP.y hi17.2.1
                        have hyB := hP.y hi17.2.2
                        have hz17 : (f1 f (pa (Int32.toNatClampNeg i2_1))) ≠ 0 := (fun e => by rcases hj_342 with h | h <;> rw [h] at e <;> exact absurd e (by decide))
                        refine ml_blk 3 (S' := (345, [(0, .ref m0), (1, .int i2_1), (2, .int (pa (Int32.toNatClampNeg i2_1))), (3, .int (f1 f (pa (Int32.toNatClampNeg i2_1))))], [.ref m0, .ref m0, .ref m0], M)) rfl ?_
                        refine ml_blk 2 (S' := (347, [(0, .ref m0), (1, .int i2_1), (2, .int (pa (Int32.toNatClampNeg i2_1))), (3, .int (f1 f (pa (Int32.toNatClampNeg i2_1))))], [.int 3, .int i2_1, .ref m0, .ref m0, .ref m0], M)) rfl ?_
                        refine ml_call (a := [.ref m0, .int i2_1, .int 3]) (rest := [.ref m0, .ref m0]) rfl (hR.okc rfl rfl rfl) rfl rfl (rm_index hR hF hP ((hP.tg htg hz17).1) ((hP.tg htg hz17).2.1) ((hP.tg htg hz17).2.2.1) (by decide) (by have q := (hP.tg htg hz17).2.2.2.2; rw [show esz _ = 5 from esz_17 hj_342] at q; have : (3 : Int32).toInt = 3 := rfl; omega) (by omega)) (fun v20 M21 h22 => ?_)
                        obtain ⟨rfl, h22⟩ := h22
                        rw [h22]
                        show ml _ _ _ (350, [(0, .ref m0), (1, .int i2_1), (2, .int (pa (Int32.toNatClampNeg i2_1))), (3, .int (f1 f (pa (Int32.toNatClampNeg i2_1))))], [.int (ixf f pa i2_1 3), .ref m0, .ref m0], M) _
                        refine ml_st (S' := (351, [(0, .ref m0), (1, .int i2_1), (2, .int (pa (Int32.toNatClampNeg i2_1))), (3, .int (f1 f (pa (Int32.toNatClampNeg i2_1))))], [.int 1, .int (ixf f pa i2_1 3), .ref m0, .ref m0], M)) rfl rfl rfl ?_
                        refine ml_call (a := [.ref m0, .int (ixf f pa i2_1 3), .int 1]) (rest := [.ref m0]) rfl (hR.okc rfl rfl rfl) rfl rfl (rm_index hR hF hP ((hP.tg hi17.1 (by decide)).1) ((hP.tg hi17.1 (by decide)).2.1) ((hP.tg hi17.1 (by decide)).2.2.1) (by decide) (by have q := (hP.tg hi17.1 (by decide)).2.2.2.2; rw [show esz _ = 5 from rfl] at q; have : (1 : Int32).toInt = 1 := rfl; omega) (by omega)) (fun v23 M24 h25 => ?_)
                        obtain ⟨rfl, h25⟩ := h25
                        rw [h25]
                        show ml _ _ _ (354, [(0, .ref m0), (1, .int i2_1), (2, .int (pa (Int32.toNatClampNeg i2_1))), (3, .int (f1 f (pa (Int32.toNatClampNeg i2_1))))], [.int (ixf f pa (ixf f pa i2_1 3) 1), .ref m0], M) _
                        refine ml_call (a := [.ref m0, .int (ixf f pa (ixf f pa i2_1 3) 1)]) (rest := []) rfl (hR.okc rfl rfl rfl) rfl rfl (rm_symOf hR hP (hi17.2.1) (by omega)) (fun v26 M27 h28 => ?_)
                        obtain ⟨rfl, h28⟩ := h28
                        rw [h28]
                        show ml _ _ _ (357, [(0, .ref m0), (1, .int i2_1), (2, .int (pa (Int32.toNatClampNeg i2_1))), (3, .int (f1 f (pa (Int32.toNatClampNeg i2_1))))], [.int (pyf py (ixf f pa (ixf f pa i2_1 3) 1))], M) _
                        refine ml_st (S' := (359, [(4, .int (pyf py (ixf f pa (ixf f pa i2_1 3) 1))), (0, .ref m0), (1, .int i2_1), (2, .int (pa (Int32.toNatClampNeg i2_1))), (3, .int (f1 f (pa (Int32.toNatClampNeg i2_1))))], [], M)) rfl rfl rfl ?_
                        refine ml_blk 3 (S' := (362, [(4, .int (pyf py (ixf f pa (ixf f pa i2_1 3) 1))), (0, .ref m0), (1, .int i2_1), (2, .int (pa (Int32.toNatClampNeg i2_1))), (3, .int (f1 f (pa (Int32.toNatClampNeg i2_1))))], [.ref m0, .ref m0, .ref m0], M)) rfl ?_
                        refine ml_blk 2 (S' := (364, [(4, .int (pyf py (ixf f pa (ixf f pa i2_1 3) 1))), (0, .ref m0), (1, .int i2_1), (2, .int (pa (Int32.toNatClampNeg i2_1))), (3, .int (f1 f (pa (Int32.toNatClampNeg i2_1))))], [.int 3, .int i2_1, .ref m0, .ref m0, .ref m0], M)) rfl ?_
                        refine ml_call (a := [.ref m0, .int i2_1, .int 3]) (rest := [.ref m0, .ref m0]) rfl (hR.okc rfl rfl rfl) rfl rfl (rm_index hR hF hP ((hP.tg htg hz17).1) ((hP.tg htg hz17).2.1) ((hP.tg htg hz17).2.2.1) (by decide) (by have q := (hP.tg htg hz17).2.2.2.2; rw [show esz _ = 5 from esz_17 hj_342] at q; have : (3 : Int32).toInt = 3 := rfl; omega) (by omega)) (fun v29 M30 h31 => ?_)
                        obtain ⟨rfl, h31⟩ := h31
                        rw [h31]
                        show ml _ _ _ (367, [(4, .int (pyf py (ixf f pa (ixf f pa i2_1 3) 1))), (0, .ref m0), (1, .int i2_1), (2, .int (pa (Int32.toNatClampNeg i2_1))), (3, .int (f1 f (pa (Int32.toNatClampNeg i2_1))))], [.int (ixf f pa i2_1 3), .ref m0, .ref m0], M) _
                        refine ml_st (S' := (368, [(4, .int (pyf py (ixf f pa (ixf f pa i2_1 3) 1))), (0, .ref m0), (1, .int i2_1), (2, .int (pa (Int32.toNatClampNeg i2_1))), (3, .int (f1 f (pa (Int32.toNatClampNeg i2_1))))], [.int 3, .int (ixf f pa i2_1 3), .ref m0, .ref m0], M)) rfl rfl rfl ?_
                        refine ml_call (a := [.ref m0, .int (ixf f pa i2_1 3), .int 3]) (rest := [.ref m0]) rfl (hR.okc rfl rfl rfl) rfl rfl (rm_index hR hF hP ((hP.tg hi17.1 (by decide)).1) ((hP.tg hi17.1 (by decide)).2.1) ((hP.tg hi17.1 (by decide)).2.2.1) (by decide) (by have q := (hP.tg hi17.1 (by decide)).2.2.2.2; rw [show esz _ = 5 from rfl] at q; have : (3 : Int32).toInt = 3 := rfl; omega) (by omega)) (fun v32 M33 h34 => ?_)
                        obtain ⟨rfl, h34⟩ := h34
                        rw [h34]
                        show ml _ _ _ (371, [(4, .int (pyf py (ixf f pa (ixf f pa i2_1 3) 1))), (0, .ref m0), (1, .int i2_1), (2, .int (pa (Int32.toNatClampNeg i2_1))), (3, .int (f1 f (pa (Int32.toNatClampNeg i2_1))))], [.int (ixf f pa (ixf f pa i2_1 3) 3), .ref m0], M) _
                        refine ml_call (a := [.ref m0, .int (ixf f pa (ixf f pa i2_1 3) 3)]) (rest := []) rfl (hR.okc rfl rfl rfl) rfl rfl (rm_symOf hR hP (hi17.2.2) (by omega)) (fun v35 M36 h37 => ?_)
                        obtain ⟨rfl, h37⟩ := h37
                        rw [h37]
                        show ml _ _ _ (374, [(4, .int (pyf py (ixf f pa (ixf f pa i2_1 3) 1))), (0, .ref m0), (1, .int i2_1), (2, .int (pa (Int32.toNatClampNeg i2_1))), (3, .int (f1 f (pa (Int32.toNatClampNeg i2_1))))], [.int (pyf py (ixf f pa (ixf f pa i2_1 3) 3))], M) _
                        refine ml_st (S' := (376, [(5, .int (pyf py (ixf f pa (ixf f pa i2_1 3) 3))), (4, .int (pyf py (ixf f pa (ixf f pa i2_1 3) 1))), (0, .ref m0), (1, .int i2_1), (2, .int (pa (Int32.toNatClampNeg i2_1))), (3, .int (f1 f (pa (Int32.toNatClampNeg i2_1))))], [], M)) rfl rfl rfl ?_
                        refine ml_blk 2 (S' := (379, [(5, .int (pyf py (ixf f pa (ixf f pa i2_1 3) 3))), (4, .int (pyf py (ixf f pa (ixf f pa i2_1 3) 1))), (0, .ref m0), (1, .int i2_1), (2, .int (pa (Int32.toNatClampNeg i2_1))), (3, .int (f1 f (pa (Int32.toNatClampNeg i2_1))))], [.int (pyf py (ixf f pa (ixf f pa i2_1 3) 1)), .ref m0], M)) rfl ?_
                        refine ml_call (a := [.ref m0, .int (pyf py (ixf f pa (ixf f pa i2_1 3) 1))]) (rest := []) rfl (hR.okc rfl rfl rfl) rfl rfl (rm_angles hR hY (hyA.2.2.1) (hyA.2.2.2) (by omega)) (fun v38 M39 h40 => ?_)
                        obtain ⟨⟨u41, rfl, z42⟩, h40⟩ := h40
                        rw [h40]
                        show ml _ _ _ (382, [(5, .int (pyf py (ixf f pa (ixf f pa i2_1 3) 3))), (4, .int (pyf py (ixf f pa (ixf f pa i2_1 3) 1))), (0, .ref m0), (1, .int i2_1), (2, .int (pa (Int32.toNatClampNeg i2_1))), (3, .int (f1 f (pa (Int32.toNatClampNeg i2_1))))], [.int u41], M) _
                        refine ml_if (S1 := (412, [(0, .ref m0), (2, .int (pa (Int32.toNatClampNeg i2_1)))], [], M)) (S2 := (385, [(5, .int (pyf py (ixf f pa (ixf f pa i2_1 3) 3))), (4, .int (pyf py (ixf f pa (ixf f pa i2_1 3) 1))), (0, .ref m0), (1, .int i2_1), (2, .int (pa (Int32.toNatClampNeg i2_1))), (3, .int (f1 f (pa (Int32.toNatClampNeg i2_1))))], [], M)) rfl rfl rfl (fun c_382 => ?_) (fun c_382 => ?_)
                        · have c_382 : ¬ u41 = 0 := of_decide_eq_true c_382
                          refine ml_blk 3 (S' := (416, [(0, .ref m0), (2, .int (pa (Int32.toNatClampNeg i2_1)))], [.int (pa (Int32.toNatClampNeg i2_1)), .int 14, .ref m0], M)) rfl ?_
                          refine ml_call (a := [.ref m0, .int 14, .int (pa (Int32.toNatClampNeg i2_1))]) (rest := []) rfl (hR.okc rfl rfl rfl) rfl rfl (rm_wrong hR (by omega)) (fun v43 M44 h45 => ?_)
                          obtain ⟨u51, I46, R47, rfl, hR48, hI49, hV50, z52, w53⟩ := h45
                          show ml _ _ _ (419, [(0, .ref m0), (2, .int (pa (Int32.toNatClampNeg i2_1)))], [.int u51], M44) _
                          exact ml_ret rfl (r_z (z52)) (⟨_, _, _, rfl, hR48, (eqI.rf.tr hI49 (by decide)), (eqR.rf.tr hV50 (by decide)), z52, Or.inl w53⟩)
                        · have c_382 : ¬ (¬ u41 = 0) := of_decide_eq_false c_382
                          refine ml_blk 2 (S' := (388, [(5, .int (pyf py (ixf f pa (ixf f pa i2_1 3) 3))), (4, .int (pyf py (ixf f pa (ixf f pa i2_1 3) 1))), (0, .ref m0), (1, .int i2_1), (2, .int (pa (Int32.toNatClampNeg i2_1))), (3, .int (f1 f (pa (Int32.toNatClampNeg i2_1))))], [.int 17, .int (f1 f (pa (Int32.toNatClampNeg i2_1)))], M)) rfl ?_
                          refine ml_if2 (S1 := (403, [(5, .int (pyf py (ixf f pa (ixf f pa i2_1 3) 3))), (4, .int (pyf py (ixf f pa (ixf f pa i2_1 3) 1))), (0, .ref m0), (1, .int i2_1), (2, .int (pa (Int32.toNatClampNeg i2_1))), (3, .int (f1 f (pa (Int32.toNatClampNeg i2_1))))], [], M)) (S2 := (391, [(5, .int (pyf py (ixf f pa (ixf f pa i2_1 3) 3))), (4, .int (pyf py (ixf f pa (ixf f pa i2_1 3) 1))), (0, .ref m0), (1, .int i2_1), (2, .int (pa (Int32.toNatClampNeg i2_1))), (3, .int (f1 f (pa (Int32.toNatClampNeg i2_1))))], [], M)) rfl rfl rfl (fun c_388 => ?_) (fun c_388 => ?_)
                          · have c_388 : ¬ (f1 f (pa (Int32.toNatClampNeg i2_1))) = 17 := of_decide_eq_true c_388
                            refine ml_blk 2 (S' := (406, [(5, .int (pyf py (ixf f pa (ixf f pa i2_1 3) 3))), (4, .int (pyf py (ixf f pa (ixf f pa i2_1 3) 1))), (0, .ref m0), (1, .int i2_1), (2, .int (pa (Int32.toNatClampNeg i2_1))), (3, .int (f1 f (pa (Int32.toNatClampNeg i2_1))))], [.int (pyf py (ixf f pa (ixf f pa i2_1 3) 3)), .ref m0], M)) rfl ?_
                            refine ml_call (a := [.ref m0, .int (pyf py (ixf f pa (ixf f pa i2_1 3) 3))]) (rest := []) rfl (hR.okc rfl rfl rfl) rfl rfl (rm_isMethod hR hY (hyB.2.2.1) (hyB.2.2.2) (by omega)) (fun v54 M55 h56 => ?_)
                            obtain ⟨⟨u57, rfl, z58, w59⟩, h56⟩ := h56
                            rw [h56]
                            show ml _ _ _ (409, [(5, .int (pyf py (ixf f pa (ixf f pa i2_1 3) 3))), (4, .int (pyf py (ixf f pa (ixf f pa i2_1 3) 1))), (0, .ref m0), (1, .int i2_1), (2, .int (pa (Int32.toNatClampNeg i2_1))), (3, .int (f1 f (pa (Int32.toNatClampNeg i2_1))))], [.int u57], M) _
                            refine ml_if (S1 := (420, [(0, .ref m0), (1, .int i2_1)], [], M)) (S2 := (412, [(0, .ref m0), (2, .int (pa (Int32.toNatClampNeg i2_1)))], [], M)) rfl rfl rfl (fun c_409 => ?_) (fun c_409 => ?_)
                            · have c_409 : ¬ u57 = 0 := of_decide_eq_true c_409
                              exact J_420  (fun _ => ⟨by rw [htg]; exact hix, by rw [htg]; exact hj_84, by rw [htg]; exact (fun h => by rcases h with h | h | h; exact hj_277 (Or.inl h); exact hj_277 (Or.inr h); exact w59.resolve_left c_409), by rw [htg]; exact (fun h => absurd h c_388)⟩)
                            · have c_409 : ¬ (¬ u57 = 0) := of_decide_eq_false c_409
                              refine ml_blk 3 (S' := (416, [(0, .ref m0), (2, .int (pa (Int32.toNatClampNeg i2_1)))], [.int (pa (Int32.toNatClampNeg i2_1)), .int 14, .ref m0], M)) rfl ?_
                              refine ml_call (a := [.ref m0, .int 14, .int (pa (Int32.toNatClampNeg i2_1))]) (rest := []) rfl (hR.okc rfl rfl rfl) rfl rfl (rm_wrong hR (by omega)) (fun v60 M61 h62 => ?_)
                              obtain ⟨u68, I63, R64, rfl, hR65, hI66, hV67, z69, w70⟩ := h62
                              show ml _ _ _ (419, [(0, .ref m0), (2, .int (pa (Int32.toNatClampNeg i2_1)))], [.int u68], M61) _
                              exact ml_ret rfl (r_z (z69)) (⟨_, _, _, rfl, hR65, (eqI.rf.tr hI66 (by decide)), (eqR.rf.tr hV67 (by decide)), z69, Or.inl w70⟩)
                          · have c_388 : ¬ (¬ (f1 f (pa (Int32.toNatClampNeg i2_1))) = 17) := of_decide_eq_false c_388
                            refine ml_blk 2 (S' := (394, [(5, .int (pyf py (ixf f pa (ixf f pa i2_1 3) 3))), (4, .int (pyf py (ixf f pa (ixf f pa i2_1 3) 1))), (0, .ref m0), (1, .int i2_1), (2, .int (pa (Int32.toNatClampNeg i2_1))), (3, .int (f1 f (pa (Int32.toNatClampNeg i2_1))))], [.int (pyf py (ixf f pa (ixf f pa i2_1 3) 3)), .ref m0], M)) rfl ?_
                            refine ml_call (a := [.ref m0, .int (pyf py (ixf f pa (ixf f pa i2_1 3) 3))]) (rest := []) rfl (hR.okc rfl rfl rfl) rfl rfl (rm_isField hR hY (hyB.2.2.1) (hyB.2.2.2) (by omega)) (fun v71 M72 h73 => ?_)
                            obtain ⟨⟨u74, rfl, z75, w76⟩, h73⟩ := h73
                            rw [h73]
                            show ml _ _ _ (397, [(5, .int (pyf py (ixf f pa (ixf f pa i2_1 3) 3))), (4, .int (pyf py (ixf f pa (ixf f pa i2_1 3) 1))), (0, .ref m0), (1, .int i2_1), (2, .int (pa (Int32.toNatClampNeg i2_1))), (3, .int (f1 f (pa (Int32.toNatClampNeg i2_1))))], [.int u74], M) _
                            refine ml_if (S1 := (412, [(0, .ref m0), (2, .int (pa (Int32.toNatClampNeg i2_1)))], [], M)) (S2 := (400, [(5, .int (pyf py (ixf f pa (ixf f pa i2_1 3) 3))), (4, .int (pyf py (ixf f pa (ixf f pa i2_1 3) 1))), (0, .ref m0), (1, .int i2_1), (2, .int (pa (Int32.toNatClampNeg i2_1))), (3, .int (f1 f (pa (Int32.toNatClampNeg i2_1))))], [], M)) rfl rfl rfl (fun c_397 => ?_) (fun c_397 => ?_)
                            · have c_397 : u74 = 0 := of_decide_eq_true c_397
                              refine ml_blk 3 (S' := (416, [(0, .ref m0), (2, .int (pa (Int32.toNatClampNeg i2_1)))], [.int (pa (Int32.toNatClampNeg i2_1)), .int 14, .ref m0], M)) rfl ?_
                              refine ml_call (a := [.ref m0, .int 14, .int (pa (Int32.toNatClampNeg i2_1))]) (rest := []) rfl (hR.okc rfl rfl rfl) rfl rfl (rm_wrong hR (by omega)) (fun v77 M78 h79 => ?_)
                              obtain ⟨u85, I80, R81, rfl, hR82, hI83, hV84, z86, w87⟩ := h79
                              show ml _ _ _ (419, [(0, .ref m0), (2, .int (pa (Int32.toNatClampNeg i2_1)))], [.int u85], M78) _
                              exact ml_ret rfl (r_z (z86)) (⟨_, _, _, rfl, hR82, (eqI.rf.tr hI83 (by decide)), (eqR.rf.tr hV84 (by decide)), z86, Or.inl w87⟩)
                            · have c_397 : ¬ (u74 = 0) := of_decide_eq_false c_397
                              refine ml_st (S' := (420, [(0, .ref m0), (1, .int i2_1)], [], M)) rfl rfl rfl ?_
                              exact J_420  (fun _ => ⟨by rw [htg]; exact hix, by rw [htg]; exact hj_84, by rw [htg]; exact (fun h => by rcases h with h | h | h; exact hj_277 (Or.inl h); exact hj_277 (Or.inr h); exact absurd ((Decidable.not_not.mp c_388).symm.trans h) (by decide)), by rw [htg]; exact (fun h => w76.resolve_left c_397)⟩)
                      refine ml_if2 (S1 := (342, [(0, .ref m0), (1, .int i2_1), (2, .int (pa (Int32.toNatClampNeg i2_1))), (3, .int (f1 f (pa (Int32.toNatClampNeg i2_1))))], [], M)) (S2 := (336, [(0, .ref m0), (1, .int i2_1), (2, .int (pa (Int32.toNatClampNeg i2_1))), (3, .int (f1 f (pa (Int32.toNatClampNeg i2_1))))], [], M)) rfl rfl rfl (fun c_333 => ?_) (fun c_333 => ?_)
                      · have c_333 : (f1 f (pa (Int32.toNatClampNeg i2_1))) = 17 := of_decide_eq_true c_333
                        exact J_342  (Or.inl c_333)
                      · have c_333 : ¬ ((f1 f (pa (Int32.toNatClampNeg i2_1))) = 17) := of_decide_eq_false c_333
                        refine ml_blk 2 (S' := (339, [(0, .ref m0), (1, .int i2_1), (2, .int (pa (Int32.toNatClampNeg i2_1))), (3, .int (f1 f (pa (Int32.toNatClampNeg i2_1))))], [.int 18, .int (f1 f (pa (Int32.toNatClampNeg i2_1)))], M)) rfl ?_
                        refine ml_if2 (S1 := (420, [(0, .ref m0), (1, .int i2_1)], [], M)) (S2 := (342, [(0, .ref m0), (1, .int i2_1), (2, .int (pa (Int32.toNatClampNeg i2_1))), (3, .int (f1 f (pa (Int32.toNatClampNeg i2_1))))], [], M)) rfl rfl rfl (fun c_339 => ?_) (fun c_339 => ?_)
                        · have c_339 : ¬ (f1 f (pa (Int32.toNatClampNeg i2_1))) = 18 := of_decide_eq_true c_339
                          exact J_420  (fun _ => ⟨by rw [htg]; exact hix, by rw [htg]; exact hj_84, by rw [htg]; exact (fun h => by rcases h with h | h | h; exact hj_277 (Or.inl h); exact hj_277 (Or.inr h); exact absurd h c_339), by rw [htg]; exact (fun h => absurd h c_333)⟩)
                        · have c_339 : ¬ (¬ (f1 f (pa (Int32.toNatClampNeg i2_1))) = 18) := of_decide_eq_false c_339
                          exact J_342  (Or.inr (Decidable.not_not.mp c_339))
                    refine ml_if2 (S1 := (330, [(0, .ref m0), (1, .int i2_1), (2, .int (pa (Int32.toNatClampNeg i2_1))), (3, .int (f1 f (pa (Int32.toNatClampNeg i2_1))))], [], M)) (S2 := (305, [(0, .ref m0), (1, .int i2_1), (2, .int (pa (Int32.toNatClampNeg i2_1))), (3, .int (f1 f (pa (Int32.toNatClampNeg i2_1))))], [], M)) rfl rfl rfl (fun c_302 => ?_) (fun c_302 => ?_)
                    · have c_302 : ¬ (f1 f (pa (Int32.toNatClampNeg i2_1))) = 16 := of_decide_eq_true c_302
                      exact J_330 
                    · have c_302 : ¬ (¬ (f1 f (pa (Int32.toNatClampNeg i2_1))) = 16) := of_decide_eq_false c_302
                      have hi7 := hix.1 (Or.inr (Or.inr (Or.inl (Decidable.not_not.mp c_302))))
                      have hy7 := hP.y hi7
                      refine ml_blk 3 (S' := (308, [(0, .ref m0), (1, .int i2_1), (2, .int (pa (Int32.toNatClampNeg i2_1))), (3, .int (f1 f (pa (Int32.toNatClampNeg i2_1))))], [.ref m0, .ref m0, .ref m0], M)) rfl ?_
                      refine ml_blk 2 (S' := (310, [(0, .ref m0), (1, .int i2_1), (2, .int (pa (Int32.toNatClampNeg i2_1))), (3, .int (f1 f (pa (Int32.toNatClampNeg i2_1))))], [.int 1, .int i2_1, .ref m0, .ref m0, .ref m0], M)) rfl ?_
                      refine ml_call (a := [.ref m0, .int i2_1, .int 1]) (rest := [.ref m0, .ref m0]) rfl (hR.okc rfl rfl rfl) rfl rfl (rm_index hR hF hP ((hP.tg (htg.trans (Decidable.not_not.mp c_302)) (by decide)).1) ((hP.tg (htg.trans (Decidable.not_not.mp c_302)) (by decide)).2.1) ((hP.tg (htg.trans (Decidable.not_not.mp c_302)) (by decide)).2.2.1) (by decide) (by have q := (hP.tg (htg.trans (Decidable.not_not.mp c_302)) (by decide)).2.2.2.2; rw [show esz _ = 3 from rfl] at q; have : (1 : Int32).toInt = 1 := rfl; omega) (by omega)) (fun v88 M89 h90 => ?_)
                      obtain ⟨rfl, h90⟩ := h90
                      rw [h90]
                      show ml _ _ _ (313, [(0, .ref m0), (1, .int i2_1), (2, .int (pa (Int32.toNatClampNeg i2_1))), (3, .int (f1 f (pa (Int32.toNatClampNeg i2_1))))], [.int (ixf f pa i2_1 1), .ref m0, .ref m0], M) _
                      refine ml_call (a := [.ref m0, .int (ixf f pa i2_1 1)]) (rest := [.ref m0]) rfl (hR.okc rfl rfl rfl) rfl rfl (rm_symOf hR hP (hi7) (by omega)) (fun v91 M92 h93 => ?_)
                      obtain ⟨rfl, h93⟩ := h93
                      rw [h93]
                      show ml _ _ _ (316, [(0, .ref m0), (1, .int i2_1), (2, .int (pa (Int32.toNatClampNeg i2_1))), (3, .int (f1 f (pa (Int32.toNatClampNeg i2_1))))], [.int (pyf py (ixf f pa i2_1 1)), .ref m0], M) _
                      refine ml_call (a := [.ref m0, .int (pyf py (ixf f pa i2_1 1))]) (rest := []) rfl (hR.okc rfl rfl rfl) rfl rfl (rm_isMethod hR hY (hy7.2.2.1) (hy7.2.2.2) (by omega)) (fun v94 M95 h96 => ?_)
                      obtain ⟨⟨u97, rfl, z98, w99⟩, h96⟩ := h96
                      rw [h96]
                      show ml _ _ _ (319, [(0, .ref m0), (1, .int i2_1), (2, .int (pa (Int32.toNatClampNeg i2_1))), (3, .int (f1 f (pa (Int32.toNatClampNeg i2_1))))], [.int u97], M) _
                      refine ml_if (S1 := (330, [(0, .ref m0), (1, .int i2_1), (2, .int (pa (Int32.toNatClampNeg i2_1))), (3, .int (f1 f (pa (Int32.toNatClampNeg i2_1))))], [], M)) (S2 := (322, [(0, .ref m0), (1, .int i2_1), (2, .int (pa (Int32.toNatClampNeg i2_1))), (3, .int (f1 f (pa (Int32.toNatClampNeg i2_1))))], [], M)) rfl rfl rfl (fun c_319 => ?_) (fun c_319 => ?_)
                      · have c_319 : ¬ u97 = 0 := of_decide_eq_true c_319
                        exact J_330 
                      · have c_319 : ¬ (¬ u97 = 0) := of_decide_eq_false c_319
                        refine ml_blk 3 (S' := (326, [(0, .ref m0), (1, .int i2_1), (2, .int (pa (Int32.toNatClampNeg i2_1))), (3, .int (f1 f (pa (Int32.toNatClampNeg i2_1))))], [.int (pa (Int32.toNatClampNeg i2_1)), .int 14, .ref m0], M)) rfl ?_
                        refine ml_call (a := [.ref m0, .int 14, .int (pa (Int32.toNatClampNeg i2_1))]) (rest := []) rfl (hR.okc rfl rfl rfl) rfl rfl (rm_wrong hR (by omega)) (fun v100 M101 h102 => ?_)
                        obtain ⟨u108, I103, R104, rfl, hR105, hI106, hV107, z109, w110⟩ := h102
                        show ml _ _ _ (329, [(0, .ref m0), (1, .int i2_1), (2, .int (pa (Int32.toNatClampNeg i2_1))), (3, .int (f1 f (pa (Int32.toNatClampNeg i2_1))))], [.int u108], M101) _
                        exact ml_ret rfl (r_z (z109)) (⟨_, _, _, rfl, hR105, (eqI.rf.tr hI106 (by decide)), (eqR.rf.tr hV107 (by decide)), z109, Or.inl w110⟩)
                  refine ml_if2 (S1 := (299, [(0, .ref m0), (1, .int i2_1), (2, .int (pa (Int32.toNatClampNeg i2_1))), (3, .int (f1 f (pa (Int32.toNatClampNeg i2_1))))], [], M)) (S2 := (283, [(0, .ref m0), (1, .int i2_1), (2, .int (pa (Int32.toNatClampNeg i2_1))), (3, .int (f1 f (pa (Int32.toNatClampNeg i2_1))))], [], M)) rfl rfl rfl (fun c_280 => ?_) (fun c_280 => ?_)
                  · have c_280 : ¬ (f1 f (pa (Int32.toNatClampNeg i2_1))) = 15 := of_decide_eq_true c_280
                    exact J_299 
                  · have c_280 : ¬ (¬ (f1 f (pa (Int32.toNatClampNeg i2_1))) = 15) := of_decide_eq_false c_280
                    refine ml_blk 2 (S' := (285, [(0, .ref m0), (1, .int i2_1), (2, .int (pa (Int32.toNatClampNeg i2_1))), (3, .int (f1 f (pa (Int32.toNatClampNeg i2_1))))], [.int i2_1, .ref m0], M)) rfl ?_
                    refine ml_call (a := [.ref m0, .int i2_1]) (rest := []) rfl (hR.okc rfl rfl rfl) rfl rfl (rm_handleEntry hR (hk9) hF hY hP (htg.trans (Decidable.not_not.mp c_280)) (by have q := hix; rw [show (f1 f (pa (Int32.toNatClampNeg i2_1))) = 15 from Decidable.not_not.mp c_280] at q; exact q) (by omega)) (fun v111 M112 h113 => ?_)
                    obtain ⟨⟨u114, rfl, z115⟩, h113⟩ := h113
                    rw [h113]
                    show ml _ _ _ (288, [(0, .ref m0), (1, .int i2_1), (2, .int (pa (Int32.toNatClampNeg i2_1))), (3, .int (f1 f (pa (Int32.toNatClampNeg i2_1))))], [.int u114], M) _
                    refine ml_if (S1 := (299, [(0, .ref m0), (1, .int i2_1), (2, .int (pa (Int32.toNatClampNeg i2_1))), (3, .int (f1 f (pa (Int32.toNatClampNeg i2_1))))], [], M)) (S2 := (291, [(0, .ref m0), (1, .int i2_1), (2, .int (pa (Int32.toNatClampNeg i2_1))), (3, .int (f1 f (pa (Int32.toNatClampNeg i2_1))))], [], M)) rfl rfl rfl (fun c_288 => ?_) (fun c_288 => ?_)
                    · have c_288 : ¬ u114 = 0 := of_decide_eq_true c_288
                      exact J_299 
                    · have c_288 : ¬ (¬ u114 = 0) := of_decide_eq_false c_288
                      refine ml_blk 3 (S' := (295, [(0, .ref m0), (1, .int i2_1), (2, .int (pa (Int32.toNatClampNeg i2_1))), (3, .int (f1 f (pa (Int32.toNatClampNeg i2_1))))], [.int (pa (Int32.toNatClampNeg i2_1)), .int 13, .ref m0], M)) rfl ?_
                      refine ml_call (a := [.ref m0, .int 13, .int (pa (Int32.toNatClampNeg i2_1))]) (rest := []) rfl (hR.okc rfl rfl rfl) rfl rfl (rm_wrong hR (by omega)) (fun v116 M117 h118 => ?_)
                      obtain ⟨u124, I119, R120, rfl, hR121, hI122, hV123, z125, w126⟩ := h118
                      show ml _ _ _ (298, [(0, .ref m0), (1, .int i2_1), (2, .int (pa (Int32.toNatClampNeg i2_1))), (3, .int (f1 f (pa (Int32.toNatClampNeg i2_1))))], [.int u124], M117) _
                      exact ml_ret rfl (r_z (z125)) (⟨_, _, _, rfl, hR121, (eqI.rf.tr hI122 (by decide)), (eqR.rf.tr hV123 (by decide)), z125, Or.inl w126⟩)
                refine ml_if2 (S1 := (277, [(0, .ref m0), (1, .int i2_1), (2, .int (pa (Int32.toNatClampNeg i2_1))), (3, .int (f1 f (pa (Int32.toNatClampNeg i2_1))))], [], M)) (S2 := (156, [(0, .ref m0), (1, .int i2_1), (2, .int (pa (Int32.toNatClampNeg i2_1))), (3, .int (f1 f (pa (Int32.toNatClampNeg i2_1))))], [], M)) rfl rfl rfl (fun c_153 => ?_) (fun c_153 => ?_)
                · have c_153 : (f1 f (pa (Int32.toNatClampNeg i2_1))) < 9 := of_decide_eq_true c_153
                  exact J_277  (fun h => by have q := i_lt c_153; rcases h with h | h <;> (rw [h] at q; exact absurd q (by decide)))
                · have c_153 : ¬ ((f1 f (pa (Int32.toNatClampNeg i2_1))) < 9) := of_decide_eq_false c_153
                  refine ml_blk 2 (S' := (159, [(0, .ref m0), (1, .int i2_1), (2, .int (pa (Int32.toNatClampNeg i2_1))), (3, .int (f1 f (pa (Int32.toNatClampNeg i2_1))))], [.int 11, .int (f1 f (pa (Int32.toNatClampNeg i2_1)))], M)) rfl ?_
                  refine ml_if2 (S1 := (277, [(0, .ref m0), (1, .int i2_1), (2, .int (pa (Int32.toNatClampNeg i2_1))), (3, .int (f1 f (pa (Int32.toNatClampNeg i2_1))))], [], M)) (S2 := (162, [(0, .ref m0), (1, .int i2_1), (2, .int (pa (Int32.toNatClampNeg i2_1))), (3, .int (f1 f (pa (Int32.toNatClampNeg i2_1))))], [], M)) rfl rfl rfl (fun c_159 => ?_) (fun c_159 => ?_)
                  · have c_159 : 11 < (f1 f (pa (Int32.toNatClampNeg i2_1))) := of_decide_eq_true c_159
                    exact J_277  (fun h => by have q := i_lt c_159; rcases h with h | h <;> (rw [h] at q; exact absurd q (by decide)))
                  · have c_159 : ¬ (11 < (f1 f (pa (Int32.toNatClampNeg i2_1)))) := of_decide_eq_false c_159
                    have h9 := (⟨by have q := i_nlt c_153; have : (9 : Int32).toInt = 9 := rfl; omega, by have q := i_nlt c_159; have : (11 : Int32).toInt = 11 := rfl; omega⟩ : t9 (f1 f (pa (Int32.toNatClampNeg i2_1))))
                    have hi9 := hix.2.2.1 h9
                    have hyA := hP.y hi9.2.2.2.1
                    have hyB := hP.y hi9.2.2.2.2
                    refine ml_blk 3 (S' := (165, [(0, .ref m0), (1, .int i2_1), (2, .int (pa (Int32.toNatClampNeg i2_1))), (3, .int (f1 f (pa (Int32.toNatClampNeg i2_1))))], [.ref m0, .ref m0, .ref m0], M)) rfl ?_
                    refine ml_blk 2 (S' := (167, [(0, .ref m0), (1, .int i2_1), (2, .int (pa (Int32.toNatClampNeg i2_1))), (3, .int (f1 f (pa (Int32.toNatClampNeg i2_1))))], [.int 3, .int i2_1, .ref m0, .ref m0, .ref m0], M)) rfl ?_
                    refine ml_call (a := [.ref m0, .int i2_1, .int 3]) (rest := [.ref m0, .ref m0]) rfl (hR.okc rfl rfl rfl) rfl rfl (rm_index hR hF hP ((hP.tg htg (t9_n0 h9)).1) ((hP.tg htg (t9_n0 h9)).2.1) ((hP.tg htg (t9_n0 h9)).2.2.1) (by decide) (by have q := (hP.tg htg (t9_n0 h9)).2.2.2.2; rw [show esz _ = 5 from esz_9 h9] at q; have : (3 : Int32).toInt = 3 := rfl; omega) (by omega)) (fun v127 M128 h129 => ?_)
                    obtain ⟨rfl, h129⟩ := h129
                    rw [h129]
                    show ml _ _ _ (170, [(0, .ref m0), (1, .int i2_1), (2, .int (pa (Int32.toNatClampNeg i2_1))), (3, .int (f1 f (pa (Int32.toNatClampNeg i2_1))))], [.int (ixf f pa i2_1 3), .ref m0, .ref m0], M) _
                    refine ml_st (S' := (171, [(0, .ref m0), (1, .int i2_1), (2, .int (pa (Int32.toNatClampNeg i2_1))), (3, .int (f1 f (pa (Int32.toNatClampNeg i2_1))))], [.int 1, .int (ixf f pa i2_1 3), .ref m0, .ref m0], M)) rfl rfl rfl ?_
                    refine ml_call (a := [.ref m0, .int (ixf f pa i2_1 3), .int 1]) (rest := [.ref m0]) rfl (hR.okc rfl rfl rfl) rfl rfl (rm_index hR hF hP ((hP.tg hi9.2.2.1 (by decide)).1) ((hP.tg hi9.2.2.1 (by decide)).2.1) ((hP.tg hi9.2.2.1 (by decide)).2.2.1) (by decide) (by have q := (hP.tg hi9.2.2.1 (by decide)).2.2.2.2; rw [show esz _ = 5 from rfl] at q; have : (1 : Int32).toInt = 1 := rfl; omega) (by omega)) (fun v130 M131 h132 => ?_)
                    obtain ⟨rfl, h132⟩ := h132
                    rw [h132]
                    show ml _ _ _ (174, [(0, .ref m0), (1, .int i2_1), (2, .int (pa (Int32.toNatClampNeg i2_1))), (3, .int (f1 f (pa (Int32.toNatClampNeg i2_1))))], [.int (ixf f pa (ixf f pa i2_1 3) 1), .ref m0], M) _
                    refine ml_call (a := [.ref m0, .int (ixf f pa (ixf f pa i2_1 3) 1)]) (rest := []) rfl (hR.okc rfl rfl rfl) rfl rfl (rm_symOf hR hP (hi9.2.2.2.1) (by omega)) (fun v133 M134 h135 => ?_)
                    obtain ⟨rfl, h135⟩ := h135
                    rw [h135]
                    show ml _ _ _ (177, [(0, .ref m0), (1, .int i2_1), (2, .int (pa (Int32.toNatClampNeg i2_1))), (3, .int (f1 f (pa (Int32.toNatClampNeg i2_1))))], [.int (pyf py (ixf f pa (ixf f pa i2_1 3) 1))], M) _
                    refine ml_st (S' := (179, [(4, .int (pyf py (ixf f pa (ixf f pa i2_1 3) 1))), (0, .ref m0), (1, .int i2_1), (2, .int (pa (Int32.toNatClampNeg i2_1))), (3, .int (f1 f (pa (Int32.toNatClampNeg i2_1))))], [], M)) rfl rfl rfl ?_
                    refine ml_blk 3 (S' := (182, [(4, .int (pyf py (ixf f pa (ixf f pa i2_1 3) 1))), (0, .ref m0), (1, .int i2_1), (2, .int (pa (Int32.toNatClampNeg i2_1))), (3, .int (f1 f (pa (Int32.toNatClampNeg i2_1))))], [.ref m0, .ref m0, .ref m0], M)) rfl ?_
                    refine ml_blk 2 (S' := (184, [(4, .int (pyf py (ixf f pa (ixf f pa i2_1 3) 1))), (0, .ref m0), (1, .int i2_1), (2, .int (pa (Int32.toNatClampNeg i2_1))), (3, .int (f1 f (pa (Int32.toNatClampNeg i2_1))))], [.int 3, .int i2_1, .ref m0, .ref m0, .ref m0], M)) rfl ?_
                    refine ml_call (a := [.ref m0, .int i2_1, .int 3]) (rest := [.ref m0, .ref m0]) rfl (hR.okc rfl rfl rfl) rfl rfl (rm_index hR hF hP ((hP.tg htg (t9_n0 h9)).1) ((hP.tg htg (t9_n0 h9)).2.1) ((hP.tg htg (t9_n0 h9)).2.2.1) (by decide) (by have q := (hP.tg htg (t9_n0 h9)).2.2.2.2; rw [show esz _ = 5 from esz_9 h9] at q; have : (3 : Int32).toInt = 3 := rfl; omega) (by omega)) (fun v136 M137 h138 => ?_)
                    obtain ⟨rfl, h138⟩ := h138
                    rw [h138]
                    show ml _ _ _ (187, [(4, .int (pyf py (ixf f pa (ixf f pa i2_1 3) 1))), (0, .ref m0), (1, .int i2_1), (2, .int (pa (Int32.toNatClampNeg i2_1))), (3, .int (f1 f (pa (Int32.toNatClampNeg i2_1))))], [.int (ixf f pa i2_1 3), .ref m0, .ref m0], M) _
                    refine ml_st (S' := (188, [(4, .int (pyf py (ixf f pa (ixf f pa i2_1 3) 1))), (0, .ref m0), (1, .int i2_1), (2, .int (pa (Int32.toNatClampNeg i2_1))), (3, .int (f1 f (pa (Int32.toNatClampNeg i2_1))))], [.int 3, .int (ixf f pa i2_1 3), .ref m0, .ref m0], M)) rfl rfl rfl ?_
                    refine ml_call (a := [.ref m0, .int (ixf f pa i2_1 3), .int 3]) (rest := [.ref m0]) rfl (hR.okc rfl rfl rfl) rfl rfl (rm_index hR hF hP ((hP.tg hi9.2.2.1 (by decide)).1) ((hP.tg hi9.2.2.1 (by decide)).2.1) ((hP.tg hi9.2.2.1 (by decide)).2.2.1) (by decide) (by have q := (hP.tg hi9.2.2.1 (by decide)).2.2.2.2; rw [show esz _ = 5 from rfl] at q; have : (3 : Int32).toInt = 3 := rfl; omega) (by omega)) (fun v139 M140 h141 => ?_)
                    obtain ⟨rfl, h141⟩ := h141
                    rw [h141]
                    show ml _ _ _ (191, [(4, .int (pyf py (ixf f pa (ixf f pa i2_1 3) 1))), (0, .ref m0), (1, .int i2_1), (2, .int (pa (Int32.toNatClampNeg i2_1))), (3, .int (f1 f (pa (Int32.toNatClampNeg i2_1))))], [.int (ixf f pa (ixf f pa i2_1 3) 3), .ref m0], M) _
                    refine ml_call (a := [.ref m0, .int (ixf f pa (ixf f pa i2_1 3) 3)]) (rest := []) rfl (hR.okc rfl rfl rfl) rfl rfl (rm_symOf hR hP (hi9.2.2.2.2) (by omega)) (fun v142 M143 h144 => ?_)
                    obtain ⟨rfl, h144⟩ := h144
                    rw [h144]
                    show ml _ _ _ (194, [(4, .int (pyf py (ixf f pa (ixf f pa i2_1 3) 1))), (0, .ref m0), (1, .int i2_1), (2, .int (pa (Int32.toNatClampNeg i2_1))), (3, .int (f1 f (pa (Int32.toNatClampNeg i2_1))))], [.int (pyf py (ixf f pa (ixf f pa i2_1 3) 3))], M) _
                    refine ml_st (S' := (196, [(5, .int (pyf py (ixf f pa (ixf f pa i2_1 3) 3))), (4, .int (pyf py (ixf f pa (ixf f pa i2_1 3) 1))), (0, .ref m0), (1, .int i2_1), (2, .int (pa (Int32.toNatClampNeg i2_1))), (3, .int (f1 f (pa (Int32.toNatClampNeg i2_1))))], [], M)) rfl rfl rfl ?_
                    refine ml_blk 2 (S' := (199, [(5, .int (pyf py (ixf f pa (ixf f pa i2_1 3) 3))), (4, .int (pyf py (ixf f pa (ixf f pa i2_1 3) 1))), (0, .ref m0), (1, .int i2_1), (2, .int (pa (Int32.toNatClampNeg i2_1))), (3, .int (f1 f (pa (Int32.toNatClampNeg i2_1))))], [.int (pyf py (ixf f pa (ixf f pa i2_1 3) 1)), .ref m0], M)) rfl ?_
                    refine ml_call (a := [.ref m0, .int (pyf py (ixf f pa (ixf f pa i2_1 3) 1))]) (rest := []) rfl (hR.okc rfl rfl rfl) rfl rfl (rm_angles hR hY (hyA.2.2.1) (hyA.2.2.2) (by omega)) (fun v145 M146 h147 => ?_)
                    obtain ⟨⟨u148, rfl, z149⟩, h147⟩ := h147
                    rw [h147]
                    show ml _ _ _ (202, [(5, .int (pyf py (ixf f pa (ixf f pa i2_1 3) 3))), (4, .int (pyf py (ixf f pa (ixf f pa i2_1 3) 1))), (0, .ref m0), (1, .int i2_1), (2, .int (pa (Int32.toNatClampNeg i2_1))), (3, .int (f1 f (pa (Int32.toNatClampNeg i2_1))))], [.int u148], M) _
                    refine ml_st (S' := (204, [(6, .int u148), (5, .int (pyf py (ixf f pa (ixf f pa i2_1 3) 3))), (4, .int (pyf py (ixf f pa (ixf f pa i2_1 3) 1))), (0, .ref m0), (1, .int i2_1), (2, .int (pa (Int32.toNatClampNeg i2_1))), (3, .int (f1 f (pa (Int32.toNatClampNeg i2_1))))], [], M)) rfl rfl rfl ?_
                    refine ml_blk 2 (S' := (207, [(6, .int u148), (5, .int (pyf py (ixf f pa (ixf f pa i2_1 3) 3))), (4, .int (pyf py (ixf f pa (ixf f pa i2_1 3) 1))), (0, .ref m0), (1, .int i2_1), (2, .int (pa (Int32.toNatClampNeg i2_1))), (3, .int (f1 f (pa (Int32.toNatClampNeg i2_1))))], [.int 9, .int (f1 f (pa (Int32.toNatClampNeg i2_1)))], M)) rfl ?_
                    have J_262 : ∀ (s262_0 : Int32), (s262_0 = 0 ∨ ((f1 f (pa (Int32.toNatClampNeg i2_1))) = 10 ∨ (f1 f (pa (Int32.toNatClampNeg i2_1))) = 11 → MTX sa sl ch (pyf py (ixf f pa (ixf f pa i2_1 3) 3)))) → ml (mT g) d (mb_192 g).2 (262, [(0, .ref m0), (1, .int i2_1), (2, .int (pa (Int32.toNatClampNeg i2_1))), (3, .int (f1 f (pa (Int32.toNatClampNeg i2_1))))], [.int s262_0], M) (fun v M' => ∃ (x : Int32) (I' : rI) (R' : rR), v = some (.int x) ∧ RS g m0 q z I' R' M' ∧ eqI [47, 48] I I' ∧ eqR [] R R' ∧ (x = 0 ∨ x = 1) ∧ (x = 0 ∨ EK f cp pa py sa sl ch)) := by
                      intro s262_0 hj_262
                      refine ml_st (S' := (264, [(7, .int s262_0), (0, .ref m0), (1, .int i2_1), (2, .int (pa (Int32.toNatClampNeg i2_1))), (3, .int (f1 f (pa (Int32.toNatClampNeg i2_1))))], [], M)) rfl rfl rfl ?_
                      refine ml_st (S' := (266, [(7, .int s262_0), (0, .ref m0), (1, .int i2_1), (2, .int (pa (Int32.toNatClampNeg i2_1))), (3, .int (f1 f (pa (Int32.toNatClampNeg i2_1))))], [.int s262_0], M)) rfl rfl rfl ?_
                      refine ml_if (S1 := (277, [(0, .ref m0), (1, .int i2_1), (2, .int (pa (Int32.toNatClampNeg i2_1))), (3, .int (f1 f (pa (Int32.toNatClampNeg i2_1))))], [], M)) (S2 := (269, [(7, .int s262_0), (0, .ref m0), (1, .int i2_1), (2, .int (pa (Int32.toNatClampNeg i2_1))), (3, .int (f1 f (pa (Int32.toNatClampNeg i2_1))))], [], M)) rfl rfl rfl (fun c_266 => ?_) (fun c_266 => ?_)
                      · have c_266 : ¬ s262_0 = 0 := of_decide_eq_true c_266
                        exact J_277  (hj_262.resolve_left c_266)
                      · have c_266 : ¬ (¬ s262_0 = 0) := of_decide_eq_false c_266
                        refine ml_blk 3 (S' := (273, [(7, .int s262_0), (0, .ref m0), (1, .int i2_1), (2, .int (pa (Int32.toNatClampNeg i2_1))), (3, .int (f1 f (pa (Int32.toNatClampNeg i2_1))))], [.int (pa (Int32.toNatClampNeg i2_1)), .int 12, .ref m0], M)) rfl ?_
                        refine ml_call (a := [.ref m0, .int 12, .int (pa (Int32.toNatClampNeg i2_1))]) (rest := []) rfl (hR.okc rfl rfl rfl) rfl rfl (rm_wrong hR (by omega)) (fun v150 M151 h152 => ?_)
                        obtain ⟨u158, I153, R154, rfl, hR155, hI156, hV157, z159, w160⟩ := h152
                        show ml _ _ _ (276, [(7, .int s262_0), (0, .ref m0), (1, .int i2_1), (2, .int (pa (Int32.toNatClampNeg i2_1))), (3, .int (f1 f (pa (Int32.toNatClampNeg i2_1))))], [.int u158], M151) _
                        exact ml_ret rfl (r_z (z159)) (⟨_, _, _, rfl, hR155, (eqI.rf.tr hI156 (by decide)), (eqR.rf.tr hV157 (by decide)), z159, Or.inl w160⟩)
                    refine ml_if2 (S1 := (219, [(6, .int u148), (5, .int (pyf py (ixf f pa (ixf f pa i2_1 3) 3))), (4, .int (pyf py (ixf f pa (ixf f pa i2_1 3) 1))), (0, .ref m0), (1, .int i2_1), (2, .int (pa (Int32.toNatClampNeg i2_1))), (3, .int (f1 f (pa (Int32.toNatClampNeg i2_1))))], [], M)) (S2 := (210, [(6, .int u148), (5, .int (pyf py (ixf f pa (ixf f pa i2_1 3) 3))), (4, .int (pyf py (ixf f pa (ixf f pa i2_1 3) 1))), (0, .ref m0), (1, .int i2_1), (2, .int (pa (Int32.toNatClampNeg i2_1))), (3, .int (f1 f (pa (Int32.toNatClampNeg i2_1))))], [], M)) rfl rfl rfl (fun c_207 => ?_) (fun c_207 => ?_)
                    · have c_207 : ¬ (f1 f (pa (Int32.toNatClampNeg i2_1))) = 9 := of_decide_eq_true c_207
                      refine ml_blk 2 (S' := (222, [(6, .int u148), (5, .int (pyf py (ixf f pa (ixf f pa i2_1 3) 3))), (4, .int (pyf py (ixf f pa (ixf f pa i2_1 3) 1))), (0, .ref m0), (1, .int i2_1), (2, .int (pa (Int32.toNatClampNeg i2_1))), (3, .int (f1 f (pa (Int32.toNatClampNeg i2_1))))], [.int (pyf py (ixf f pa (ixf f pa i2_1 3) 3)), .ref m0], M)) rfl ?_
                      refine ml_call (a := [.ref m0, .int (pyf py (ixf f pa (ixf f pa i2_1 3) 3))]) (rest := []) rfl (hR.okc rfl rfl rfl) rfl rfl (rm_isMethod hR hY (hyB.2.2.1) (hyB.2.2.2) (by omega)) (fun v161 M162 h163 => ?_)
                      obtain ⟨⟨u164, rfl, z165, w166⟩, h163⟩ := h163
                      rw [h163]
                      show ml _ _ _ (225, [(6, .int u148), (5, .int (pyf py (ixf f pa (ixf f pa i2_1 3) 3))), (4, .int (pyf py (ixf f pa (ixf f pa i2_1 3) 1))), (0, .ref m0), (1, .int i2_1), (2, .int (pa (Int32.toNatClampNeg i2_1))), (3, .int (f1 f (pa (Int32.toNatClampNeg i2_1))))], [.int u164], M) _
                      refine ml_if (S1 := (261, [(0, .ref m0), (1, .int i2_1), (2, .int (pa (Int32.toNatClampNeg i2_1))), (3, .int (f1 f (pa (Int32.toNatClampNeg i2_1))))], [], M)) (S2 := (228, [(6, .int u148), (5, .int (pyf py (ixf f pa (ixf f pa i2_1 3) 3))), (4, .int (pyf py (ixf f pa (ixf f pa i2_1 3) 1))), (0, .ref m0), (1, .int i2_1), (2, .int (pa (Int32.toNatClampNeg i2_1))), (3, .int (f1 f (pa (Int32.toNatClampNeg i2_1))))], [], M)) rfl rfl rfl (fun c_225 => ?_) (fun c_225 => ?_)
                      · have c_225 : u164 = 0 := of_decide_eq_true c_225
                        refine ml_st (S' := (262, [(0, .ref m0), (1, .int i2_1), (2, .int (pa (Int32.toNatClampNeg i2_1))), (3, .int (f1 f (pa (Int32.toNatClampNeg i2_1))))], [.int 0], M)) rfl rfl rfl ?_
                        exact J_262 0 (Or.inl rfl)
                      · have c_225 : ¬ (u164 = 0) := of_decide_eq_false c_225
                        refine ml_st (S' := (230, [(6, .int u148), (5, .int (pyf py (ixf f pa (ixf f pa i2_1 3) 3))), (4, .int (pyf py (ixf f pa (ixf f pa i2_1 3) 1))), (0, .ref m0), (1, .int i2_1), (2, .int (pa (Int32.toNatClampNeg i2_1))), (3, .int (f1 f (pa (Int32.toNatClampNeg i2_1))))], [.int u148], M)) rfl rfl rfl ?_
                        refine ml_if (S1 := (257, [(0, .ref m0), (1, .int i2_1), (2, .int (pa (Int32.toNatClampNeg i2_1))), (3, .int (f1 f (pa (Int32.toNatClampNeg i2_1))))], [], M)) (S2 := (233, [(6, .int u148), (5, .int (pyf py (ixf f pa (ixf f pa i2_1 3) 3))), (4, .int (pyf py (ixf f pa (ixf f pa i2_1 3) 1))), (0, .ref m0), (1, .int i2_1), (2, .int (pa (Int32.toNatClampNeg i2_1))), (3, .int (f1 f (pa (Int32.toNatClampNeg i2_1))))], [], M)) rfl rfl rfl (fun c_230 => ?_) (fun c_230 => ?_)
                        · have c_230 : u148 = 0 := of_decide_eq_true c_230
                          refine ml_st (S' := (258, [(0, .ref m0), (1, .int i2_1), (2, .int (pa (Int32.toNatClampNeg i2_1))), (3, .int (f1 f (pa (Int32.toNatClampNeg i2_1))))], [.int 1], M)) rfl rfl rfl ?_
                          refine ml_st (S' := (262, [(0, .ref m0), (1, .int i2_1), (2, .int (pa (Int32.toNatClampNeg i2_1))), (3, .int (f1 f (pa (Int32.toNatClampNeg i2_1))))], [.int 1], M)) rfl rfl rfl ?_
                          exact J_262 1 (Or.inr (fun _ => w166.resolve_left c_225))
                        · have c_230 : ¬ (u148 = 0) := of_decide_eq_false c_230
                          refine ml_blk 2 (S' := (236, [(6, .int u148), (5, .int (pyf py (ixf f pa (ixf f pa i2_1 3) 3))), (4, .int (pyf py (ixf f pa (ixf f pa i2_1 3) 1))), (0, .ref m0), (1, .int i2_1), (2, .int (pa (Int32.toNatClampNeg i2_1))), (3, .int (f1 f (pa (Int32.toNatClampNeg i2_1))))], [.int 10, .int (f1 f (pa (Int32.toNatClampNeg i2_1)))], M)) rfl ?_
                          refine ml_if2 (S1 := (261, [(0, .ref m0), (1, .int i2_1), (2, .int (pa (Int32.toNatClampNeg i2_1))), (3, .int (f1 f (pa (Int32.toNatClampNeg i2_1))))], [], M)) (S2 := (239, [(6, .int u148), (5, .int (pyf py (ixf f pa (ixf f pa i2_1 3) 3))), (4, .int (pyf py (ixf f pa (ixf f pa i2_1 3) 1))), (0, .ref m0), (1, .int i2_1), (2, .int (pa (Int32.toNatClampNeg i2_1))), (3, .int (f1 f (pa (Int32.toNatClampNeg i2_1))))], [], M)) rfl rfl rfl (fun c_236 => ?_) (fun c_236 => ?_)
                          · have c_236 : ¬ (f1 f (pa (Int32.toNatClampNeg i2_1))) = 10 := of_decide_eq_true c_236
                            refine ml_st (S' := (262, [(0, .ref m0), (1, .int i2_1), (2, .int (pa (Int32.toNatClampNeg i2_1))), (3, .int (f1 f (pa (Int32.toNatClampNeg i2_1))))], [.int 0], M)) rfl rfl rfl ?_
                            exact J_262 0 (Or.inl rfl)
                          · have c_236 : ¬ (¬ (f1 f (pa (Int32.toNatClampNeg i2_1))) = 10) := of_decide_eq_false c_236
                            refine ml_blk 2 (S' := (242, [(6, .int u148), (5, .int (pyf py (ixf f pa (ixf f pa i2_1 3) 3))), (4, .int (pyf py (ixf f pa (ixf f pa i2_1 3) 1))), (0, .ref m0), (1, .int i2_1), (2, .int (pa (Int32.toNatClampNeg i2_1))), (3, .int (f1 f (pa (Int32.toNatClampNeg i2_1))))], [.ref m0, .int (pyf py (ixf f pa (ixf f pa i2_1 3) 1))], M)) rfl ?_
                            refine rg_int (S' := (245, [(6, .int u148), (5, .int (pyf py (ixf f pa (ixf f pa i2_1 3) 3))), (4, .int (pyf py (ixf f pa (ixf f pa i2_1 3) 1))), (0, .ref m0), (1, .int i2_1), (2, .int (pa (Int32.toNatClampNeg i2_1))), (3, .int (f1 f (pa (Int32.toNatClampNeg i2_1))))], [.int si, .int (pyf py (ixf f pa (ixf f pa i2_1 3) 1))], M)) rfl hR rfl (hk9) rfl ?_
                            refine ml_if2 (S1 := (261, [(0, .ref m0), (1, .int i2_1), (2, .int (pa (Int32.toNatClampNeg i2_1))), (3, .int (f1 f (pa (Int32.toNatClampNeg i2_1))))], [], M)) (S2 := (248, [(6, .int u148), (5, .int (pyf py (ixf f pa (ixf f pa i2_1 3) 3))), (4, .int (pyf py (ixf f pa (ixf f pa i2_1 3) 1))), (0, .ref m0), (1, .int i2_1), (2, .int (pa (Int32.toNatClampNeg i2_1))), (3, .int (f1 f (pa (Int32.toNatClampNeg i2_1))))], [], M)) rfl rfl rfl (fun c_245 => ?_) (fun c_245 => ?_)
                            · have c_245 : ¬ (pyf py (ixf f pa (ixf f pa i2_1 3) 1)) = si := of_decide_eq_true c_245
                              refine ml_st (S' := (262, [(0, .ref m0), (1, .int i2_1), (2, .int (pa (Int32.toNatClampNeg i2_1))), (3, .int (f1 f (pa (Int32.toNatClampNeg i2_1))))], [.int 0], M)) rfl rfl rfl ?_
                              exact J_262 0 (Or.inl rfl)
                            · have c_245 : ¬ (¬ (pyf py (ixf f pa (ixf f pa i2_1 3) 1)) = si) := of_decide_eq_false c_245
                              refine ml_blk 2 (S' := (251, [(6, .int u148), (5, .int (pyf py (ixf f pa (ixf f pa i2_1 3) 3))), (4, .int (pyf py (ixf f pa (ixf f pa i2_1 3) 1))), (0, .ref m0), (1, .int i2_1), (2, .int (pa (Int32.toNatClampNeg i2_1))), (3, .int (f1 f (pa (Int32.toNatClampNeg i2_1))))], [.int (pyf py (ixf f pa (ixf f pa i2_1 3) 3)), .ref m0], M)) rfl ?_
                              refine ml_call (a := [.ref m0, .int (pyf py (ixf f pa (ixf f pa i2_1 3) 3))]) (rest := []) rfl (hR.okc rfl rfl rfl) rfl rfl (rm_endsV hR hY (hyB.2.2.1) (hyB.2.2.2) (by have q := (w166.resolve_left c_225).2; omega) (by omega)) (fun v167 M168 h169 => ?_)
                              obtain ⟨⟨u170, rfl, z171⟩, h169⟩ := h169
                              rw [h169]
                              show ml _ _ _ (254, [(6, .int u148), (5, .int (pyf py (ixf f pa (ixf f pa i2_1 3) 3))), (4, .int (pyf py (ixf f pa (ixf f pa i2_1 3) 1))), (0, .ref m0), (1, .int i2_1), (2, .int (pa (Int32.toNatClampNeg i2_1))), (3, .int (f1 f (pa (Int32.toNatClampNeg i2_1))))], [.int u170], M) _
                              refine ml_if (S1 := (261, [(0, .ref m0), (1, .int i2_1), (2, .int (pa (Int32.toNatClampNeg i2_1))), (3, .int (f1 f (pa (Int32.toNatClampNeg i2_1))))], [], M)) (S2 := (257, [(0, .ref m0), (1, .int i2_1), (2, .int (pa (Int32.toNatClampNeg i2_1))), (3, .int (f1 f (pa (Int32.toNatClampNeg i2_1))))], [], M)) rfl rfl rfl (fun c_254 => ?_) (fun c_254 => ?_)
                              · have c_254 : u170 = 0 := of_decide_eq_true c_254
                                refine ml_st (S' := (262, [(0, .ref m0), (1, .int i2_1), (2, .int (pa (Int32.toNatClampNeg i2_1))), (3, .int (f1 f (pa (Int32.toNatClampNeg i2_1))))], [.int 0], M)) rfl rfl rfl ?_
                                exact J_262 0 (Or.inl rfl)
                              · have c_254 : ¬ (u170 = 0) := of_decide_eq_false c_254
                                refine ml_st (S' := (258, [(0, .ref m0), (1, .int i2_1), (2, .int (pa (Int32.toNatClampNeg i2_1))), (3, .int (f1 f (pa (Int32.toNatClampNeg i2_1))))], [.int 1], M)) rfl rfl rfl ?_
                                refine ml_st (S' := (262, [(0, .ref m0), (1, .int i2_1), (2, .int (pa (Int32.toNatClampNeg i2_1))), (3, .int (f1 f (pa (Int32.toNatClampNeg i2_1))))], [.int 1], M)) rfl rfl rfl ?_
                                exact J_262 1 (Or.inr (fun _ => w166.resolve_left c_225))
                    · have c_207 : ¬ (¬ (f1 f (pa (Int32.toNatClampNeg i2_1))) = 9) := of_decide_eq_false c_207
                      refine ml_blk 2 (S' := (213, [(6, .int u148), (5, .int (pyf py (ixf f pa (ixf f pa i2_1 3) 3))), (4, .int (pyf py (ixf f pa (ixf f pa i2_1 3) 1))), (0, .ref m0), (1, .int i2_1), (2, .int (pa (Int32.toNatClampNeg i2_1))), (3, .int (f1 f (pa (Int32.toNatClampNeg i2_1))))], [.int (pyf py (ixf f pa (ixf f pa i2_1 3) 3)), .ref m0], M)) rfl ?_
                      refine ml_call (a := [.ref m0, .int (pyf py (ixf f pa (ixf f pa i2_1 3) 3))]) (rest := []) rfl (hR.okc rfl rfl rfl) rfl rfl (rm_isField hR hY (hyB.2.2.1) (hyB.2.2.2) (by omega)) (fun v172 M173 h174 => ?_)
                      obtain ⟨⟨u175, rfl, z176, w177⟩, h174⟩ := h174
                      rw [h174]
                      show ml _ _ _ (216, [(6, .int u148), (5, .int (pyf py (ixf f pa (ixf f pa i2_1 3) 3))), (4, .int (pyf py (ixf f pa (ixf f pa i2_1 3) 1))), (0, .ref m0), (1, .int i2_1), (2, .int (pa (Int32.toNatClampNeg i2_1))), (3, .int (f1 f (pa (Int32.toNatClampNeg i2_1))))], [.int u175], M) _
                      refine ml_st (S' := (262, [(0, .ref m0), (1, .int i2_1), (2, .int (pa (Int32.toNatClampNeg i2_1))), (3, .int (f1 f (pa (Int32.toNatClampNeg i2_1))))], [.int u175], M)) rfl rfl rfl ?_
                      exact J_262 u175 (Or.inr (fun h => by rcases h with h | h <;> exact absurd ((Decidable.not_not.mp c_207).symm.trans h) (by decide)))
              refine ml_if2 (S1 := (150, [(0, .ref m0), (1, .int i2_1), (2, .int (pa (Int32.toNatClampNeg i2_1))), (3, .int (f1 f (pa (Int32.toNatClampNeg i2_1))))], [], M)) (S2 := (90, [(0, .ref m0), (1, .int i2_1), (2, .int (pa (Int32.toNatClampNeg i2_1))), (3, .int (f1 f (pa (Int32.toNatClampNeg i2_1))))], [], M)) rfl rfl rfl (fun c_87 => ?_) (fun c_87 => ?_)
              · have c_87 : ¬ (f1 f (pa (Int32.toNatClampNeg i2_1))) = 12 := of_decide_eq_true c_87
                exact J_150 
              · have c_87 : ¬ (¬ (f1 f (pa (Int32.toNatClampNeg i2_1))) = 12) := of_decide_eq_false c_87
                have hi12 := hix.2.1 (Decidable.not_not.mp c_87)
                have hyA := hP.y hi12.1
                have hyB := hP.y hi12.2
                refine ml_blk 3 (S' := (93, [(0, .ref m0), (1, .int i2_1), (2, .int (pa (Int32.toNatClampNeg i2_1))), (3, .int (f1 f (pa (Int32.toNatClampNeg i2_1))))], [.ref m0, .ref m0, .ref m0], M)) rfl ?_
                refine ml_blk 2 (S' := (95, [(0, .ref m0), (1, .int i2_1), (2, .int (pa (Int32.toNatClampNeg i2_1))), (3, .int (f1 f (pa (Int32.toNatClampNeg i2_1))))], [.int 1, .int i2_1, .ref m0, .ref m0, .ref m0], M)) rfl ?_
                refine ml_call (a := [.ref m0, .int i2_1, .int 1]) (rest := [.ref m0, .ref m0]) rfl (hR.okc rfl rfl rfl) rfl rfl (rm_index hR hF hP ((hP.tg (htg.trans (Decidable.not_not.mp c_87)) (by decide)).1) ((hP.tg (htg.trans (Decidable.not_not.mp c_87)) (by decide)).2.1) ((hP.tg (htg.trans (Decidable.not_not.mp c_87)) (by decide)).2.2.1) (by decide) (by have q := (hP.tg (htg.trans (Decidable.not_not.mp c_87)) (by decide)).2.2.2.2; rw [show esz _ = 5 from rfl] at q; have : (1 : Int32).toInt = 1 := rfl; omega) (by omega)) (fun v178 M179 h180 => ?_)
                obtain ⟨rfl, h180⟩ := h180
                rw [h180]
                show ml _ _ _ (98, [(0, .ref m0), (1, .int i2_1), (2, .int (pa (Int32.toNatClampNeg i2_1))), (3, .int (f1 f (pa (Int32.toNatClampNeg i2_1))))], [.int (ixf f pa i2_1 1), .ref m0, .ref m0], M) _
                refine ml_call (a := [.ref m0, .int (ixf f pa i2_1 1)]) (rest := [.ref m0]) rfl (hR.okc rfl rfl rfl) rfl rfl (rm_symOf hR hP (hi12.1) (by omega)) (fun v181 M182 h183 => ?_)
                obtain ⟨rfl, h183⟩ := h183
                rw [h183]
                show ml _ _ _ (101, [(0, .ref m0), (1, .int i2_1), (2, .int (pa (Int32.toNatClampNeg i2_1))), (3, .int (f1 f (pa (Int32.toNatClampNeg i2_1))))], [.int (pyf py (ixf f pa i2_1 1)), .ref m0], M) _
                refine ml_st (S' := (102, [(0, .ref m0), (1, .int i2_1), (2, .int (pa (Int32.toNatClampNeg i2_1))), (3, .int (f1 f (pa (Int32.toNatClampNeg i2_1))))], [.int 1, .int (pyf py (ixf f pa i2_1 1)), .ref m0], M)) rfl rfl rfl ?_
                refine ml_call (a := [.ref m0, .int (pyf py (ixf f pa i2_1 1)), .int 1]) (rest := []) rfl (hR.okc rfl rfl rfl) rfl rfl (rm_unqualified hR hY (hyA.2.2.1) (hyA.2.2.2) (by omega)) (fun v184 M185 h186 => ?_)
                obtain ⟨⟨u187, rfl, z188⟩, h186⟩ := h186
                rw [h186]
                show ml _ _ _ (105, [(0, .ref m0), (1, .int i2_1), (2, .int (pa (Int32.toNatClampNeg i2_1))), (3, .int (f1 f (pa (Int32.toNatClampNeg i2_1))))], [.int u187], M) _
                refine ml_if (S1 := (142, [(0, .ref m0), (2, .int (pa (Int32.toNatClampNeg i2_1)))], [], M)) (S2 := (108, [(0, .ref m0), (1, .int i2_1), (2, .int (pa (Int32.toNatClampNeg i2_1))), (3, .int (f1 f (pa (Int32.toNatClampNeg i2_1))))], [], M)) rfl rfl rfl (fun c_105 => ?_) (fun c_105 => ?_)
                · have c_105 : u187 = 0 := of_decide_eq_true c_105
                  refine ml_blk 3 (S' := (146, [(0, .ref m0), (2, .int (pa (Int32.toNatClampNeg i2_1)))], [.int (pa (Int32.toNatClampNeg i2_1)), .int 11, .ref m0], M)) rfl ?_
                  refine ml_call (a := [.ref m0, .int 11, .int (pa (Int32.toNatClampNeg i2_1))]) (rest := []) rfl (hR.okc rfl rfl rfl) rfl rfl (rm_wrong hR (by omega)) (fun v189 M190 h191 => ?_)
                  obtain ⟨u197, I192, R193, rfl, hR194, hI195, hV196, z198, w199⟩ := h191
                  show ml _ _ _ (149, [(0, .ref m0), (2, .int (pa (Int32.toNatClampNeg i2_1)))], [.int u197], M190) _
                  exact ml_ret rfl (r_z (z198)) (⟨_, _, _, rfl, hR194, (eqI.rf.tr hI195 (by decide)), (eqR.rf.tr hV196 (by decide)), z198, Or.inl w199⟩)
                · have c_105 : ¬ (u187 = 0) := of_decide_eq_false c_105
                  refine ml_blk 3 (S' := (111, [(0, .ref m0), (1, .int i2_1), (2, .int (pa (Int32.toNatClampNeg i2_1))), (3, .int (f1 f (pa (Int32.toNatClampNeg i2_1))))], [.ref m0, .ref m0, .ref m0], M)) rfl ?_
                  refine ml_blk 2 (S' := (113, [(0, .ref m0), (1, .int i2_1), (2, .int (pa (Int32.toNatClampNeg i2_1))), (3, .int (f1 f (pa (Int32.toNatClampNeg i2_1))))], [.int 3, .int i2_1, .ref m0, .ref m0, .ref m0], M)) rfl ?_
                  refine ml_call (a := [.ref m0, .int i2_1, .int 3]) (rest := [.ref m0, .ref m0]) rfl (hR.okc rfl rfl rfl) rfl rfl (rm_index hR hF hP ((hP.tg (htg.trans (Decidable.not_not.mp c_87)) (by decide)).1) ((hP.tg (htg.trans (Decidable.not_not.mp c_87)) (by decide)).2.1) ((hP.tg (htg.trans (Decidable.not_not.mp c_87)) (by decide)).2.2.1) (by decide) (by have q := (hP.tg (htg.trans (Decidable.not_not.mp c_87)) (by decide)).2.2.2.2; rw [show esz _ = 5 from rfl] at q; have : (3 : Int32).toInt = 3 := rfl; omega) (by omega)) (fun v200 M201 h202 => ?_)
                  obtain ⟨rfl, h202⟩ := h202
                  rw [h202]
                  show ml _ _ _ (116, [(0, .ref m0), (1, .int i2_1), (2, .int (pa (Int32.toNatClampNeg i2_1))), (3, .int (f1 f (pa (Int32.toNatClampNeg i2_1))))], [.int (ixf f pa i2_1 3), .ref m0, .ref m0], M) _
                  refine ml_call (a := [.ref m0, .int (ixf f pa i2_1 3)]) (rest := [.ref m0]) rfl (hR.okc rfl rfl rfl) rfl rfl (rm_symOf hR hP (hi12.2) (by omega)) (fun v203 M204 h205 => ?_)
                  obtain ⟨rfl, h205⟩ := h205
                  rw [h205]
                  show ml _ _ _ (119, [(0, .ref m0), (1, .int i2_1), (2, .int (pa (Int32.toNatClampNeg i2_1))), (3, .int (f1 f (pa (Int32.toNatClampNeg i2_1))))], [.int (pyf py (ixf f pa i2_1 3)), .ref m0], M) _
                  refine ml_call (a := [.ref m0, .int (pyf py (ixf f pa i2_1 3))]) (rest := []) rfl (hR.okc rfl rfl rfl) rfl rfl (rm_isField hR hY (hyB.2.2.1) (hyB.2.2.2) (by omega)) (fun v206 M207 h208 => ?_)
                  obtain ⟨⟨u209, rfl, z210, w211⟩, h208⟩ := h208
                  rw [h208]
                  show ml _ _ _ (122, [(0, .ref m0), (1, .int i2_1), (2, .int (pa (Int32.toNatClampNeg i2_1))), (3, .int (f1 f (pa (Int32.toNatClampNeg i2_1))))], [.int u209], M) _
                  refine ml_if (S1 := (150, [(0, .ref m0), (1, .int i2_1), (2, .int (pa (Int32.toNatClampNeg i2_1))), (3, .int (f1 f (pa (Int32.toNatClampNeg i2_1))))], [], M)) (S2 := (125, [(0, .ref m0), (1, .int i2_1), (2, .int (pa (Int32.toNatClampNeg i2_1))), (3, .int (f1 f (pa (Int32.toNatClampNeg i2_1))))], [], M)) rfl rfl rfl (fun c_122 => ?_) (fun c_122 => ?_)
                  · have c_122 : ¬ u209 = 0 := of_decide_eq_true c_122
                    exact J_150 
                  · have c_122 : ¬ (¬ u209 = 0) := of_decide_eq_false c_122
                    refine ml_blk 3 (S' := (128, [(0, .ref m0), (1, .int i2_1), (2, .int (pa (Int32.toNatClampNeg i2_1))), (3, .int (f1 f (pa (Int32.toNatClampNeg i2_1))))], [.ref m0, .ref m0, .ref m0], M)) rfl ?_
                    refine ml_blk 2 (S' := (130, [(0, .ref m0), (1, .int i2_1), (2, .int (pa (Int32.toNatClampNeg i2_1))), (3, .int (f1 f (pa (Int32.toNatClampNeg i2_1))))], [.int 3, .int i2_1, .ref m0, .ref m0, .ref m0], M)) rfl ?_
                    refine ml_call (a := [.ref m0, .int i2_1, .int 3]) (rest := [.ref m0, .ref m0]) rfl (hR.okc rfl rfl rfl) rfl rfl (rm_index hR hF hP ((hP.tg (htg.trans (Decidable.not_not.mp c_87)) (by decide)).1) ((hP.tg (htg.trans (Decidable.not_not.mp c_87)) (by decide)).2.1) ((hP.tg (htg.trans (Decidable.not_not.mp c_87)) (by decide)).2.2.1) (by decide) (by have q := (hP.tg (htg.trans (Decidable.not_not.mp c_87)) (by decide)).2.2.2.2; rw [show esz _ = 5 from rfl] at q; have : (3 : Int32).toInt = 3 := rfl; omega) (by omega)) (fun v212 M213 h214 => ?_)
                    obtain ⟨rfl, h214⟩ := h214
                    rw [h214]
                    show ml _ _ _ (133, [(0, .ref m0), (1, .int i2_1), (2, .int (pa (Int32.toNatClampNeg i2_1))), (3, .int (f1 f (pa (Int32.toNatClampNeg i2_1))))], [.int (ixf f pa i2_1 3), .ref m0, .ref m0], M) _
                    refine ml_call (a := [.ref m0, .int (ixf f pa i2_1 3)]) (rest := [.ref m0]) rfl (hR.okc rfl rfl rfl) rfl rfl (rm_symOf hR hP (hi12.2) (by omega)) (fun v215 M216 h217 => ?_)
                    obtain ⟨rfl, h217⟩ := h217
                    rw [h217]
                    show ml _ _ _ (136, [(0, .ref m0), (1, .int i2_1), (2, .int (pa (Int32.toNatClampNeg i2_1))), (3, .int (f1 f (pa (Int32.toNatClampNeg i2_1))))], [.int (pyf py (ixf f pa i2_1 3)), .ref m0], M) _
                    refine ml_call (a := [.ref m0, .int (pyf py (ixf f pa i2_1 3))]) (rest := []) rfl (hR.okc rfl rfl rfl) rfl rfl (rm_isMethod hR hY (hyB.2.2.1) (hyB.2.2.2) (by omega)) (fun v218 M219 h220 => ?_)
                    obtain ⟨⟨u221, rfl, z222, w223⟩, h220⟩ := h220
                    rw [h220]
                    show ml _ _ _ (139, [(0, .ref m0), (1, .int i2_1), (2, .int (pa (Int32.toNatClampNeg i2_1))), (3, .int (f1 f (pa (Int32.toNatClampNeg i2_1))))], [.int u221], M) _
                    refine ml_if (S1 := (150, [(0, .ref m0), (1, .int i2_1), (2, .int (pa (Int32.toNatClampNeg i2_1))), (3, .int (f1 f (pa (Int32.toNatClampNeg i2_1))))], [], M)) (S2 := (142, [(0, .ref m0), (2, .int (pa (Int32.toNatClampNeg i2_1)))], [], M)) rfl rfl rfl (fun c_139 => ?_) (fun c_139 => ?_)
                    · have c_139 : ¬ u221 = 0 := of_decide_eq_true c_139
                      exact J_150 
                    · have c_139 : ¬ (¬ u221 = 0) := of_decide_eq_false c_139
                      refine ml_blk 3 (S' := (146, [(0, .ref m0), (2, .int (pa (Int32.toNatClampNeg i2_1)))], [.int (pa (Int32.toNatClampNeg i2_1)), .int 11, .ref m0], M)) rfl ?_
                      refine ml_call (a := [.ref m0, .int 11, .int (pa (Int32.toNatClampNeg i2_1))]) (rest := []) rfl (hR.okc rfl rfl rfl) rfl rfl (rm_wrong hR (by omega)) (fun v224 M225 h226 => ?_)
                      obtain ⟨u232, I227, R228, rfl, hR229, hI230, hV231, z233, w234⟩ := h226
                      show ml _ _ _ (149, [(0, .ref m0), (2, .int (pa (Int32.toNatClampNeg i2_1)))], [.int u232], M225) _
                      exact ml_ret rfl (r_z (z233)) (⟨_, _, _, rfl, hR229, (eqI.rf.tr hI230 (by decide)), (eqR.rf.tr hV231 (by decide)), z233, Or.inl w234⟩)
            refine ml_if2 (S1 := (84, [(0, .ref m0), (1, .int i2_1), (2, .int (pa (Int32.toNatClampNeg i2_1))), (3, .int (f1 f (pa (Int32.toNatClampNeg i2_1))))], [], M)) (S2 := (59, [(3, .int (f1 f (pa (Int32.toNatClampNeg i2_1)))), (2, .int (pa (Int32.toNatClampNeg i2_1))), (0, .ref m0), (1, .int i2_1)], [], M)) rfl rfl rfl (fun c_56 => ?_) (fun c_56 => ?_)
            · have c_56 : ¬ (f1 f (pa (Int32.toNatClampNeg i2_1))) = 7 := of_decide_eq_true c_56
              exact J_84  (fun e => absurd e c_56)
            · have c_56 : ¬ (¬ (f1 f (pa (Int32.toNatClampNeg i2_1))) = 7) := of_decide_eq_false c_56
              have hi7 := hix.1 (Or.inl (Decidable.not_not.mp c_56))
              have hy7 := hP.y hi7
              refine ml_blk 3 (S' := (62, [(3, .int (f1 f (pa (Int32.toNatClampNeg i2_1)))), (2, .int (pa (Int32.toNatClampNeg i2_1))), (0, .ref m0), (1, .int i2_1)], [.ref m0, .ref m0, .ref m0], M)) rfl ?_
              refine ml_blk 2 (S' := (64, [(3, .int (f1 f (pa (Int32.toNatClampNeg i2_1)))), (2, .int (pa (Int32.toNatClampNeg i2_1))), (0, .ref m0), (1, .int i2_1)], [.int 1, .int i2_1, .ref m0, .ref m0, .ref m0], M)) rfl ?_
              refine ml_call (a := [.ref m0, .int i2_1, .int 1]) (rest := [.ref m0, .ref m0]) rfl (hR.okc rfl rfl rfl) rfl rfl (rm_index hR hF hP ((hP.tg (htg.trans (Decidable.not_not.mp c_56)) (by decide)).1) ((hP.tg (htg.trans (Decidable.not_not.mp c_56)) (by decide)).2.1) ((hP.tg (htg.trans (Decidable.not_not.mp c_56)) (by decide)).2.2.1) (by decide) (by have q := (hP.tg (htg.trans (Decidable.not_not.mp c_56)) (by decide)).2.2.2.2; rw [show esz _ = 3 from rfl] at q; have : (1 : Int32).toInt = 1 := rfl; omega) (by omega)) (fun v235 M236 h237 => ?_)
              obtain ⟨rfl, h237⟩ := h237
              rw [h237]
              show ml _ _ _ (67, [(3, .int (f1 f (pa (Int32.toNatClampNeg i2_1)))), (2, .int (pa (Int32.toNatClampNeg i2_1))), (0, .ref m0), (1, .int i2_1)], [.int (ixf f pa i2_1 1), .ref m0, .ref m0], M) _
              refine ml_call (a := [.ref m0, .int (ixf f pa i2_1 1)]) (rest := [.ref m0]) rfl (hR.okc rfl rfl rfl) rfl rfl (rm_symOf hR hP (hi7) (by omega)) (fun v238 M239 h240 => ?_)
              obtain ⟨rfl, h240⟩ := h240
              rw [h240]
              show ml _ _ _ (70, [(3, .int (f1 f (pa (Int32.toNatClampNeg i2_1)))), (2, .int (pa (Int32.toNatClampNeg i2_1))), (0, .ref m0), (1, .int i2_1)], [.int (pyf py (ixf f pa i2_1 1)), .ref m0], M) _
              refine ml_call (a := [.ref m0, .int (pyf py (ixf f pa i2_1 1))]) (rest := []) rfl (hR.okc rfl rfl rfl) rfl rfl (rm_classText hR hY (hy7.2.2.1) (hy7.2.2.2) (by omega)) (fun v241 M242 h243 => ?_)
              obtain ⟨⟨u244, rfl, z245, w246⟩, h243⟩ := h243
              rw [h243]
              show ml _ _ _ (73, [(3, .int (f1 f (pa (Int32.toNatClampNeg i2_1)))), (2, .int (pa (Int32.toNatClampNeg i2_1))), (0, .ref m0), (1, .int i2_1)], [.int u244], M) _
              refine ml_if (S1 := (84, [(0, .ref m0), (1, .int i2_1), (2, .int (pa (Int32.toNatClampNeg i2_1))), (3, .int (f1 f (pa (Int32.toNatClampNeg i2_1))))], [], M)) (S2 := (76, [(3, .int (f1 f (pa (Int32.toNatClampNeg i2_1)))), (2, .int (pa (Int32.toNatClampNeg i2_1))), (0, .ref m0), (1, .int i2_1)], [], M)) rfl rfl rfl (fun c_73 => ?_) (fun c_73 => ?_)
              · have c_73 : ¬ u244 = 0 := of_decide_eq_true c_73
                exact J_84  (fun _ => w246.resolve_left c_73)
              · have c_73 : ¬ (¬ u244 = 0) := of_decide_eq_false c_73
                refine ml_blk 3 (S' := (80, [(3, .int (f1 f (pa (Int32.toNatClampNeg i2_1)))), (2, .int (pa (Int32.toNatClampNeg i2_1))), (0, .ref m0), (1, .int i2_1)], [.int (pa (Int32.toNatClampNeg i2_1)), .int 10, .ref m0], M)) rfl ?_
                refine ml_call (a := [.ref m0, .int 10, .int (pa (Int32.toNatClampNeg i2_1))]) (rest := []) rfl (hR.okc rfl rfl rfl) rfl rfl (rm_wrong hR (by omega)) (fun v247 M248 h249 => ?_)
                obtain ⟨u255, I250, R251, rfl, hR252, hI253, hV254, z256, w257⟩ := h249
                show ml _ _ _ (83, [(3, .int (f1 f (pa (Int32.toNatClampNeg i2_1)))), (2, .int (pa (Int32.toNatClampNeg i2_1))), (0, .ref m0), (1, .int i2_1)], [.int u255], M248) _
                exact ml_ret rfl (r_z (z256)) (⟨_, _, _, rfl, hR252, (eqI.rf.tr hI253 (by decide)), (eqR.rf.tr hV254 (by decide)), z256, Or.inl w257⟩)
          · have c_42 : ¬ (¬ u17 = 0) := of_decide_eq_false c_42
            refine ml_blk 3 (S' := (49, [(3, .int (f1 f (pa (Int32.toNatClampNeg i2_1)))), (2, .int (pa (Int32.toNatClampNeg i2_1))), (0, .ref m0), (1, .int i2_1)], [.int (pa (Int32.toNatClampNeg i2_1)), .int 9, .ref m0], M)) rfl ?_
            refine ml_call (a := [.ref m0, .int 9, .int (pa (Int32.toNatClampNeg i2_1))]) (rest := []) rfl (hR.okc rfl rfl rfl) rfl rfl (rm_wrong hR (by omega)) (fun v258 M259 h260 => ?_)
            obtain ⟨u266, I261, R262, rfl, hR263, hI264, hV265, z267, w268⟩ := h260
            show ml _ _ _ (52, [(3, .int (f1 f (pa (Int32.toNatClampNeg i2_1)))), (2, .int (pa (Int32.toNatClampNeg i2_1))), (0, .ref m0), (1, .int i2_1)], [.int u266], M259) _
            exact ml_ret rfl (r_z (z267)) (⟨_, _, _, rfl, hR263, (eqI.rf.tr hI264 (by decide)), (eqR.rf.tr hV265 (by decide)), z267, Or.inl w268⟩)
        · have c_23 : ¬ (0 ≤ (pa (Int32.toNatClampNeg i2_1))) := of_decide_eq_false c_23
          refine ml_st (S' := (420, [(0, .ref m0), (1, .int i2_1)], [], M)) rfl rfl rfl ?_
          exact J_420  (fun h => absurd (show tgf f cp pa i2_1 = 0 by rw [tgf, if_neg (fun q => by have := i_le q; have : (0 : Int32).toInt = 0 := rfl; omega), if_neg c_7, if_pos (Int32.not_le.mp c_23)]) h)
  exact L_2 _ 1 (Nat.le_refl _) (⟨by decide, hP.2.2.2.1.1, fun j h0 h1 => by have : (1 : Int32).toInt = 1 := rfl; omega⟩)
end
section
/-! the reference: attributes (my own text) -/
section MIO
def BS1 (f : Nat → Int32) (n : Nat) (a b : Int32) : Prop := 0 ≤ a.toInt ∧ a.toInt + 4 ≤ n ∧ a.toInt + 4 + 2 * (f2 f (a + 2)).toInt ≤ n ∧ b.toInt = a.toInt + 4 + 2 * (f2 f (a + 2)).toInt
def BSW (f : Nat → Int32) (n : Nat) (b c : Int32) : Prop := 0 ≤ b.toInt ∧ b.toInt + 2 ≤ n ∧ ∃ e, itr (BS1 f n) c.toInt.toNat (b + 2) e ∧ e.toInt ≤ n
def CM1 (f : Nat → Int32) (n : Nat) (a b : Int32) : Prop := 0 ≤ a.toInt ∧ a.toInt + 6 ≤ n ∧ itr (RA1 f n) (f2 f (a + 4)).toInt.toNat (a + 6) b
variable {f : Nat → Int32} {n : Nat} {a b k c N : Int32} {P : Int32 → Int32 → Prop}
theorem bs_of (hn : n ≤ 65540) (h0 : 0 ≤ a.toInt) (h1 : a.toInt + 4 ≤ n) : (a + (4 + 2 * f2 f (a + 2))).toInt = a.toInt + 4 + 2 * (f2 f (a + 2)).toInt ∧ (a + 4 + 2 * f2 f (a + 2)).toInt = a.toInt + 4 + 2 * (f2 f (a + 2)).toInt := by
  have hp := f2_pos (f := f) (x := a + 2)
  have hl := f2_le (f := f) (x := a + 2)
  have e2 : (2 : Int32).toInt = 2 := rfl
  have e4 : (4 : Int32).toInt = 4 := rfl
  have d2 : (2 * f2 f (a + 2)).toInt = 2 * (f2 f (a + 2)).toInt := by rw [i_mul (by rw [e2]; omega) (by rw [e2]; omega), e2]
  have d3 : (4 + 2 * f2 f (a + 2)).toInt = 4 + 2 * (f2 f (a + 2)).toInt := by rw [i_add (by omega) (by omega), d2, e4]
  have d4 : (a + 4).toInt = a.toInt + 4 := by rw [i_add (by omega) (by omega), e4]
  exact ⟨by rw [i_add (by omega) (by omega), d3]; omega, by rw [i_add (by omega) (by omega), d4, d2]⟩
theorem ra_of (hn : n ≤ 65540) (h0 : 0 ≤ a.toInt) (h1 : a.toInt + 6 + (f4 f (a + 2)).toInt ≤ n) : (a + (6 + Int64.toInt32 (f4 f (a + 2)))).toInt = a.toInt + 6 + (f4 f (a + 2)).toInt := by
  have hp := f4_pos (f := f) (x := a + 2)
  have e6 : (6 : Int32).toInt = 6 := rfl
  have di : (Int64.toInt32 (f4 f (a + 2))).toInt = (f4 f (a + 2)).toInt := i_of (by omega) (by omega)
  have d3 : (6 + Int64.toInt32 (f4 f (a + 2))).toInt = 6 + (f4 f (a + 2)).toInt := by rw [i_add (by omega) (by omega), di, e6]
  rw [i_add (by omega) (by omega), d3]
  omega
theorem itr_next {e : Int32} (h : itr P (N.toInt - k.toInt).toNat a e) (hk : ¬ N ≤ k) : ∃ c, P a c ∧ itr P (N.toInt - (k + 1).toInt).toNat c e := by
  have h1 := i_nle hk
  have h2 := inc_lt (Int32.not_le.mp hk)
  rw [show (N.toInt - k.toInt).toNat = (N.toInt - (k + 1).toInt).toNat + 1 by omega] at h
  exact h.front
theorem RA1.eq {b' : Int32} (h : RA1 f n a b) (h' : b'.toInt = a.toInt + 6 + (f4 f (a + 2)).toInt) : b = b' := Int32.toInt_inj.mp (h.2.2.2.trans h'.symm)
theorem BS1.eq {b' : Int32} (h : BS1 f n a b) (h' : b'.toInt = a.toInt + 4 + 2 * (f2 f (a + 2)).toInt) : b = b' := Int32.toInt_inj.mp (h.2.2.2.trans h'.symm)
theorem itr_one {m : Nat} {e : Int32} (h : itr P m a e) (hm : m = 0) : e = a := by
  subst hm
  exact h
theorem two_k {k : Int32} (h0 : 0 ≤ k.toInt) (h1 : k.toInt ≤ 1000000) : (2 * k).toInt = 2 * k.toInt := by
  have e2 : (2 : Int32).toInt = 2 := rfl
  rw [i_mul (by rw [e2]; omega) (by rw [e2]; omega), e2]
theorem eight_k {k : Int32} (h0 : 0 ≤ k.toInt) (h1 : k.toInt ≤ 1000000) : (8 * k).toInt = 8 * k.toInt := by
  have e8 : (8 : Int32).toInt = 8 := rfl
  rw [i_mul (by rw [e8]; omega) (by rw [e8]; omega), e8]
/-- rows are written at one place alone -/
def pw (o : Nat) (R R' : rR) : Prop := ∀ k b, b ≠ o → R' k b = R k b
theorem pw.rf {o : Nat} {R : rR} : pw o R R := fun _ _ _ => rfl
theorem pw.tr {o : Nat} {R R1 R2 : rR} (h : pw o R R1) (h' : pw o R1 R2) : pw o R R2 := fun k b hb => (h' k b hb).trans (h k b hb)
theorem pw.eq {o : Nat} {R R1 R2 : rR} (h : pw o R R1) (h' : eqR [] R1 R2) : pw o R R2 := fun k b hb => (congrFun (h' k (by simp)) b).trans (h k b hb)
theorem pw.st {o j : Nat} {R R1 R2 : rR} {k : Nat} (h : pw o R R1) (g : ∀ b, b ≠ j → R2 k b = R1 k b) (f : ∀ a, a ≠ k → R2 a = R1 a) (hj : j = o) : pw o R R2 := by
  subst hj
  intro a b hb
  by_cases e : a = k
  · subst e
    exact (g b hb).trans (h a b hb)
  · rw [f a e]
    exact h a b hb
/-- these rows are known at a place -/
def kn (ks : List Nat) (o : Nat) (R : rR) : Prop := ∀ k, k ∈ ks → ∃ v, R k o = some v
theorem kn.eq {ks V : List Nat} {o : Nat} {R R' : rR} (h : kn ks o R) (h' : eqR V R R') (hd : ∀ k, k ∈ ks → k ∉ V) : kn ks o R' := fun k hk => by
  rw [h' k (hd k hk)]
  exact h k hk
theorem kn.st {ks : List Nat} {o j : Nat} {R R' : rR} {k : Nat} {v : Int32} (h : kn ks o R) (e : R' k j = some v) (g : ∀ b, b ≠ j → R' k b = R k b) (f : ∀ a, a ≠ k → R' a = R a) : kn ks o R' := by
  intro a ha
  by_cases e1 : a = k
  · subst e1
    by_cases e2 : o = j
    · subst e2
      exact ⟨v, e⟩
    · rw [g o e2]
      exact h a ha
  · rw [f a e1]
    exact h a ha
/-- a method's code, where it has one, lies in the file -/
def MCD (f : Nat → Int32) (n : Nat) (o : Nat) (R : rR) : Prop := ∃ c, R 37 o = some c ∧ (c.toInt < 0 ∨ ∃ l r m s t : Int32, R 38 o = some l ∧ R 41 o = some r ∧ R 42 o = some m ∧ R 39 o = some s ∧ R 40 o = some t ∧ 0 ≤ l.toInt ∧ c.toInt + l.toInt ≤ n ∧ 0 ≤ r.toInt ∧ 0 ≤ m.toInt ∧ r.toInt + 8 * m.toInt ≤ n)
theorem MCD.fr {o : Nat} {R R' : rR} (h : MCD f n o R) (h' : ∀ k, k ∈ [37, 38, 39, 40, 41, 42] → R' k o = R k o) : MCD f n o R' := by
  unfold MCD at h ⊢
  rw [h' 37 (by decide), h' 38 (by decide), h' 39 (by decide), h' 40 (by decide), h' 41 (by decide), h' 42 (by decide)]
  exact h
/-- the known names: where each belongs, from when on -/
def kin (k : Int32) : Int32 := if k = 0 then 1 else if k = 1 ∨ k = 2 then 2 else if k = 3 then 3 else 4
def KW (I : rI) (R : rR) : Prop := (∀ k : Int32, 0 ≤ k.toInt → k.toInt < 10 → R 63 k.toNatClampNeg = some (kin k)) ∧ ∀ k : Int32, 0 ≤ k.toInt → k.toInt < 10 → ∃ v, R 64 k.toNatClampNeg = some v
theorem KW.mono {I I' : rI} {R R' : rR} (h : KW I R) (hI : ∀ k, k ∈ ([] : List Nat) → I' k = I k) (hR : ∀ k, k ∈ [63, 64] → R' k = R k) : KW I' R' := by
  unfold KW
  rw [hR 63 (by decide), hR 64 (by decide)]
  exact h
theorem ra_kn {g : xe_G} {m0 : Nat} {q : Nat → Nat} {z : Nat × Nat} {I : rI} {R : rR} {M : mi_H} {T : Nat → Option (Nat × mi_B)} {d pc : Nat} {tb : mi_B} {lv : List (Nat × Value)} {s0 : List Value} {Q : Option Value → mi_H → Prop} {i : Int32} {S' : mi_S} (h1 : tb.1 pc = some (.inl (o_ald (.object "java/lang/String")))) (hR : RS g m0 q z I R M) (h0 : 0 ≤ i.toInt) (h10 : i.toInt < 10) (e1 : mi_nk tb.2 (pc + 1, lv, .ref (g.2.1 (15 + i.toNatClampNeg)) :: s0, M) = S') (kk : ml T d tb S' Q) : ml T d tb (pc, lv, .int i :: .ref (q 62) :: s0, M) Q := by
  have hg : mi_ga M (q 62) (.object "java/lang/String") = some (10, fun i => (knl[i]?).map (fun j => Value.ref (g.2.1 j))) := by
    unfold mi_ga
    rw [hR.2.2.1]
    simp
  refine ml_ald h1 hg (vin_lt h0 (by omega)) ?_ e1 kk
  have hi : i.toNatClampNeg < 10 := by show i.toInt.toNat < 10; omega
  generalize i.toNatClampNeg = j at hi
  have : j = 0 ∨ j = 1 ∨ j = 2 ∨ j = 3 ∨ j = 4 ∨ j = 5 ∨ j = 6 ∨ j = 7 ∨ j = 8 ∨ j = 9 := by omega
  rcases this with rfl | rfl | rfl | rfl | rfl | rfl | rfl | rfl | rfl | rfl <;> rfl
theorem rl_kn {g : xe_G} {m0 : Nat} {q : Nat → Nat} {z : Nat × Nat} {I : rI} {R : rR} {M : mi_H} {T : Nat → Option (Nat × mi_B)} {d pc : Nat} {tb : mi_B} {lv : List (Nat × Value)} {s0 : List Value} {Q : Option Value → mi_H → Prop} {S' : mi_S} (h1 : tb.1 pc = some (.inl (o_alen (.object "java/lang/String")))) (hR : RS g m0 q z I R M) (e1 : mi_nk tb.2 (pc + 1, lv, .int (nI 10) :: s0, M) = S') (kk : ml T d tb S' Q) : ml T d tb (pc, lv, .ref (q 62) :: s0, M) Q := by
  have hg : mi_ga M (q 62) (.object "java/lang/String") = some (10, fun i => (knl[i]?).map (fun j => Value.ref (g.2.1 j))) := by
    unfold mi_ga
    rw [hR.2.2.1]
    simp
  exact ml_alen h1 hg e1 kk
def NW (f : Nat → Int32) (n : Nat) (I : rI) : Prop := (∀ k, k ∈ [65, 66, 67, 68, 69, 72] → ∃ v, I k = some v) ∧ ∃ b c : Int32, I 70 = some b ∧ I 71 = some c ∧ 0 ≤ c.toInt ∧ (c.toInt = 0 ∨ BSW f n b c)
theorem NW.fr {I I' : rI} (h : NW f n I) (h' : ∀ k, k ∈ [65, 66, 67, 68, 69, 70, 71, 72] → I' k = I k) : NW f n I' := by
  obtain ⟨h1, b, c, h2, h3, h4⟩ := h
  refine ⟨fun k hk => ?_, b, c, (h' 70 (by decide)).trans h2, (h' 71 (by decide)).trans h3, h4⟩
  rw [h' k (by simp only [List.mem_cons, List.not_mem_nil, or_false] at hk ⊢; omega)]
  exact h1 k hk
theorem NW.put {I I' : rI} {j : Nat} {v : Int32} (h : NW f n I) (hj : j ∈ [65, 66, 67, 68, 69, 72]) (e : I' j = some v) (g : ∀ k, k ≠ j → I' k = I k) : NW f n I' := by
  obtain ⟨h1, b, c, h2, h3, h4⟩ := h
  have e70 : (70 : Nat) ≠ j := by simp only [List.mem_cons, List.not_mem_nil, or_false] at hj; omega
  have e71 : (71 : Nat) ≠ j := by simp only [List.mem_cons, List.not_mem_nil, or_false] at hj; omega
  refine ⟨fun k hk => ?_, b, c, (g 70 e70).trans h2, (g 71 e71).trans h3, h4⟩
  by_cases q : k = j
  · subst q
    exact ⟨v, e⟩
  · rw [g k q]
    exact h1 k hk
end MIO
section MIO2
variable {w : Int32}
theorem kin_1 (h : kin w = 1) : w = 0 := by
  unfold kin at h
  split at h
  · assumption
  · split at h
    · exact absurd h (by decide)
    · split at h <;> exact absurd h (by decide)
theorem kin_2 (h : kin w = 2) : w = 1 ∨ w = 2 := by
  unfold kin at h
  split at h
  · exact absurd h (by decide)
  · split at h
    · assumption
    · split at h <;> exact absurd h (by decide)
theorem kin_3 (h : kin w = 3) : w = 3 := by
  unfold kin at h
  split at h
  · exact absurd h (by decide)
  · split at h
    · exact absurd h (by decide)
    · split at h
      · assumption
      · exact absurd h (by decide)
theorem kin_4 (h0 : 0 ≤ w.toInt) (h1 : w.toInt < 10) (h : kin w = 4) : 4 ≤ w.toInt ∧ w.toInt ≤ 9 := by
  unfold kin at h
  split at h
  · exact absurd h (by decide)
  · split at h
    · exact absurd h (by decide)
    · split at h
      · exact absurd h (by decide)
      · rename_i a b c
        have a1 : w.toInt ≠ 0 := fun e => a (Int32.toInt_inj.mp e)
        have b1 : w.toInt ≠ 1 := fun e => b (Or.inl (Int32.toInt_inj.mp e))
        have b2 : w.toInt ≠ 2 := fun e => b (Or.inr (Int32.toInt_inj.mp e))
        have c1 : w.toInt ≠ 3 := fun e => c (Int32.toInt_inj.mp e)
        omega
end MIO2
section MIO3
variable {f : Nat → Int32} {n : Nat} {I I' : rI} {x a : Int32}
theorem w49 (h : 4 ≤ x.toInt ∧ x.toInt ≤ 9) : x = 4 ∨ x = 5 ∨ x = 6 ∨ x = 7 ∨ x = 8 ∨ x = 9 := by
  have : x.toInt = 4 ∨ x.toInt = 5 ∨ x.toInt = 6 ∨ x.toInt = 7 ∨ x.toInt = 8 ∨ x.toInt = 9 := by omega
  rcases this with e | e | e | e | e | e
  · exact Or.inl (i_ofInt 4 (by omega) e)
  · exact Or.inr (Or.inl (i_ofInt 5 (by omega) e))
  · exact Or.inr (Or.inr (Or.inl (i_ofInt 6 (by omega) e)))
  · exact Or.inr (Or.inr (Or.inr (Or.inl (i_ofInt 7 (by omega) e))))
  · exact Or.inr (Or.inr (Or.inr (Or.inr (Or.inl (i_ofInt 8 (by omega) e)))))
  · exact Or.inr (Or.inr (Or.inr (Or.inr (Or.inr (i_ofInt 9 (by omega) e)))))
theorem nw_boot (h : NW f n I) (hI : eqI [70, 71] I I') (w : x ≠ 0 ∧ I' = I ∨ x = 0 ∧ I' 70 = some a ∧ I' 71 = some (f2 f a) ∧ BSW f n a (f2 f a)) : NW f n I' := by
  rcases w with ⟨-, e⟩ | ⟨-, h1, h2, h3⟩
  · rw [e]
    exact h
  · refine ⟨fun k hk => ?_, a, _, h1, h2, f2_pos, Or.inr h3⟩
    rw [hI k (by simp only [List.mem_cons, List.not_mem_nil, or_false] at hk ⊢; omega)]
    exact h.1 k hk
theorem nw_comp (h : NW f n I) (hI : eqI [47, 48, 72] I I') (w : x = 0 ∧ I' 72 = some a ∨ x ≠ 0 ∧ I' 72 = I 72) : NW f n I' := by
  obtain ⟨h1, b, c, h2, h3, h4⟩ := h
  refine ⟨fun k hk => ?_, b, c, (hI 70 (by decide)).trans h2, (hI 71 (by decide)).trans h3, h4⟩
  by_cases e : k = 72
  · subst e
    rcases w with ⟨-, w⟩ | ⟨-, w⟩
    · exact ⟨_, w⟩
    · rw [w]
      exact h1 72 (by decide)
  · rw [hI k (by simp only [List.mem_cons, List.not_mem_nil, or_false] at hk ⊢; omega)]
    exact h1 k hk
end MIO3
end
