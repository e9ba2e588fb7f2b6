/-! the reference: entries of the pool (laid by wip/p2/c66.py) -/
set_option maxHeartbeats 2000000 in
theorem rm_tag {g : xe_G}  {m0 : Nat} {q : Nat → Nat} {z : Nat × Nat} {I : rI} {R : rR} {M : mi_H} {x1 : Int32} {n : Nat} {f : Nat → Int32} {S : Nat} {cp mj : Int32} {pa py : Nat → Int32}  (hR : RS g m0 q z I R M) (hF : FK n f I R) (hP : PK n f S cp mj pa py I R) {d : Nat} (hd : 2 ≤ d) : mt (mT g) d 247 [.ref m0, .int x1] M (fun v M' => v = some (.int (tgf f cp pa x1)) ∧ M' = M) := by
  obtain ⟨d, rfl⟩ : ∃ e, d = e + 1 := ⟨d - 1, by omega⟩
  refine mt_in (b := mb_247 g) rfl rfl ?_
  show ml (mT g) d (mb_247 g).2 (0, [(0, .ref m0), (1, .int x1)], [], M) _
  refine ml_st (S' := (1, [(0, .ref m0), (1, .int x1)], [.int x1], M)) rfl rfl rfl ?_
  refine ml_if (S1 := (26, [], [], M)) (S2 := (4, [(0, .ref m0), (1, .int x1)], [], M)) rfl rfl rfl (fun c_1 => ?_) (fun c_1 => ?_)
  · have c_1 : x1 ≤ 0 := of_decide_eq_true c_1
    refine ml_st (S' := (27, [], [.int 0], M)) rfl rfl rfl ?_
    refine ml_st (S' := (45, [], [.int 0], M)) rfl rfl rfl ?_
    exact ml_ret rfl (rfl) (⟨congrArg (fun y => some (Value.int y)) (show (0 : Int32) = tgf f cp pa x1 by rw [tgf, if_pos c_1]), rfl⟩)
  · have c_1 : ¬ (x1 ≤ 0) := of_decide_eq_false c_1
    refine ml_blk 2 (S' := (6, [(0, .ref m0), (1, .int x1)], [.ref m0, .int x1], M)) rfl ?_
    refine rg_int (S' := (9, [(0, .ref m0), (1, .int x1)], [.int cp, .int x1], M)) rfl hR rfl (hP.2.1) rfl ?_
    refine ml_if2 (S1 := (26, [], [], M)) (S2 := (12, [(0, .ref m0), (1, .int x1)], [], M)) rfl rfl rfl (fun c_9 => ?_) (fun c_9 => ?_)
    · have c_9 : cp ≤ x1 := of_decide_eq_true c_9
      refine ml_st (S' := (27, [], [.int 0], M)) rfl rfl rfl ?_
      refine ml_st (S' := (45, [], [.int 0], M)) rfl rfl rfl ?_
      exact ml_ret rfl (rfl) (⟨congrArg (fun y => some (Value.int y)) (show (0 : Int32) = tgf f cp pa x1 by rw [tgf, if_neg c_1, if_pos c_9]), rfl⟩)
    · have c_9 : ¬ (cp ≤ x1) := of_decide_eq_false c_9
      have hk0 : 0 < x1.toInt := by have := i_nle c_1; have : (0 : Int32).toInt = 0 := rfl; omega
      have hk1 := i_nle c_9
      refine ml_st (S' := (13, [(0, .ref m0), (1, .int x1)], [.ref m0], M)) rfl rfl rfl ?_
      refine rg_ref (S' := (16, [(0, .ref m0), (1, .int x1)], [.ref (q 21)], M)) rfl hR rfl rfl ?_
      refine ml_st (S' := (17, [(0, .ref m0), (1, .int x1)], [.ref m0, .ref (q 21)], M)) rfl rfl rfl ?_
      refine rg_int (S' := (20, [(0, .ref m0), (1, .int x1)], [.int 0, .ref (q 21)], M)) rfl hR rfl (hP.1) rfl ?_
      refine ml_blk 2 (S' := (22, [(0, .ref m0), (1, .int x1)], [.int (0 + x1), .ref (q 21)], M)) rfl ?_
      refine ra_ld (k := 21) (S' := (23, [(0, .ref m0), (1, .int x1)], [.int (pa (Int32.toNatClampNeg x1))], M)) rfl hR rfl ((hP.e hk0 hk1).2.1) ((hP.e hk0 hk1).1) rfl ?_
      refine ml_if (S1 := (30, [(0, .ref m0), (1, .int x1)], [], M)) (S2 := (26, [], [], M)) rfl rfl rfl (fun c_23 => ?_) (fun c_23 => ?_)
      · have c_23 : 0 ≤ (pa (Int32.toNatClampNeg x1)) := of_decide_eq_true c_23
        refine ml_blk 2 (S' := (32, [(0, .ref m0), (1, .int x1)], [.ref m0, .ref m0], M)) rfl ?_
        refine rg_ref (S' := (35, [(0, .ref m0), (1, .int x1)], [.ref (q 21), .ref m0], M)) rfl hR rfl rfl ?_
        refine ml_st (S' := (36, [(0, .ref m0), (1, .int x1)], [.ref m0, .ref (q 21), .ref m0], M)) rfl rfl rfl ?_
        refine rg_int (S' := (39, [(0, .ref m0), (1, .int x1)], [.int 0, .ref (q 21), .ref m0], M)) rfl hR rfl (hP.1) rfl ?_
        refine ml_blk 2 (S' := (41, [(0, .ref m0), (1, .int x1)], [.int (0 + x1), .ref (q 21), .ref m0], M)) rfl ?_
        refine ra_ld (k := 21) (S' := (42, [(0, .ref m0), (1, .int x1)], [.int (pa (Int32.toNatClampNeg x1)), .ref m0], M)) rfl hR rfl ((hP.e hk0 hk1).2.1) ((hP.e hk0 hk1).1) rfl ?_
        refine ml_call (a := [.ref m0, .int (pa (Int32.toNatClampNeg x1))]) (rest := []) rfl (hR.okc rfl rfl rfl) rfl rfl (rm_u1 hR hF (i_le c_23) (by obtain ⟨h1, h2, -⟩ := (hP.e hk0 hk1).2.2.resolve_left (m1_neg (i_le c_23)); have := esz_ge (t := f1 f (pa (Int32.toNatClampNeg x1))); omega) (by omega)) (fun v11 M12 h13 => ?_)
        obtain ⟨rfl, h13⟩ := h13
        rw [h13]
        show ml _ _ _ (45, [], [.int (f1 f (pa (Int32.toNatClampNeg x1)))], M) _
        exact ml_ret rfl (rfl) (⟨congrArg (fun y => some (Value.int y)) (show _ = tgf f cp pa x1 by rw [tgf, if_neg c_1, if_neg c_9, if_neg (Int32.not_lt.mpr c_23)]), rfl⟩)
      · have c_23 : ¬ (0 ≤ (pa (Int32.toNatClampNeg x1))) := of_decide_eq_false c_23
        refine ml_st (S' := (27, [], [.int 0], M)) rfl rfl rfl ?_
        refine ml_st (S' := (45, [], [.int 0], M)) rfl rfl rfl ?_
        exact ml_ret rfl (rfl) (⟨congrArg (fun y => some (Value.int y)) (show (0 : Int32) = tgf f cp pa x1 by rw [tgf, if_neg c_1, if_neg c_9, if_pos (Int32.not_le.mp c_23)]), rfl⟩)
set_option maxHeartbeats 2000000 in
theorem rm_index {g : xe_G}  {m0 : Nat} {q : Nat → Nat} {z : Nat × Nat} {I : rI} {R : rR} {M : mi_H} {x1 x2 : Int32} {n : Nat} {f : Nat → Int32} {S : Nat} {cp mj : Int32} {pa py : Nat → Int32}  (hR : RS g m0 q z I R M) (hF : FK n f I R) (hP : PK n f S cp mj pa py I R) (hk0 : 0 < x1.toInt) (hk1 : x1.toInt < cp.toInt) (hpa : 0 ≤ (pa (Int32.toNatClampNeg x1)).toInt) (hx0 : 0 ≤ x2.toInt) (hx1 : (pa (Int32.toNatClampNeg x1)).toInt + x2.toInt + 2 ≤ n) {d : Nat} (hd : 3 ≤ d) : mt (mT g) d 213 [.ref m0, .int x1, .int x2] M (fun v M' => v = some (.int (ixf f pa x1 x2)) ∧ M' = M) := by
  obtain ⟨d, rfl⟩ : ∃ e, d = e + 1 := ⟨d - 1, by omega⟩
  refine mt_in (b := mb_213 g) rfl rfl ?_
  show ml (mT g) d (mb_213 g).2 (0, [(0, .ref m0), (1, .int x1), (2, .int x2)], [], M) _
  have hn := hF.1
  have ex : (pa (Int32.toNatClampNeg x1) + x2).toInt = (pa (Int32.toNatClampNeg x1)).toInt + x2.toInt := i_add (by omega) (by omega)
  refine ml_blk 2 (S' := (2, [(0, .ref m0), (1, .int x1), (2, .int x2)], [.ref m0, .ref m0], M)) rfl ?_
  refine rg_ref (S' := (5, [(0, .ref m0), (1, .int x1), (2, .int x2)], [.ref (q 21), .ref m0], M)) rfl hR rfl rfl ?_
  refine ml_st (S' := (6, [(0, .ref m0), (1, .int x1), (2, .int x2)], [.ref m0, .ref (q 21), .ref m0], M)) rfl rfl rfl ?_
  refine rg_int (S' := (9, [(0, .ref m0), (1, .int x1), (2, .int x2)], [.int 0, .ref (q 21), .ref m0], M)) rfl hR rfl (hP.1) rfl ?_
  refine ml_blk 2 (S' := (11, [(0, .ref m0), (1, .int x1), (2, .int x2)], [.int (0 + x1), .ref (q 21), .ref m0], M)) rfl ?_
  refine ra_ld (k := 21) (S' := (12, [(0, .ref m0), (1, .int x1), (2, .int x2)], [.int (pa (Int32.toNatClampNeg x1)), .ref m0], M)) rfl hR rfl ((hP.e hk0 hk1).2.1) ((hP.e hk0 hk1).1) rfl ?_
  refine ml_blk 2 (S' := (14, [(0, .ref m0), (1, .int x1), (2, .int x2)], [.int ((pa (Int32.toNatClampNeg x1)) + x2), .ref m0], M)) rfl ?_
  refine ml_call (a := [.ref m0, .int ((pa (Int32.toNatClampNeg x1)) + x2)]) (rest := []) rfl (hR.okc rfl rfl rfl) rfl rfl (rm_u2 hR hF (by omega) (by omega) (by omega)) (fun v11 M12 h13 => ?_)
  obtain ⟨rfl, h13⟩ := h13
  rw [h13]
  show ml _ _ _ (17, [(0, .ref m0), (1, .int x1), (2, .int x2)], [.int (f2 f ((pa (Int32.toNatClampNeg x1)) + x2))], M) _
  exact ml_ret rfl (rfl) (⟨rfl, rfl⟩)
set_option maxHeartbeats 2000000 in
theorem rm_symOf {g : xe_G}  {m0 : Nat} {q : Nat → Nat} {z : Nat × Nat} {I : rI} {R : rR} {M : mi_H} {x1 : Int32} {n : Nat} {f : Nat → Int32} {S : Nat} {cp mj : Int32} {pa py : Nat → Int32}  (hR : RS g m0 q z I R M) (hP : PK n f S cp mj pa py I R) (ht : tgf f cp pa x1 = 1) {d : Nat} (hd : 1 ≤ d) : mt (mT g) d 244 [.ref m0, .int x1] M (fun v M' => v = some (.int (pyf py x1)) ∧ M' = M) := by
  obtain ⟨d, rfl⟩ : ∃ e, d = e + 1 := ⟨d - 1, by omega⟩
  refine mt_in (b := mb_244 g) rfl rfl ?_
  show ml (mT g) d (mb_244 g).2 (0, [(0, .ref m0), (1, .int x1)], [], M) _
  refine ml_st (S' := (1, [(0, .ref m0), (1, .int x1)], [.ref m0], M)) rfl rfl rfl ?_
  refine rg_ref (S' := (4, [(0, .ref m0), (1, .int x1)], [.ref (q 22)], M)) rfl hR rfl rfl ?_
  refine ml_st (S' := (5, [(0, .ref m0), (1, .int x1)], [.ref m0, .ref (q 22)], M)) rfl rfl rfl ?_
  refine rg_int (S' := (8, [(0, .ref m0), (1, .int x1)], [.int 0, .ref (q 22)], M)) rfl hR rfl (hP.1) rfl ?_
  refine ml_blk 2 (S' := (10, [(0, .ref m0), (1, .int x1)], [.int (0 + x1), .ref (q 22)], M)) rfl ?_
  refine ra_ld (k := 22) (S' := (11, [(0, .ref m0), (1, .int x1)], [.int (pyf py x1)], M)) rfl hR rfl ((hP.y ht).2.1) ((hP.y ht).1) rfl ?_
  exact ml_ret rfl (rfl) (⟨rfl, rfl⟩)
set_option maxHeartbeats 2000000 in
theorem rm_className {g : xe_G}  {m0 : Nat} {q : Nat → Nat} {z : Nat × Nat} {I : rI} {R : rR} {M : mi_H} {x1 : Int32} {n : Nat} {f : Nat → Int32} {S : Nat} {cp mj : Int32} {pa py : Nat → Int32}  (hR : RS g m0 q z I R M) (hF : FK n f I R) (hP : PK n f S cp mj pa py I R) (ht : tgf f cp pa x1 = 7) (h7 : ix7 f cp pa x1) {d : Nat} (hd : 4 ≤ d) : mt (mT g) d 193 [.ref m0, .int x1] M (fun v M' => v = some (.int (pyf py (ixf f pa x1 1))) ∧ M' = M) := by
  obtain ⟨d, rfl⟩ : ∃ e, d = e + 1 := ⟨d - 1, by omega⟩
  refine mt_in (b := mb_193 g) rfl rfl ?_
  show ml (mT g) d (mb_193 g).2 (0, [(0, .ref m0), (1, .int x1)], [], M) _
  refine ml_blk 3 (S' := (3, [(0, .ref m0), (1, .int x1)], [.int x1, .ref m0, .ref m0], M)) rfl ?_
  refine ml_st (S' := (4, [(0, .ref m0), (1, .int x1)], [.int 1, .int x1, .ref m0, .ref m0], M)) rfl rfl rfl ?_
  refine ml_call (a := [.ref m0, .int x1, .int 1]) (rest := [.ref m0]) rfl (hR.okc rfl rfl rfl) rfl rfl (rm_index hR hF hP ((hP.tg ht (by decide)).1) ((hP.tg ht (by decide)).2.1) ((hP.tg ht (by decide)).2.2.1) (by decide) (by have q := (hP.tg ht (by decide)).2.2.2.2; rw [show esz _ = 3 from rfl] at q; have : (1 : Int32).toInt = 1 := rfl; omega) (by omega)) (fun v11 M12 h13 => ?_)
  obtain ⟨rfl, h13⟩ := h13
  rw [h13]
  show ml _ _ _ (7, [(0, .ref m0), (1, .int x1)], [.int (ixf f pa x1 1), .ref m0], M) _
  refine ml_call (a := [.ref m0, .int (ixf f pa x1 1)]) (rest := []) rfl (hR.okc rfl rfl rfl) rfl rfl (rm_symOf hR hP (h7) (by omega)) (fun v14 M15 h16 => ?_)
  obtain ⟨rfl, h16⟩ := h16
  rw [h16]
  show ml _ _ _ (10, [(0, .ref m0), (1, .int x1)], [.int (pyf py (ixf f pa x1 1))], M) _
  exact ml_ret rfl (rfl) (⟨rfl, rfl⟩)
set_option maxHeartbeats 2000000 in
theorem rm_nameOf {g : xe_G}  {m0 : Nat} {q : Nat → Nat} {z : Nat × Nat} {I : rI} {R : rR} {M : mi_H} {x1 : Int32} {n : Nat} {f : Nat → Int32} {S : Nat} {cp mj : Int32} {pa py : Nat → Int32}  (hR : RS g m0 q z I R M) (hF : FK n f I R) (hP : PK n f S cp mj pa py I R) (e : esz (tgf f cp pa x1) = 5) (h0 : tgf f cp pa x1 ≠ 0) (h17 : ix17 f cp pa x1) {d : Nat} (hd : 4 ≤ d) : mt (mT g) d 225 [.ref m0, .int x1] M (fun v M' => v = some (.int (pyf py (ixf f pa (ixf f pa x1 3) 1))) ∧ M' = M) := by
  obtain ⟨d, rfl⟩ : ∃ e, d = e + 1 := ⟨d - 1, by omega⟩
  refine mt_in (b := mb_225 g) rfl rfl ?_
  show ml (mT g) d (mb_225 g).2 (0, [(0, .ref m0), (1, .int x1)], [], M) _
  refine ml_blk 3 (S' := (3, [(0, .ref m0), (1, .int x1)], [.ref m0, .ref m0, .ref m0], M)) rfl ?_
  refine ml_blk 2 (S' := (5, [(0, .ref m0), (1, .int x1)], [.int 3, .int x1, .ref m0, .ref m0, .ref m0], M)) rfl ?_
  refine ml_call (a := [.ref m0, .int x1, .int 3]) (rest := [.ref m0, .ref m0]) rfl (hR.okc rfl rfl rfl) rfl rfl (rm_index hR hF hP ((hP.tg rfl h0).1) ((hP.tg rfl h0).2.1) ((hP.tg rfl h0).2.2.1) (by decide) (by have q := (hP.tg rfl h0).2.2.2.2; rw [show esz _ = 5 from e] at q; have : (3 : Int32).toInt = 3 := rfl; omega) (by omega)) (fun v11 M12 h13 => ?_)
  obtain ⟨rfl, h13⟩ := h13
  rw [h13]
  show ml _ _ _ (8, [(0, .ref m0), (1, .int x1)], [.int (ixf f pa x1 3), .ref m0, .ref m0], M) _
  refine ml_st (S' := (9, [(0, .ref m0), (1, .int x1)], [.int 1, .int (ixf f pa x1 3), .ref m0, .ref m0], M)) rfl rfl rfl ?_
  refine ml_call (a := [.ref m0, .int (ixf f pa x1 3), .int 1]) (rest := [.ref m0]) rfl (hR.okc rfl rfl rfl) rfl rfl (rm_index hR hF hP ((hP.tg h17.1 (by decide)).1) ((hP.tg h17.1 (by decide)).2.1) ((hP.tg h17.1 (by decide)).2.2.1) (by decide) (by have q := (hP.tg h17.1 (by decide)).2.2.2.2; rw [show esz _ = 5 from rfl] at q; have : (1 : Int32).toInt = 1 := rfl; omega) (by omega)) (fun v14 M15 h16 => ?_)
  obtain ⟨rfl, h16⟩ := h16
  rw [h16]
  show ml _ _ _ (12, [(0, .ref m0), (1, .int x1)], [.int (ixf f pa (ixf f pa x1 3) 1), .ref m0], M) _
  refine ml_call (a := [.ref m0, .int (ixf f pa (ixf f pa x1 3) 1)]) (rest := []) rfl (hR.okc rfl rfl rfl) rfl rfl (rm_symOf hR hP (h17.2.1) (by omega)) (fun v17 M18 h19 => ?_)
  obtain ⟨rfl, h19⟩ := h19
  rw [h19]
  show ml _ _ _ (15, [(0, .ref m0), (1, .int x1)], [.int (pyf py (ixf f pa (ixf f pa x1 3) 1))], M) _
  exact ml_ret rfl (rfl) (⟨rfl, rfl⟩)
set_option maxHeartbeats 2000000 in
theorem rm_descOf {g : xe_G}  {m0 : Nat} {q : Nat → Nat} {z : Nat × Nat} {I : rI} {R : rR} {M : mi_H} {x1 : Int32} {n : Nat} {f : Nat → Int32} {S : Nat} {cp mj : Int32} {pa py : Nat → Int32}  (hR : RS g m0 q z I R M) (hF : FK n f I R) (hP : PK n f S cp mj pa py I R) (e : esz (tgf f cp pa x1) = 5) (h0 : tgf f cp pa x1 ≠ 0) (h17 : ix17 f cp pa x1) {d : Nat} (hd : 4 ≤ d) : mt (mT g) d 201 [.ref m0, .int x1] M (fun v M' => v = some (.int (pyf py (ixf f pa (ixf f pa x1 3) 3))) ∧ M' = M) := by
  obtain ⟨d, rfl⟩ : ∃ e, d = e + 1 := ⟨d - 1, by omega⟩
  refine mt_in (b := mb_201 g) rfl rfl ?_
  show ml (mT g) d (mb_201 g).2 (0, [(0, .ref m0), (1, .int x1)], [], M) _
  refine ml_blk 3 (S' := (3, [(0, .ref m0), (1, .int x1)], [.ref m0, .ref m0, .ref m0], M)) rfl ?_
  refine ml_blk 2 (S' := (5, [(0, .ref m0), (1, .int x1)], [.int 3, .int x1, .ref m0, .ref m0, .ref m0], M)) rfl ?_
  refine ml_call (a := [.ref m0, .int x1, .int 3]) (rest := [.ref m0, .ref m0]) rfl (hR.okc rfl rfl rfl) rfl rfl (rm_index hR hF hP ((hP.tg rfl h0).1) ((hP.tg rfl h0).2.1) ((hP.tg rfl h0).2.2.1) (by decide) (by have q := (hP.tg rfl h0).2.2.2.2; rw [show esz _ = 5 from e] at q; have : (3 : Int32).toInt = 3 := rfl; omega) (by omega)) (fun v11 M12 h13 => ?_)
  obtain ⟨rfl, h13⟩ := h13
  rw [h13]
  show ml _ _ _ (8, [(0, .ref m0), (1, .int x1)], [.int (ixf f pa x1 3), .ref m0, .ref m0], M) _
  refine ml_st (S' := (9, [(0, .ref m0), (1, .int x1)], [.int 3, .int (ixf f pa x1 3), .ref m0, .ref m0], M)) rfl rfl rfl ?_
  refine ml_call (a := [.ref m0, .int (ixf f pa x1 3), .int 3]) (rest := [.ref m0]) rfl (hR.okc rfl rfl rfl) rfl rfl (rm_index hR hF hP ((hP.tg h17.1 (by decide)).1) ((hP.tg h17.1 (by decide)).2.1) ((hP.tg h17.1 (by decide)).2.2.1) (by decide) (by have q := (hP.tg h17.1 (by decide)).2.2.2.2; rw [show esz _ = 5 from rfl] at q; have : (3 : Int32).toInt = 3 := rfl; omega) (by omega)) (fun v14 M15 h16 => ?_)
  obtain ⟨rfl, h16⟩ := h16
  rw [h16]
  show ml _ _ _ (12, [(0, .ref m0), (1, .int x1)], [.int (ixf f pa (ixf f pa x1 3) 3), .ref m0], M) _
  refine ml_call (a := [.ref m0, .int (ixf f pa (ixf f pa x1 3) 3)]) (rest := []) rfl (hR.okc rfl rfl rfl) rfl rfl (rm_symOf hR hP (h17.2.2) (by omega)) (fun v17 M18 h19 => ?_)
  obtain ⟨rfl, h19⟩ := h19
  rw [h19]
  show ml _ _ _ (15, [(0, .ref m0), (1, .int x1)], [.int (pyf py (ixf f pa (ixf f pa x1 3) 3))], M) _
  exact ml_ret rfl (rfl) (⟨rfl, rfl⟩)
set_option maxHeartbeats 2000000 in
theorem rm_isField {g : xe_G}  {m0 : Nat} {q : Nat → Nat} {z : Nat × Nat} {I : rI} {R : rR} {M : mi_H} {x1 : Int32} {S cN : Nat} {sa sl ch : Nat → Int32}  (hR : RS g m0 q z I R M) (hY : SK S cN sa sl ch I R) (hs0 : 0 ≤ x1.toInt) (hs1 : x1.toInt < S) {d : Nat} (hd : 4 ≤ d) : mt (mT g) d 217 [.ref m0, .int x1] M (fun v M' => (∃ x : Int32, v = some (.int x) ∧ (x = 0 ∨ x = 1) ∧ (x = 0 ∨ 0 < (sL sl x1).toInt)) ∧ M' = M) := by
  obtain ⟨d, rfl⟩ : ∃ e, d = e + 1 := ⟨d - 1, by omega⟩
  refine mt_in (b := mb_217 g) rfl rfl ?_
  show ml (mT g) d (mb_217 g).2 (0, [(0, .ref m0), (1, .int x1)], [], M) _
  have hsl := hY.s hs0 hs1
  have hsl0 : 0 ≤ (sL sl x1).toInt := hsl.2.2.2.1
  have hsl1 : (sL sl x1).toInt ≤ 66000 := by have h1 := hsl.2.2.1; have h2 := hsl.2.2.2.2.1; have h3 := hsl.2.2.2.2.2.1; show (sl _).toInt ≤ 66000; omega
  refine ml_blk 3 (S' := (3, [(0, .ref m0), (1, .int x1)], [.int 0, .int x1, .ref m0], M)) rfl ?_
  refine ml_call (a := [.ref m0, .int x1, .int 0]) (rest := []) rfl (hR.okc rfl rfl rfl) rfl rfl (rm_fieldText hR hY (hs0) (hs1) (by decide) (by have : (0 : Int32).toInt = 0 := rfl; omega) (by omega)) (fun v11 M12 h13 => ?_)
  obtain ⟨rfl, h13⟩ := h13
  rw [h13]
  show ml _ _ _ (6, [(0, .ref m0), (1, .int x1)], [.int (FTx (tx sa ch x1) (sL sl x1) 0)], M) _
  refine ml_blk 2 (S' := (8, [(0, .ref m0), (1, .int x1)], [.int x1, .ref m0, .int (FTx (tx sa ch x1) (sL sl x1) 0)], M)) rfl ?_
  refine ml_call (a := [.ref m0, .int x1]) (rest := [.int (FTx (tx sa ch x1) (sL sl x1) 0)]) rfl (hR.okc rfl rfl rfl) rfl rfl (rm_length hR hY (hs0) (hs1) (by omega)) (fun v14 M15 h16 => ?_)
  obtain ⟨rfl, h16⟩ := h16
  rw [h16]
  show ml _ _ _ (11, [(0, .ref m0), (1, .int x1)], [.int (sL sl x1), .int (FTx (tx sa ch x1) (sL sl x1) 0)], M) _
  refine ml_if2 (S1 := (18, [(0, .ref m0), (1, .int x1)], [], M)) (S2 := (14, [(0, .ref m0), (1, .int x1)], [], M)) rfl rfl rfl (fun c_11 => ?_) (fun c_11 => ?_)
  · have c_11 : ¬ (FTx (tx sa ch x1) (sL sl x1) 0) = (sL sl x1) := of_decide_eq_true c_11
    refine ml_st (S' := (19, [], [.int 0], M)) rfl rfl rfl ?_
    exact ml_ret rfl (r_z (Or.inl rfl)) (⟨⟨_, rfl, Or.inl rfl, Or.inl rfl⟩, rfl⟩)
  · have c_11 : ¬ (¬ (FTx (tx sa ch x1) (sL sl x1) 0) = (sL sl x1)) := of_decide_eq_false c_11
    refine ml_st (S' := (15, [(0, .ref m0), (1, .int x1)], [.int 1], M)) rfl rfl rfl ?_
    refine ml_st (S' := (19, [], [.int 1], M)) rfl rfl rfl ?_
    exact ml_ret rfl (r_z (Or.inr rfl)) (⟨⟨_, rfl, Or.inr rfl, Or.inr (by have q := FTx_b (c := (tx sa ch x1)) (n := (sL sl x1)) (a := 0) (by decide) hsl0 (by omega); have e : FTx (tx sa ch x1) (sL sl x1) 0 = (sL sl x1) := Decidable.not_not.mp c_11; rw [e] at q; rcases q with q | q; (rw [q] at hsl0; exact absurd hsl0 (by decide)); (have : (0 : Int32).toInt = 0 := rfl; omega))⟩, rfl⟩)
set_option maxHeartbeats 2000000 in
theorem rm_places0 {g : xe_G}  {m0 : Nat} {q : Nat → Nat} {z : Nat × Nat} {I : rI} {R : rR} {M : mi_H} {x1 : Int32} {S cN : Nat} {sa sl ch : Nat → Int32}  (hR : RS g m0 q z I R M) (hY : SK S cN sa sl ch I R) (hs0 : 0 ≤ x1.toInt) (hs1 : x1.toInt < S) (hag : AGW (tx sa ch x1) (sL sl x1) 1) {d : Nat} (hd : 4 ≤ d) : mt (mT g) d 233 [.ref m0, .int x1] M (fun v M' => (∃ x : Int32, v = some (.int x)) ∧ M' = M) := by
  obtain ⟨d, rfl⟩ : ∃ e, d = e + 1 := ⟨d - 1, by omega⟩
  refine mt_in (b := mb_233 g) rfl rfl ?_
  show ml (mT g) d (mb_233 g).2 (0, [(0, .ref m0), (1, .int x1)], [], M) _
  have hsl := hY.s hs0 hs1
  have hsl0 : 0 ≤ (sL sl x1).toInt := hsl.2.2.2.1
  have hsl1 : (sL sl x1).toInt ≤ 66000 := by have h1 := hsl.2.2.1; have h2 := hsl.2.2.2.2.1; have h3 := hsl.2.2.2.2.2.1; show (sl _).toInt ≤ 66000; omega
  refine ml_st (S' := (1, [(0, .ref m0), (1, .int x1)], [.int 1], M)) rfl rfl rfl ?_
  refine ml_st (S' := (2, [(2, .int 1), (0, .ref m0), (1, .int x1)], [], M)) rfl rfl rfl ?_
  refine ml_st (S' := (3, [(2, .int 1), (0, .ref m0), (1, .int x1)], [.int 0], M)) rfl rfl rfl ?_
  refine ml_st (S' := (4, [(0, .ref m0), (1, .int x1), (2, .int 1), (3, .int 0)], [], M)) rfl rfl rfl ?_
  have L_4 : ∀ (n_4 : Nat) (i4_2 : Int32) (i4_3 : Int32), (2147483648 - i4_2.toInt).toNat ≤ n_4 → (AGW (tx sa ch x1) (sL sl x1) i4_2) → ml (mT g) d (mb_233 g).2 (4, [(0, .ref m0), (1, .int x1), (2, .int i4_2), (3, .int i4_3)], [], M) (fun v M' => (∃ x : Int32, v = some (.int x)) ∧ M' = M) := by
    intro n_4
    induction n_4 with
    | zero => intro i4_2 i4_3 hn; exact (loop_zero hn).elim
    | succ n_4 ih_4 =>
      intro i4_2 i4_3 hn_4 hi_4
      have hb := hi_4.at
      refine ml_blk 3 (S' := (7, [(0, .ref m0), (1, .int x1), (2, .int i4_2), (3, .int i4_3)], [.int i4_2, .int x1, .ref m0], M)) rfl ?_
      refine ml_call (a := [.ref m0, .int x1, .int i4_2]) (rest := []) rfl (hR.okc rfl rfl rfl) rfl rfl (rm_at hR hY (hs0) (hs1) (hb.1) (hb.2) (by omega)) (fun v11 M12 h13 => ?_)
      obtain ⟨rfl, h13⟩ := h13
      rw [h13]
      show ml _ _ _ (10, [(0, .ref m0), (1, .int x1), (2, .int i4_2), (3, .int i4_3)], [.int (tx sa ch x1 i4_2)], M) _
      refine ml_st (S' := (12, [(0, .ref m0), (1, .int x1), (2, .int i4_2), (3, .int i4_3)], [.int 41, .int (tx sa ch x1 i4_2)], M)) rfl rfl rfl ?_
      refine ml_if2 (S1 := (55, [(0, .ref m0), (1, .int x1), (2, .int i4_2), (3, .int i4_3)], [], M)) (S2 := (15, [(0, .ref m0), (1, .int x1), (2, .int i4_2), (3, .int i4_3)], [], M)) rfl rfl rfl (fun c_12 => ?_) (fun c_12 => ?_)
      · have c_12 : (tx sa ch x1 i4_2) = 41 := of_decide_eq_true c_12
        refine ml_st (S' := (56, [(0, .ref m0), (1, .int x1), (2, .int i4_2), (3, .int i4_3)], [.int i4_3], M)) rfl rfl rfl ?_
        exact ml_ret rfl (rfl) (⟨⟨_, rfl⟩, rfl⟩)
      · have c_12 : ¬ ((tx sa ch x1 i4_2) = 41) := of_decide_eq_false c_12
        refine ml_blk 3 (S' := (18, [(0, .ref m0), (1, .int x1), (2, .int i4_2), (3, .int i4_3)], [.int i4_2, .int x1, .ref m0], M)) rfl ?_
        refine ml_call (a := [.ref m0, .int x1, .int i4_2]) (rest := []) rfl (hR.okc rfl rfl rfl) rfl rfl (rm_at hR hY (hs0) (hs1) (hb.1) (hb.2) (by omega)) (fun v14 M15 h16 => ?_)
        obtain ⟨rfl, h16⟩ := h16
        rw [h16]
        show ml _ _ _ (21, [(0, .ref m0), (1, .int x1), (2, .int i4_2), (3, .int i4_3)], [.int (tx sa ch x1 i4_2)], M) _
        refine ml_st (S' := (23, [(4, .int (tx sa ch x1 i4_2)), (0, .ref m0), (1, .int x1), (2, .int i4_2), (3, .int i4_3)], [], M)) rfl rfl rfl ?_
        refine ml_blk 3 (S' := (28, [(4, .int (tx sa ch x1 i4_2)), (0, .ref m0), (1, .int x1), (2, .int i4_2), (3, .int i4_3)], [.int 74, .int (tx sa ch x1 i4_2), .int i4_3], M)) rfl ?_
        refine ml_if2 (S1 := (38, [(0, .ref m0), (1, .int x1), (2, .int i4_2)], [.int i4_3], M)) (S2 := (31, [(4, .int (tx sa ch x1 i4_2)), (0, .ref m0), (1, .int x1), (2, .int i4_2), (3, .int i4_3)], [.int i4_3], M)) rfl rfl rfl (fun c_28 => ?_) (fun c_28 => ?_)
        · have c_28 : (tx sa ch x1 i4_2) = 74 := of_decide_eq_true c_28
          refine ml_st (S' := (39, [(0, .ref m0), (1, .int x1), (2, .int i4_2)], [.int 2, .int i4_3], M)) rfl rfl rfl ?_
          refine ml_st (S' := (43, [(0, .ref m0), (1, .int x1), (2, .int i4_2)], [.int 2, .int i4_3], M)) rfl rfl rfl ?_
          refine ml_st (S' := (44, [(0, .ref m0), (1, .int x1), (2, .int i4_2)], [.int (i4_3 + 2)], M)) rfl rfl rfl ?_
          refine ml_st (S' := (45, [(3, .int (i4_3 + 2)), (0, .ref m0), (1, .int x1), (2, .int i4_2)], [], M)) rfl rfl rfl ?_
          refine ml_blk 3 (S' := (48, [(3, .int (i4_3 + 2)), (0, .ref m0), (1, .int x1), (2, .int i4_2)], [.int i4_2, .int x1, .ref m0], M)) rfl ?_
          refine ml_call (a := [.ref m0, .int x1, .int i4_2]) (rest := []) rfl (hR.okc rfl rfl rfl) rfl rfl (rm_fieldText hR hY (hs0) (hs1) (hb.1) (by omega) (by omega)) (fun v17 M18 h19 => ?_)
          obtain ⟨rfl, h19⟩ := h19
          rw [h19]
          show ml _ _ _ (51, [(3, .int (i4_3 + 2)), (0, .ref m0), (1, .int x1), (2, .int i4_2)], [.int (FTx (tx sa ch x1) (sL sl x1) i4_2)], M) _
          refine ml_st (S' := (52, [(2, .int (FTx (tx sa ch x1) (sL sl x1) i4_2)), (3, .int (i4_3 + 2)), (0, .ref m0), (1, .int x1)], [], M)) rfl rfl rfl ?_
          refine ml_st (S' := (4, [(0, .ref m0), (1, .int x1), (2, .int (FTx (tx sa ch x1) (sL sl x1) i4_2)), (3, .int (i4_3 + 2))], [], M)) rfl rfl rfl ?_
          exact ih_4 (FTx (tx sa ch x1) (sL sl x1) i4_2) (i4_3 + 2) (by have := (hi_4.next c_12).1; omega) ((hi_4.next c_12).2)
        · have c_28 : ¬ ((tx sa ch x1 i4_2) = 74) := of_decide_eq_false c_28
          refine ml_blk 2 (S' := (35, [(4, .int (tx sa ch x1 i4_2)), (0, .ref m0), (1, .int x1), (2, .int i4_2), (3, .int i4_3)], [.int 68, .int (tx sa ch x1 i4_2), .int i4_3], M)) rfl ?_
          refine ml_if2 (S1 := (42, [(4, .int (tx sa ch x1 i4_2)), (0, .ref m0), (1, .int x1), (2, .int i4_2), (3, .int i4_3)], [.int i4_3], M)) (S2 := (38, [(0, .ref m0), (1, .int x1), (2, .int i4_2)], [.int i4_3], M)) rfl rfl rfl (fun c_35 => ?_) (fun c_35 => ?_)
          · have c_35 : ¬ (tx sa ch x1 i4_2) = 68 := of_decide_eq_true c_35
            refine ml_st (S' := (43, [(0, .ref m0), (1, .int x1), (2, .int i4_2)], [.int 1, .int i4_3], M)) rfl rfl rfl ?_
            refine ml_st (S' := (44, [(0, .ref m0), (1, .int x1), (2, .int i4_2)], [.int (i4_3 + 1)], M)) rfl rfl rfl ?_
            refine ml_st (S' := (45, [(3, .int (i4_3 + 1)), (0, .ref m0), (1, .int x1), (2, .int i4_2)], [], M)) rfl rfl rfl ?_
            refine ml_blk 3 (S' := (48, [(3, .int (i4_3 + 1)), (0, .ref m0), (1, .int x1), (2, .int i4_2)], [.int i4_2, .int x1, .ref m0], M)) rfl ?_
            refine ml_call (a := [.ref m0, .int x1, .int i4_2]) (rest := []) rfl (hR.okc rfl rfl rfl) rfl rfl (rm_fieldText hR hY (hs0) (hs1) (hb.1) (by omega) (by omega)) (fun v20 M21 h22 => ?_)
            obtain ⟨rfl, h22⟩ := h22
            rw [h22]
            show ml _ _ _ (51, [(3, .int (i4_3 + 1)), (0, .ref m0), (1, .int x1), (2, .int i4_2)], [.int (FTx (tx sa ch x1) (sL sl x1) i4_2)], M) _
            refine ml_st (S' := (52, [(2, .int (FTx (tx sa ch x1) (sL sl x1) i4_2)), (3, .int (i4_3 + 1)), (0, .ref m0), (1, .int x1)], [], M)) rfl rfl rfl ?_
            refine ml_st (S' := (4, [(0, .ref m0), (1, .int x1), (2, .int (FTx (tx sa ch x1) (sL sl x1) i4_2)), (3, .int (i4_3 + 1))], [], M)) rfl rfl rfl ?_
            exact ih_4 (FTx (tx sa ch x1) (sL sl x1) i4_2) (i4_3 + 1) (by have := (hi_4.next c_12).1; omega) ((hi_4.next c_12).2)
          · have c_35 : ¬ (¬ (tx sa ch x1 i4_2) = 68) := of_decide_eq_false c_35
            refine ml_st (S' := (39, [(0, .ref m0), (1, .int x1), (2, .int i4_2)], [.int 2, .int i4_3], M)) rfl rfl rfl ?_
            refine ml_st (S' := (43, [(0, .ref m0), (1, .int x1), (2, .int i4_2)], [.int 2, .int i4_3], M)) rfl rfl rfl ?_
            refine ml_st (S' := (44, [(0, .ref m0), (1, .int x1), (2, .int i4_2)], [.int (i4_3 + 2)], M)) rfl rfl rfl ?_
            refine ml_st (S' := (45, [(3, .int (i4_3 + 2)), (0, .ref m0), (1, .int x1), (2, .int i4_2)], [], M)) rfl rfl rfl ?_
            refine ml_blk 3 (S' := (48, [(3, .int (i4_3 + 2)), (0, .ref m0), (1, .int x1), (2, .int i4_2)], [.int i4_2, .int x1, .ref m0], M)) rfl ?_
            refine ml_call (a := [.ref m0, .int x1, .int i4_2]) (rest := []) rfl (hR.okc rfl rfl rfl) rfl rfl (rm_fieldText hR hY (hs0) (hs1) (hb.1) (by omega) (by omega)) (fun v23 M24 h25 => ?_)
            obtain ⟨rfl, h25⟩ := h25
            rw [h25]
            show ml _ _ _ (51, [(3, .int (i4_3 + 2)), (0, .ref m0), (1, .int x1), (2, .int i4_2)], [.int (FTx (tx sa ch x1) (sL sl x1) i4_2)], M) _
            refine ml_st (S' := (52, [(2, .int (FTx (tx sa ch x1) (sL sl x1) i4_2)), (3, .int (i4_3 + 2)), (0, .ref m0), (1, .int x1)], [], M)) rfl rfl rfl ?_
            refine ml_st (S' := (4, [(0, .ref m0), (1, .int x1), (2, .int (FTx (tx sa ch x1) (sL sl x1) i4_2)), (3, .int (i4_3 + 2))], [], M)) rfl rfl rfl ?_
            exact ih_4 (FTx (tx sa ch x1) (sL sl x1) i4_2) (i4_3 + 2) (by have := (hi_4.next c_12).1; omega) ((hi_4.next c_12).2)
  exact L_4 _ 1 0 (Nat.le_refl _) (hag)
set_option maxHeartbeats 2000000 in
theorem rm_isMethod {g : xe_G}  {m0 : Nat} {q : Nat → Nat} {z : Nat × Nat} {I : rI} {R : rR} {M : mi_H} {x1 : Int32} {S cN : Nat} {sa sl ch : Nat → Int32}  (hR : RS g m0 q z I R M) (hY : SK S cN sa sl ch I R) (hs0 : 0 ≤ x1.toInt) (hs1 : x1.toInt < S) {d : Nat} (hd : 5 ≤ d) : mt (mT g) d 218 [.ref m0, .int x1] M (fun v M' => (∃ x : Int32, v = some (.int x) ∧ (x = 0 ∨ x = 1) ∧ (x = 0 ∨ MTX sa sl ch x1)) ∧ M' = M) := by
  obtain ⟨d, rfl⟩ : ∃ e, d = e + 1 := ⟨d - 1, by omega⟩
  refine mt_in (b := mb_218 g) rfl rfl ?_
  show ml (mT g) d (mb_218 g).2 (0, [(0, .ref m0), (1, .int x1)], [], M) _
  have hsl := hY.s hs0 hs1
  have hsl0 : 0 ≤ (sL sl x1).toInt := hsl.2.2.2.1
  have hsl1 : (sL sl x1).toInt ≤ 66000 := by have h1 := hsl.2.2.1; have h2 := hsl.2.2.2.2.1; have h3 := hsl.2.2.2.2.2.1; show (sl _).toInt ≤ 66000; omega
  refine ml_blk 2 (S' := (2, [(0, .ref m0), (1, .int x1)], [.int x1, .ref m0], M)) rfl ?_
  refine ml_call (a := [.ref m0, .int x1]) (rest := []) rfl (hR.okc rfl rfl rfl) rfl rfl (rm_length hR hY (hs0) (hs1) (by omega)) (fun v11 M12 h13 => ?_)
  obtain ⟨rfl, h13⟩ := h13
  rw [h13]
  show ml _ _ _ (5, [(0, .ref m0), (1, .int x1)], [.int (sL sl x1)], M) _
  refine ml_st (S' := (6, [(2, .int (sL sl x1)), (0, .ref m0), (1, .int x1)], [], M)) rfl rfl rfl ?_
  refine ml_st (S' := (7, [(2, .int (sL sl x1)), (0, .ref m0), (1, .int x1)], [.int (sL sl x1)], M)) rfl rfl rfl ?_
  refine ml_if (S1 := (21, [], [], M)) (S2 := (10, [(2, .int (sL sl x1)), (0, .ref m0), (1, .int x1)], [], M)) rfl rfl rfl (fun c_7 => ?_) (fun c_7 => ?_)
  · have c_7 : (sL sl x1) = 0 := of_decide_eq_true c_7
    refine ml_st (S' := (22, [], [.int 0], M)) rfl rfl rfl ?_
    exact ml_ret rfl (r_z (Or.inl rfl)) (⟨⟨_, rfl, Or.inl rfl, Or.inl rfl⟩, rfl⟩)
  · have c_7 : ¬ ((sL sl x1) = 0) := of_decide_eq_false c_7
    refine ml_blk 3 (S' := (13, [(2, .int (sL sl x1)), (0, .ref m0), (1, .int x1)], [.int 0, .int x1, .ref m0], M)) rfl ?_
    refine ml_call (a := [.ref m0, .int x1, .int 0]) (rest := []) rfl (hR.okc rfl rfl rfl) rfl rfl (rm_at hR hY (hs0) (hs1) (by decide) (by have h7 : (sL sl x1).toInt ≠ 0 := (fun e => c_7 (Int32.toInt_inj.mp e)); have : (0 : Int32).toInt = 0 := rfl; omega) (by omega)) (fun v14 M15 h16 => ?_)
    obtain ⟨rfl, h16⟩ := h16
    rw [h16]
    show ml _ _ _ (16, [(2, .int (sL sl x1)), (0, .ref m0), (1, .int x1)], [.int (tx sa ch x1 0)], M) _
    refine ml_st (S' := (18, [(2, .int (sL sl x1)), (0, .ref m0), (1, .int x1)], [.int 40, .int (tx sa ch x1 0)], M)) rfl rfl rfl ?_
    refine ml_if2 (S1 := (23, [(2, .int (sL sl x1)), (0, .ref m0), (1, .int x1)], [], M)) (S2 := (21, [], [], M)) rfl rfl rfl (fun c_18 => ?_) (fun c_18 => ?_)
    · have c_18 : (tx sa ch x1 0) = 40 := of_decide_eq_true c_18
      refine ml_st (S' := (24, [(2, .int (sL sl x1)), (0, .ref m0), (1, .int x1)], [.int 1], M)) rfl rfl rfl ?_
      refine ml_st (S' := (25, [(0, .ref m0), (1, .int x1), (2, .int (sL sl x1)), (3, .int 1)], [], M)) rfl rfl rfl ?_
      have L_25 : ∀ (n_25 : Nat) (i25_3 : Int32), (2147483648 - i25_3.toInt).toNat ≤ n_25 → (1 ≤ i25_3.toInt ∧ i25_3.toInt ≤ (sL sl x1).toInt ∧ ∃ m, itr (AG1 (tx sa ch x1) (sL sl x1)) m 1 i25_3) → ml (mT g) d (mb_218 g).2 (25, [(0, .ref m0), (1, .int x1), (2, .int (sL sl x1)), (3, .int i25_3)], [], M) (fun v M' => (∃ x : Int32, v = some (.int x) ∧ (x = 0 ∨ x = 1) ∧ (x = 0 ∨ MTX sa sl ch x1)) ∧ M' = M) := by
        intro n_25
        induction n_25 with
        | zero => intro i25_3 hn; exact (loop_zero hn).elim
        | succ n_25 ih_25 =>
          intro i25_3 hn_25 hi_25
          obtain ⟨hk1, hkn, m9, hit⟩ := hi_25
          refine ml_blk 2 (S' := (27, [(0, .ref m0), (1, .int x1), (2, .int (sL sl x1)), (3, .int i25_3)], [.int (sL sl x1), .int i25_3], M)) rfl ?_
          have J_54 : ((sL sl x1) ≤ i25_3 ∨ (tx sa ch x1) i25_3 = 41) → ml (mT g) d (mb_218 g).2 (54, [(0, .ref m0), (1, .int x1), (2, .int (sL sl x1)), (3, .int i25_3)], [], M) (fun v M' => (∃ x : Int32, v = some (.int x) ∧ (x = 0 ∨ x = 1) ∧ (x = 0 ∨ MTX sa sl ch x1)) ∧ M' = M) := by
            intro hj_54
            refine ml_blk 2 (S' := (56, [(0, .ref m0), (1, .int x1), (2, .int (sL sl x1)), (3, .int i25_3)], [.int (sL sl x1), .int i25_3], M)) rfl ?_
            refine ml_if2 (S1 := (61, [(0, .ref m0), (1, .int x1), (2, .int (sL sl x1)), (3, .int i25_3)], [], M)) (S2 := (59, [(0, .ref m0), (1, .int x1), (2, .int (sL sl x1)), (3, .int i25_3)], [], M)) rfl rfl rfl (fun c_56 => ?_) (fun c_56 => ?_)
            · have c_56 : i25_3 < (sL sl x1) := of_decide_eq_true c_56
              have hk54 := hj_54.resolve_left (Int32.not_le.mpr c_56)
              have hlt := i_lt c_56
              have hk2 : (i25_3 + 1).toInt = i25_3.toInt + 1 := inc_lt c_56
              have hagw : AGW (tx sa ch x1) (sL sl x1) 1 := ⟨m9, i25_3, hit, by omega, hlt, hk54⟩
              refine ml_st (S' := (64, [(3, .int (i25_3 + 1)), (0, .ref m0), (1, .int x1), (2, .int (sL sl x1))], [], M)) rfl rfl rfl ?_
              refine ml_blk 3 (S' := (67, [(3, .int (i25_3 + 1)), (0, .ref m0), (1, .int x1), (2, .int (sL sl x1))], [.int ((i25_3 + 1) + 1)], M)) rfl ?_
              refine ml_st (S' := (68, [(3, .int (i25_3 + 1)), (0, .ref m0), (1, .int x1), (2, .int (sL sl x1))], [.int (sL sl x1), .int ((i25_3 + 1) + 1)], M)) rfl rfl rfl ?_
              have J_94 : (3 ≤ (sL sl x1).toInt) → ml (mT g) d (mb_218 g).2 (94, [(0, .ref m0), (1, .int x1)], [], M) (fun v M' => (∃ x : Int32, v = some (.int x) ∧ (x = 0 ∨ x = 1) ∧ (x = 0 ∨ MTX sa sl ch x1)) ∧ M' = M) := by
                intro hj_94
                refine ml_blk 2 (S' := (96, [(0, .ref m0), (1, .int x1)], [.int x1, .ref m0], M)) rfl ?_
                refine ml_call (a := [.ref m0, .int x1]) (rest := []) rfl (hR.okc rfl rfl rfl) rfl rfl (rm_places0 hR hY (hs0) (hs1) (hagw) (by omega)) (fun v17 M18 h19 => ?_)
                obtain ⟨⟨u20, rfl⟩, h19⟩ := h19
                rw [h19]
                show ml _ _ _ (99, [(0, .ref m0), (1, .int x1)], [.int u20], M) _
                refine ml_st (S' := (102, [(0, .ref m0), (1, .int x1)], [.int 255, .int u20], M)) rfl rfl rfl ?_
                refine ml_if2 (S1 := (109, [(0, .ref m0), (1, .int x1)], [], M)) (S2 := (105, [(0, .ref m0), (1, .int x1)], [], M)) rfl rfl rfl (fun c_102 => ?_) (fun c_102 => ?_)
                · have c_102 : 255 < u20 := of_decide_eq_true c_102
                  refine ml_st (S' := (110, [], [.int 0], M)) rfl rfl rfl ?_
                  exact ml_ret rfl (r_z (Or.inl rfl)) (⟨⟨_, rfl, Or.inl rfl, Or.inl rfl⟩, rfl⟩)
                · have c_102 : ¬ (255 < u20) := of_decide_eq_false c_102
                  refine ml_st (S' := (106, [(0, .ref m0), (1, .int x1)], [.int 1], M)) rfl rfl rfl ?_
                  refine ml_st (S' := (110, [], [.int 1], M)) rfl rfl rfl ?_
                  exact ml_ret rfl (r_z (Or.inr rfl)) (⟨⟨_, rfl, Or.inr rfl, Or.inr ⟨hagw, hj_94⟩⟩, rfl⟩)
              refine ml_if2 (S1 := (82, [(0, .ref m0), (1, .int x1), (2, .int (sL sl x1)), (3, .int (i25_3 + 1))], [], M)) (S2 := (71, [(3, .int (i25_3 + 1)), (0, .ref m0), (1, .int x1), (2, .int (sL sl x1))], [], M)) rfl rfl rfl (fun c_68 => ?_) (fun c_68 => ?_)
              · have c_68 : ¬ ((i25_3 + 1) + 1) = (sL sl x1) := of_decide_eq_true c_68
                refine ml_blk 3 (S' := (85, [(0, .ref m0), (1, .int x1), (2, .int (sL sl x1)), (3, .int (i25_3 + 1))], [.int (i25_3 + 1), .int x1, .ref m0], M)) rfl ?_
                refine ml_call (a := [.ref m0, .int x1, .int (i25_3 + 1)]) (rest := []) rfl (hR.okc rfl rfl rfl) rfl rfl (rm_fieldText hR hY (hs0) (hs1) (by omega) (by omega) (by omega)) (fun v21 M22 h23 => ?_)
                obtain ⟨rfl, h23⟩ := h23
                rw [h23]
                show ml _ _ _ (88, [(0, .ref m0), (1, .int x1), (2, .int (sL sl x1)), (3, .int (i25_3 + 1))], [.int (FTx (tx sa ch x1) (sL sl x1) (i25_3 + 1))], M) _
                refine ml_st (S' := (89, [(0, .ref m0), (1, .int x1), (2, .int (sL sl x1)), (3, .int (i25_3 + 1))], [.int (sL sl x1), .int (FTx (tx sa ch x1) (sL sl x1) (i25_3 + 1))], M)) rfl rfl rfl ?_
                refine ml_if2 (S1 := (94, [(0, .ref m0), (1, .int x1)], [], M)) (S2 := (92, [(0, .ref m0), (1, .int x1), (2, .int (sL sl x1)), (3, .int (i25_3 + 1))], [], M)) rfl rfl rfl (fun c_89 => ?_) (fun c_89 => ?_)
                · have c_89 : (FTx (tx sa ch x1) (sL sl x1) (i25_3 + 1)) = (sL sl x1) := of_decide_eq_true c_89
                  exact J_94  ((by have q := FTx_b (c := (tx sa ch x1)) (n := (sL sl x1)) (a := i25_3 + 1) (by omega) (by omega) (by omega); have e : FTx (tx sa ch x1) (sL sl x1) (i25_3 + 1) = (sL sl x1) := c_89; rw [e] at q; rcases q with q | q; (rw [q] at hsl0; exact absurd hsl0 (by decide)); omega))
                · have c_89 : ¬ ((FTx (tx sa ch x1) (sL sl x1) (i25_3 + 1)) = (sL sl x1)) := of_decide_eq_false c_89
                  refine ml_st (S' := (93, [(0, .ref m0), (1, .int x1), (2, .int (sL sl x1)), (3, .int (i25_3 + 1))], [.int 0], M)) rfl rfl rfl ?_
                  exact ml_ret rfl (r_z (Or.inl rfl)) (⟨⟨_, rfl, Or.inl rfl, Or.inl rfl⟩, rfl⟩)
              · have c_68 : ¬ (¬ ((i25_3 + 1) + 1) = (sL sl x1)) := of_decide_eq_false c_68
                refine ml_blk 3 (S' := (74, [(3, .int (i25_3 + 1)), (0, .ref m0), (1, .int x1), (2, .int (sL sl x1))], [.int (i25_3 + 1), .int x1, .ref m0], M)) rfl ?_
                refine ml_call (a := [.ref m0, .int x1, .int (i25_3 + 1)]) (rest := []) rfl (hR.okc rfl rfl rfl) rfl rfl (rm_at hR hY (hs0) (hs1) (by omega) (by have e : (i25_3 + 1 + 1).toInt = (sL sl x1).toInt := congrArg Int32.toInt (Decidable.not_not.mp c_68); rw [i_add (by have : (1 : Int32).toInt = 1 := rfl; omega) (by have : (1 : Int32).toInt = 1 := rfl; omega), hk2] at e; have : (1 : Int32).toInt = 1 := rfl; omega) (by omega)) (fun v24 M25 h26 => ?_)
                obtain ⟨rfl, h26⟩ := h26
                rw [h26]
                show ml _ _ _ (77, [(3, .int (i25_3 + 1)), (0, .ref m0), (1, .int x1), (2, .int (sL sl x1))], [.int (tx sa ch x1 (i25_3 + 1))], M) _
                refine ml_st (S' := (79, [(3, .int (i25_3 + 1)), (0, .ref m0), (1, .int x1), (2, .int (sL sl x1))], [.int 86, .int (tx sa ch x1 (i25_3 + 1))], M)) rfl rfl rfl ?_
                refine ml_if2 (S1 := (94, [(0, .ref m0), (1, .int x1)], [], M)) (S2 := (82, [(0, .ref m0), (1, .int x1), (2, .int (sL sl x1)), (3, .int (i25_3 + 1))], [], M)) rfl rfl rfl (fun c_79 => ?_) (fun c_79 => ?_)
                · have c_79 : (tx sa ch x1 (i25_3 + 1)) = 86 := of_decide_eq_true c_79
                  exact J_94  ((by have e : (i25_3 + 1 + 1).toInt = (sL sl x1).toInt := congrArg Int32.toInt (Decidable.not_not.mp c_68); rw [i_add (by have : (1 : Int32).toInt = 1 := rfl; omega) (by have : (1 : Int32).toInt = 1 := rfl; omega), hk2] at e; have : (1 : Int32).toInt = 1 := rfl; omega))
                · have c_79 : ¬ ((tx sa ch x1 (i25_3 + 1)) = 86) := of_decide_eq_false c_79
                  refine ml_blk 3 (S' := (85, [(0, .ref m0), (1, .int x1), (2, .int (sL sl x1)), (3, .int (i25_3 + 1))], [.int (i25_3 + 1), .int x1, .ref m0], M)) rfl ?_
                  refine ml_call (a := [.ref m0, .int x1, .int (i25_3 + 1)]) (rest := []) rfl (hR.okc rfl rfl rfl) rfl rfl (rm_fieldText hR hY (hs0) (hs1) (by omega) (by omega) (by omega)) (fun v27 M28 h29 => ?_)
                  obtain ⟨rfl, h29⟩ := h29
                  rw [h29]
                  show ml _ _ _ (88, [(0, .ref m0), (1, .int x1), (2, .int (sL sl x1)), (3, .int (i25_3 + 1))], [.int (FTx (tx sa ch x1) (sL sl x1) (i25_3 + 1))], M) _
                  refine ml_st (S' := (89, [(0, .ref m0), (1, .int x1), (2, .int (sL sl x1)), (3, .int (i25_3 + 1))], [.int (sL sl x1), .int (FTx (tx sa ch x1) (sL sl x1) (i25_3 + 1))], M)) rfl rfl rfl ?_
                  refine ml_if2 (S1 := (94, [(0, .ref m0), (1, .int x1)], [], M)) (S2 := (92, [(0, .ref m0), (1, .int x1), (2, .int (sL sl x1)), (3, .int (i25_3 + 1))], [], M)) rfl rfl rfl (fun c_89 => ?_) (fun c_89 => ?_)
                  · have c_89 : (FTx (tx sa ch x1) (sL sl x1) (i25_3 + 1)) = (sL sl x1) := of_decide_eq_true c_89
                    exact J_94  ((by have q := FTx_b (c := (tx sa ch x1)) (n := (sL sl x1)) (a := i25_3 + 1) (by omega) (by omega) (by omega); have e : FTx (tx sa ch x1) (sL sl x1) (i25_3 + 1) = (sL sl x1) := c_89; rw [e] at q; rcases q with q | q; (rw [q] at hsl0; exact absurd hsl0 (by decide)); omega))
                  · have c_89 : ¬ ((FTx (tx sa ch x1) (sL sl x1) (i25_3 + 1)) = (sL sl x1)) := of_decide_eq_false c_89
                    refine ml_st (S' := (93, [(0, .ref m0), (1, .int x1), (2, .int (sL sl x1)), (3, .int (i25_3 + 1))], [.int 0], M)) rfl rfl rfl ?_
                    exact ml_ret rfl (r_z (Or.inl rfl)) (⟨⟨_, rfl, Or.inl rfl, Or.inl rfl⟩, rfl⟩)
            · have c_56 : ¬ (i25_3 < (sL sl x1)) := of_decide_eq_false c_56
              refine ml_st (S' := (60, [(0, .ref m0), (1, .int x1), (2, .int (sL sl x1)), (3, .int i25_3)], [.int 0], M)) rfl rfl rfl ?_
              exact ml_ret rfl (r_z (Or.inl rfl)) (⟨⟨_, rfl, Or.inl rfl, Or.inl rfl⟩, rfl⟩)
          refine ml_if2 (S1 := (54, [(0, .ref m0), (1, .int x1), (2, .int (sL sl x1)), (3, .int i25_3)], [], M)) (S2 := (30, [(0, .ref m0), (1, .int x1), (2, .int (sL sl x1)), (3, .int i25_3)], [], M)) rfl rfl rfl (fun c_27 => ?_) (fun c_27 => ?_)
          · have c_27 : (sL sl x1) ≤ i25_3 := of_decide_eq_true c_27
            exact J_54  (Or.inl c_27)
          · have c_27 : ¬ ((sL sl x1) ≤ i25_3) := of_decide_eq_false c_27
            refine ml_blk 3 (S' := (33, [(0, .ref m0), (1, .int x1), (2, .int (sL sl x1)), (3, .int i25_3)], [.int i25_3, .int x1, .ref m0], M)) rfl ?_
            refine ml_call (a := [.ref m0, .int x1, .int i25_3]) (rest := []) rfl (hR.okc rfl rfl rfl) rfl rfl (rm_at hR hY (hs0) (hs1) (by omega) (i_nle c_27) (by omega)) (fun v30 M31 h32 => ?_)
            obtain ⟨rfl, h32⟩ := h32
            rw [h32]
            show ml _ _ _ (36, [(0, .ref m0), (1, .int x1), (2, .int (sL sl x1)), (3, .int i25_3)], [.int (tx sa ch x1 i25_3)], M) _
            refine ml_st (S' := (38, [(0, .ref m0), (1, .int x1), (2, .int (sL sl x1)), (3, .int i25_3)], [.int 41, .int (tx sa ch x1 i25_3)], M)) rfl rfl rfl ?_
            refine ml_if2 (S1 := (54, [(0, .ref m0), (1, .int x1), (2, .int (sL sl x1)), (3, .int i25_3)], [], M)) (S2 := (41, [(0, .ref m0), (1, .int x1), (2, .int (sL sl x1)), (3, .int i25_3)], [], M)) rfl rfl rfl (fun c_38 => ?_) (fun c_38 => ?_)
            · have c_38 : (tx sa ch x1 i25_3) = 41 := of_decide_eq_true c_38
              exact J_54  (Or.inr c_38)
            · have c_38 : ¬ ((tx sa ch x1 i25_3) = 41) := of_decide_eq_false c_38
              refine ml_blk 3 (S' := (44, [(0, .ref m0), (1, .int x1), (2, .int (sL sl x1)), (3, .int i25_3)], [.int i25_3, .int x1, .ref m0], M)) rfl ?_
              refine ml_call (a := [.ref m0, .int x1, .int i25_3]) (rest := []) rfl (hR.okc rfl rfl rfl) rfl rfl (rm_fieldText hR hY (hs0) (hs1) (by omega) (hkn) (by omega)) (fun v33 M34 h35 => ?_)
              obtain ⟨rfl, h35⟩ := h35
              rw [h35]
              show ml _ _ _ (47, [(0, .ref m0), (1, .int x1), (2, .int (sL sl x1)), (3, .int i25_3)], [.int (FTx (tx sa ch x1) (sL sl x1) i25_3)], M) _
              refine ml_st (S' := (48, [(3, .int (FTx (tx sa ch x1) (sL sl x1) i25_3)), (0, .ref m0), (1, .int x1), (2, .int (sL sl x1))], [], M)) rfl rfl rfl ?_
              refine ml_st (S' := (49, [(3, .int (FTx (tx sa ch x1) (sL sl x1) i25_3)), (0, .ref m0), (1, .int x1), (2, .int (sL sl x1))], [.int (FTx (tx sa ch x1) (sL sl x1) i25_3)], M)) rfl rfl rfl ?_
              refine ml_if (S1 := (25, [(0, .ref m0), (1, .int x1), (2, .int (sL sl x1)), (3, .int (FTx (tx sa ch x1) (sL sl x1) i25_3))], [], M)) (S2 := (52, [(3, .int (FTx (tx sa ch x1) (sL sl x1) i25_3)), (0, .ref m0), (1, .int x1), (2, .int (sL sl x1))], [], M)) rfl rfl rfl (fun c_49 => ?_) (fun c_49 => ?_)
              · have c_49 : 0 ≤ (FTx (tx sa ch x1) (sL sl x1) i25_3) := of_decide_eq_true c_49
                have hft := (FTx_b (c := (tx sa ch x1)) (n := (sL sl x1)) (a := i25_3) (by omega) hkn (by omega)).resolve_left (fun e => absurd (e ▸ c_49 : (0 : Int32) ≤ -1) (by decide))
                exact ih_25 (FTx (tx sa ch x1) (sL sl x1) i25_3) (by have := hft.1; omega) (⟨by omega, hft.2, m9 + 1, i25_3, hit, by omega, i_nle c_27, c_38, rfl, hft.1, hft.2⟩)
              · have c_49 : ¬ (0 ≤ (FTx (tx sa ch x1) (sL sl x1) i25_3)) := of_decide_eq_false c_49
                refine ml_st (S' := (53, [(3, .int (FTx (tx sa ch x1) (sL sl x1) i25_3)), (0, .ref m0), (1, .int x1), (2, .int (sL sl x1))], [.int 0], M)) rfl rfl rfl ?_
                exact ml_ret rfl (r_z (Or.inl rfl)) (⟨⟨_, rfl, Or.inl rfl, Or.inl rfl⟩, rfl⟩)
      exact L_25 _ 1 (Nat.le_refl _) (⟨by decide, by have h7 : (sL sl x1).toInt ≠ 0 := (fun e => c_7 (Int32.toInt_inj.mp e)); show (1 : Int) ≤ _; omega, 0, rfl⟩)
    · have c_18 : ¬ ((tx sa ch x1 0) = 40) := of_decide_eq_false c_18
      refine ml_st (S' := (22, [], [.int 0], M)) rfl rfl rfl ?_
      exact ml_ret rfl (r_z (Or.inl rfl)) (⟨⟨_, rfl, Or.inl rfl, Or.inl rfl⟩, rfl⟩)
set_option maxHeartbeats 2000000 in
theorem rm_endsV {g : xe_G}  {m0 : Nat} {q : Nat → Nat} {z : Nat × Nat} {I : rI} {R : rR} {M : mi_H} {x1 : Int32} {S cN : Nat} {sa sl ch : Nat → Int32}  (hR : RS g m0 q z I R M) (hY : SK S cN sa sl ch I R) (hs0 : 0 ≤ x1.toInt) (hs1 : x1.toInt < S) (h2 : 2 ≤ (sL sl x1).toInt) {d : Nat} (hd : 2 ≤ d) : mt (mT g) d 203 [.ref m0, .int x1] M (fun v M' => (∃ x : Int32, v = some (.int x) ∧ (x = 0 ∨ x = 1)) ∧ M' = M) := by
  obtain ⟨d, rfl⟩ : ∃ e, d = e + 1 := ⟨d - 1, by omega⟩
  refine mt_in (b := mb_203 g) rfl rfl ?_
  show ml (mT g) d (mb_203 g).2 (0, [(0, .ref m0), (1, .int x1)], [], M) _
  have hsl := hY.s hs0 hs1
  have hsl0 : 0 ≤ (sL sl x1).toInt := hsl.2.2.2.1
  have hsl1 : (sL sl x1).toInt ≤ 66000 := by have h1 := hsl.2.2.1; have h2 := hsl.2.2.2.2.1; have h3 := hsl.2.2.2.2.2.1; show (sl _).toInt ≤ 66000; omega
  have v1 : ((sL sl x1) - 1).toInt = (sL sl x1).toInt - 1 := i_sub (by have : (1 : Int32).toInt = 1 := rfl; omega) (by have : (1 : Int32).toInt = 1 := rfl; omega)
  have v2 : ((sL sl x1) - 2).toInt = (sL sl x1).toInt - 2 := i_sub (by have : (2 : Int32).toInt = 2 := rfl; omega) (by have : (2 : Int32).toInt = 2 := rfl; omega)
  refine ml_blk 3 (S' := (3, [(0, .ref m0), (1, .int x1)], [.ref m0, .int x1, .ref m0], M)) rfl ?_
  refine ml_st (S' := (4, [(0, .ref m0), (1, .int x1)], [.int x1, .ref m0, .int x1, .ref m0], M)) rfl rfl rfl ?_
  refine ml_call (a := [.ref m0, .int x1]) (rest := [.int x1, .ref m0]) rfl (hR.okc rfl rfl rfl) rfl rfl (rm_length hR hY (hs0) (hs1) (by omega)) (fun v11 M12 h13 => ?_)
  obtain ⟨rfl, h13⟩ := h13
  rw [h13]
  show ml _ _ _ (7, [(0, .ref m0), (1, .int x1)], [.int (sL sl x1), .int x1, .ref m0], M) _
  refine ml_blk 2 (S' := (9, [(0, .ref m0), (1, .int x1)], [.int ((sL sl x1) - 1), .int x1, .ref m0], M)) rfl ?_
  refine ml_call (a := [.ref m0, .int x1, .int ((sL sl x1) - 1)]) (rest := []) rfl (hR.okc rfl rfl rfl) rfl rfl (rm_at hR hY (hs0) (hs1) (by omega) (by omega) (by omega)) (fun v14 M15 h16 => ?_)
  obtain ⟨rfl, h16⟩ := h16
  rw [h16]
  show ml _ _ _ (12, [(0, .ref m0), (1, .int x1)], [.int (tx sa ch x1 ((sL sl x1) - 1))], M) _
  refine ml_st (S' := (14, [(0, .ref m0), (1, .int x1)], [.int 86, .int (tx sa ch x1 ((sL sl x1) - 1))], M)) rfl rfl rfl ?_
  refine ml_if2 (S1 := (38, [], [], M)) (S2 := (17, [(0, .ref m0), (1, .int x1)], [], M)) rfl rfl rfl (fun c_14 => ?_) (fun c_14 => ?_)
  · have c_14 : ¬ (tx sa ch x1 ((sL sl x1) - 1)) = 86 := of_decide_eq_true c_14
    refine ml_st (S' := (39, [], [.int 0], M)) rfl rfl rfl ?_
    exact ml_ret rfl (r_z (Or.inl rfl)) (⟨⟨_, rfl, Or.inl rfl⟩, rfl⟩)
  · have c_14 : ¬ (¬ (tx sa ch x1 ((sL sl x1) - 1)) = 86) := of_decide_eq_false c_14
    refine ml_blk 3 (S' := (20, [(0, .ref m0), (1, .int x1)], [.ref m0, .int x1, .ref m0], M)) rfl ?_
    refine ml_st (S' := (21, [(0, .ref m0), (1, .int x1)], [.int x1, .ref m0, .int x1, .ref m0], M)) rfl rfl rfl ?_
    refine ml_call (a := [.ref m0, .int x1]) (rest := [.int x1, .ref m0]) rfl (hR.okc rfl rfl rfl) rfl rfl (rm_length hR hY (hs0) (hs1) (by omega)) (fun v17 M18 h19 => ?_)
    obtain ⟨rfl, h19⟩ := h19
    rw [h19]
    show ml _ _ _ (24, [(0, .ref m0), (1, .int x1)], [.int (sL sl x1), .int x1, .ref m0], M) _
    refine ml_blk 2 (S' := (26, [(0, .ref m0), (1, .int x1)], [.int ((sL sl x1) - 2), .int x1, .ref m0], M)) rfl ?_
    refine ml_call (a := [.ref m0, .int x1, .int ((sL sl x1) - 2)]) (rest := []) rfl (hR.okc rfl rfl rfl) rfl rfl (rm_at hR hY (hs0) (hs1) (by omega) (by omega) (by omega)) (fun v20 M21 h22 => ?_)
    obtain ⟨rfl, h22⟩ := h22
    rw [h22]
    show ml _ _ _ (29, [(0, .ref m0), (1, .int x1)], [.int (tx sa ch x1 ((sL sl x1) - 2))], M) _
    refine ml_st (S' := (31, [(0, .ref m0), (1, .int x1)], [.int 41, .int (tx sa ch x1 ((sL sl x1) - 2))], M)) rfl rfl rfl ?_
    refine ml_if2 (S1 := (38, [], [], M)) (S2 := (34, [(0, .ref m0), (1, .int x1)], [], M)) rfl rfl rfl (fun c_31 => ?_) (fun c_31 => ?_)
    · have c_31 : ¬ (tx sa ch x1 ((sL sl x1) - 2)) = 41 := of_decide_eq_true c_31
      refine ml_st (S' := (39, [], [.int 0], M)) rfl rfl rfl ?_
      exact ml_ret rfl (r_z (Or.inl rfl)) (⟨⟨_, rfl, Or.inl rfl⟩, rfl⟩)
    · have c_31 : ¬ (¬ (tx sa ch x1 ((sL sl x1) - 2)) = 41) := of_decide_eq_false c_31
      refine ml_st (S' := (35, [(0, .ref m0), (1, .int x1)], [.int 1], M)) rfl rfl rfl ?_
      refine ml_st (S' := (39, [], [.int 1], M)) rfl rfl rfl ?_
      exact ml_ret rfl (r_z (Or.inr rfl)) (⟨⟨_, rfl, Or.inr rfl⟩, rfl⟩)
theorem ct_pos {c : Int32 → Int32} {N : Int32} (h : 0 ≤ N.toInt) : ntv c 0 N = 0 ∨ 0 < N.toInt := by
  by_cases e : N.toInt = 0
  · left
    have : N = 0 := Int32.toInt_inj.mp e
    rw [this]
    exact ntv_0
  · right
    omega

set_option maxHeartbeats 2000000 in
theorem rm_classText {g : xe_G}  {m0 : Nat} {q : Nat → Nat} {z : Nat × Nat} {I : rI} {R : rR} {M : mi_H} {x1 : Int32} {S cN : Nat} {sa sl ch : Nat → Int32}  (hR : RS g m0 q z I R M) (hY : SK S cN sa sl ch I R) (hs0 : 0 ≤ x1.toInt) (hs1 : x1.toInt < S) {d : Nat} (hd : 4 ≤ d) : mt (mT g) d 194 [.ref m0, .int x1] M (fun v M' => (∃ x : Int32, v = some (.int x) ∧ (x = 0 ∨ x = 1) ∧ (x = 0 ∨ 0 < (sL sl x1).toInt)) ∧ M' = M) := by
  obtain ⟨d, rfl⟩ : ∃ e, d = e + 1 := ⟨d - 1, by omega⟩
  refine mt_in (b := mb_194 g) rfl rfl ?_
  show ml (mT g) d (mb_194 g).2 (0, [(0, .ref m0), (1, .int x1)], [], M) _
  have hsl := hY.s hs0 hs1
  have hsl0 : 0 ≤ (sL sl x1).toInt := hsl.2.2.2.1
  have hsl1 : (sL sl x1).toInt ≤ 66000 := by have h1 := hsl.2.2.1; have h2 := hsl.2.2.2.2.1; have h3 := hsl.2.2.2.2.2.1; show (sl _).toInt ≤ 66000; omega
  refine ml_blk 2 (S' := (2, [(0, .ref m0), (1, .int x1)], [.int x1, .ref m0], M)) rfl ?_
  refine ml_call (a := [.ref m0, .int x1]) (rest := []) rfl (hR.okc rfl rfl rfl) rfl rfl (rm_length hR hY (hs0) (hs1) (by omega)) (fun v11 M12 h13 => ?_)
  obtain ⟨rfl, h13⟩ := h13
  rw [h13]
  show ml _ _ _ (5, [(0, .ref m0), (1, .int x1)], [.int (sL sl x1)], M) _
  refine ml_if (S1 := (41, [(0, .ref m0), (1, .int x1)], [], M)) (S2 := (8, [(0, .ref m0), (1, .int x1)], [], M)) rfl rfl rfl (fun c_5 => ?_) (fun c_5 => ?_)
  · have c_5 : (sL sl x1) ≤ 0 := of_decide_eq_true c_5
    refine ml_blk 3 (S' := (44, [(0, .ref m0), (1, .int x1)], [.int 0, .int x1, .ref m0], M)) rfl ?_
    refine ml_blk 2 (S' := (46, [(0, .ref m0), (1, .int x1)], [.int x1, .ref m0, .int 0, .int x1, .ref m0], M)) rfl ?_
    refine ml_call (a := [.ref m0, .int x1]) (rest := [.int 0, .int x1, .ref m0]) rfl (hR.okc rfl rfl rfl) rfl rfl (rm_length hR hY (hs0) (hs1) (by omega)) (fun v14 M15 h16 => ?_)
    obtain ⟨rfl, h16⟩ := h16
    rw [h16]
    show ml _ _ _ (49, [(0, .ref m0), (1, .int x1)], [.int (sL sl x1), .int 0, .int x1, .ref m0], M) _
    refine ml_call (a := [.ref m0, .int x1, .int 0, .int (sL sl x1)]) (rest := []) rfl (hR.okc rfl rfl rfl) rfl rfl (rm_nameText hR hY (hs0) (hs1) (by decide) (by have : (0 : Int32).toInt = 0 := rfl; omega) (Int.le_refl _) (by omega)) (fun v17 M18 h19 => ?_)
    obtain ⟨rfl, h19⟩ := h19
    rw [h19]
    show ml _ _ _ (52, [], [.int (ntv (tx sa ch x1) 0 (sL sl x1))], M) _
    exact ml_ret rfl (r_z (ntx_01)) (⟨⟨_, rfl, ntx_01, ct_pos hsl0⟩, rfl⟩)
  · have c_5 : ¬ ((sL sl x1) ≤ 0) := of_decide_eq_false c_5
    refine ml_blk 3 (S' := (11, [(0, .ref m0), (1, .int x1)], [.int 0, .int x1, .ref m0], M)) rfl ?_
    refine ml_call (a := [.ref m0, .int x1, .int 0]) (rest := []) rfl (hR.okc rfl rfl rfl) rfl rfl (rm_at hR hY (hs0) (hs1) (by decide) (by have q := i_nle c_5; exact q) (by omega)) (fun v20 M21 h22 => ?_)
    obtain ⟨rfl, h22⟩ := h22
    rw [h22]
    show ml _ _ _ (14, [(0, .ref m0), (1, .int x1)], [.int (tx sa ch x1 0)], M) _
    refine ml_st (S' := (16, [(0, .ref m0), (1, .int x1)], [.int 91, .int (tx sa ch x1 0)], M)) rfl rfl rfl ?_
    refine ml_if2 (S1 := (41, [(0, .ref m0), (1, .int x1)], [], M)) (S2 := (19, [(0, .ref m0), (1, .int x1)], [], M)) rfl rfl rfl (fun c_16 => ?_) (fun c_16 => ?_)
    · have c_16 : ¬ (tx sa ch x1 0) = 91 := of_decide_eq_true c_16
      refine ml_blk 3 (S' := (44, [(0, .ref m0), (1, .int x1)], [.int 0, .int x1, .ref m0], M)) rfl ?_
      refine ml_blk 2 (S' := (46, [(0, .ref m0), (1, .int x1)], [.int x1, .ref m0, .int 0, .int x1, .ref m0], M)) rfl ?_
      refine ml_call (a := [.ref m0, .int x1]) (rest := [.int 0, .int x1, .ref m0]) rfl (hR.okc rfl rfl rfl) rfl rfl (rm_length hR hY (hs0) (hs1) (by omega)) (fun v23 M24 h25 => ?_)
      obtain ⟨rfl, h25⟩ := h25
      rw [h25]
      show ml _ _ _ (49, [(0, .ref m0), (1, .int x1)], [.int (sL sl x1), .int 0, .int x1, .ref m0], M) _
      refine ml_call (a := [.ref m0, .int x1, .int 0, .int (sL sl x1)]) (rest := []) rfl (hR.okc rfl rfl rfl) rfl rfl (rm_nameText hR hY (hs0) (hs1) (by decide) (by have : (0 : Int32).toInt = 0 := rfl; omega) (Int.le_refl _) (by omega)) (fun v26 M27 h28 => ?_)
      obtain ⟨rfl, h28⟩ := h28
      rw [h28]
      show ml _ _ _ (52, [], [.int (ntv (tx sa ch x1) 0 (sL sl x1))], M) _
      exact ml_ret rfl (r_z (ntx_01)) (⟨⟨_, rfl, ntx_01, ct_pos hsl0⟩, rfl⟩)
    · have c_16 : ¬ (¬ (tx sa ch x1 0) = 91) := of_decide_eq_false c_16
      refine ml_blk 3 (S' := (22, [(0, .ref m0), (1, .int x1)], [.int 0, .int x1, .ref m0], M)) rfl ?_
      refine ml_call (a := [.ref m0, .int x1, .int 0]) (rest := []) rfl (hR.okc rfl rfl rfl) rfl rfl (rm_fieldText hR hY (hs0) (hs1) (by decide) (by have : (0 : Int32).toInt = 0 := rfl; omega) (by omega)) (fun v29 M30 h31 => ?_)
      obtain ⟨rfl, h31⟩ := h31
      rw [h31]
      show ml _ _ _ (25, [(0, .ref m0), (1, .int x1)], [.int (FTx (tx sa ch x1) (sL sl x1) 0)], M) _
      refine ml_blk 2 (S' := (27, [(0, .ref m0), (1, .int x1)], [.int x1, .ref m0, .int (FTx (tx sa ch x1) (sL sl x1) 0)], M)) rfl ?_
      refine ml_call (a := [.ref m0, .int x1]) (rest := [.int (FTx (tx sa ch x1) (sL sl x1) 0)]) rfl (hR.okc rfl rfl rfl) rfl rfl (rm_length hR hY (hs0) (hs1) (by omega)) (fun v32 M33 h34 => ?_)
      obtain ⟨rfl, h34⟩ := h34
      rw [h34]
      show ml _ _ _ (30, [(0, .ref m0), (1, .int x1)], [.int (sL sl x1), .int (FTx (tx sa ch x1) (sL sl x1) 0)], M) _
      refine ml_if2 (S1 := (37, [(0, .ref m0), (1, .int x1)], [], M)) (S2 := (33, [(0, .ref m0), (1, .int x1)], [], M)) rfl rfl rfl (fun c_30 => ?_) (fun c_30 => ?_)
      · have c_30 : ¬ (FTx (tx sa ch x1) (sL sl x1) 0) = (sL sl x1) := of_decide_eq_true c_30
        refine ml_st (S' := (38, [(0, .ref m0), (1, .int x1)], [.int 0], M)) rfl rfl rfl ?_
        refine ml_st (S' := (52, [], [.int 0], M)) rfl rfl rfl ?_
        exact ml_ret rfl (r_z (Or.inl rfl)) (⟨⟨_, rfl, Or.inl rfl, Or.inl rfl⟩, rfl⟩)
      · have c_30 : ¬ (¬ (FTx (tx sa ch x1) (sL sl x1) 0) = (sL sl x1)) := of_decide_eq_false c_30
        refine ml_st (S' := (34, [(0, .ref m0), (1, .int x1)], [.int 1], M)) rfl rfl rfl ?_
        refine ml_st (S' := (52, [], [.int 1], M)) rfl rfl rfl ?_
        exact ml_ret rfl (r_z (Or.inr rfl)) (⟨⟨_, rfl, Or.inr rfl, Or.inr (by have q := i_nle c_5; have : (0 : Int32).toInt = 0 := rfl; omega)⟩, rfl⟩)
set_option maxHeartbeats 2000000 in
theorem rm_wide {g : xe_G}  {m0 : Nat} {q : Nat → Nat} {z : Nat × Nat} {I : rI} {R : rR} {M : mi_H} {x1 x2 : Int32} {S cN : Nat} {sa sl ch : Nat → Int32}  (hR : RS g m0 q z I R M) (hY : SK S cN sa sl ch I R) (hs0 : 0 ≤ x1.toInt) (hs1 : x1.toInt < S) (hk0 : 0 ≤ x2.toInt) (hk1 : x2.toInt < (sL sl x1).toInt) {d : Nat} (hd : 2 ≤ d) : mt (mT g) d 255 [.ref m0, .int x1, .int x2] M (fun v M' => (∃ x : Int32, v = some (.int x) ∧ (x = 0 ∨ x = 1)) ∧ M' = M) := by
  obtain ⟨d, rfl⟩ : ∃ e, d = e + 1 := ⟨d - 1, by omega⟩
  refine mt_in (b := mb_255 g) rfl rfl ?_
  show ml (mT g) d (mb_255 g).2 (0, [(0, .ref m0), (1, .int x1), (2, .int x2)], [], M) _
  refine ml_blk 3 (S' := (3, [(0, .ref m0), (1, .int x1), (2, .int x2)], [.int x2, .int x1, .ref m0], M)) rfl ?_
  refine ml_call (a := [.ref m0, .int x1, .int x2]) (rest := []) rfl (hR.okc rfl rfl rfl) rfl rfl (rm_at hR hY (hs0) (hs1) (hk0) (hk1) (by omega)) (fun v11 M12 h13 => ?_)
  obtain ⟨rfl, h13⟩ := h13
  rw [h13]
  show ml _ _ _ (6, [(0, .ref m0), (1, .int x1), (2, .int x2)], [.int (tx sa ch x1 x2)], M) _
  refine ml_st (S' := (8, [(0, .ref m0), (1, .int x1), (2, .int x2)], [.int 74, .int (tx sa ch x1 x2)], M)) rfl rfl rfl ?_
  refine ml_if2 (S1 := (22, [], [], M)) (S2 := (11, [(0, .ref m0), (1, .int x1), (2, .int x2)], [], M)) rfl rfl rfl (fun c_8 => ?_) (fun c_8 => ?_)
  · have c_8 : (tx sa ch x1 x2) = 74 := of_decide_eq_true c_8
    refine ml_st (S' := (23, [], [.int 1], M)) rfl rfl rfl ?_
    refine ml_st (S' := (27, [], [.int 1], M)) rfl rfl rfl ?_
    exact ml_ret rfl (r_z (Or.inr rfl)) (⟨⟨_, rfl, Or.inr rfl⟩, rfl⟩)
  · have c_8 : ¬ ((tx sa ch x1 x2) = 74) := of_decide_eq_false c_8
    refine ml_blk 3 (S' := (14, [(0, .ref m0), (1, .int x1), (2, .int x2)], [.int x2, .int x1, .ref m0], M)) rfl ?_
    refine ml_call (a := [.ref m0, .int x1, .int x2]) (rest := []) rfl (hR.okc rfl rfl rfl) rfl rfl (rm_at hR hY (hs0) (hs1) (hk0) (hk1) (by omega)) (fun v14 M15 h16 => ?_)
    obtain ⟨rfl, h16⟩ := h16
    rw [h16]
    show ml _ _ _ (17, [(0, .ref m0), (1, .int x1), (2, .int x2)], [.int (tx sa ch x1 x2)], M) _
    refine ml_st (S' := (19, [(0, .ref m0), (1, .int x1), (2, .int x2)], [.int 68, .int (tx sa ch x1 x2)], M)) rfl rfl rfl ?_
    refine ml_if2 (S1 := (26, [(0, .ref m0), (1, .int x1), (2, .int x2)], [], M)) (S2 := (22, [], [], M)) rfl rfl rfl (fun c_19 => ?_) (fun c_19 => ?_)
    · have c_19 : ¬ (tx sa ch x1 x2) = 68 := of_decide_eq_true c_19
      refine ml_st (S' := (27, [], [.int 0], M)) rfl rfl rfl ?_
      exact ml_ret rfl (r_z (Or.inl rfl)) (⟨⟨_, rfl, Or.inl rfl⟩, rfl⟩)
    · have c_19 : ¬ (¬ (tx sa ch x1 x2) = 68) := of_decide_eq_false c_19
      refine ml_st (S' := (23, [], [.int 1], M)) rfl rfl rfl ?_
      refine ml_st (S' := (27, [], [.int 1], M)) rfl rfl rfl ?_
      exact ml_ret rfl (r_z (Or.inr rfl)) (⟨⟨_, rfl, Or.inr rfl⟩, rfl⟩)
set_option maxHeartbeats 2000000 in
theorem rm_indexes0 {g : xe_G}  {m0 : Nat} {q : Nat → Nat} {z : Nat × Nat} {I : rI} {R : rR} {M : mi_H} {x1 x2 x3 : Int32} {n : Nat} {f : Nat → Int32} {S : Nat} {cp mj : Int32} {pa py : Nat → Int32}  (hR : RS g m0 q z I R M) (hF : FK n f I R) (hP : PK n f S cp mj pa py I R) (ht : tgf f cp pa x1 = x2) (hl : x2 = 7 ∨ x2 = 12) {d : Nat} (hd : 4 ≤ d) : mt (mT g) d 214 [.ref m0, .int x1, .int x2, .int x3] M (fun v M' => (∃ x : Int32, v = some (.int x) ∧ (x = 0 ∨ x = 1) ∧ (x = 0 ∨ IXP f cp pa x1 x2)) ∧ M' = M) := by
  obtain ⟨d, rfl⟩ : ∃ e, d = e + 1 := ⟨d - 1, by omega⟩
  refine mt_in (b := mb_214 g) rfl rfl ?_
  show ml (mT g) d (mb_214 g).2 (0, [(0, .ref m0), (1, .int x1), (2, .int x2), (3, .int x3)], [], M) _
  refine ml_blk 2 (S' := (3, [(0, .ref m0), (1, .int x1), (2, .int x2), (3, .int x3)], [.int 7, .int x2], M)) rfl ?_
  have J_30 : t7 x2 → ml (mT g) d (mb_214 g).2 (30, [(0, .ref m0), (1, .int x1)], [], M) (fun v M' => (∃ x : Int32, v = some (.int x) ∧ (x = 0 ∨ x = 1) ∧ (x = 0 ∨ IXP f cp pa x1 x2)) ∧ M' = M) := by
    intro hj_30
    refine ml_blk 3 (S' := (33, [(0, .ref m0), (1, .int x1)], [.int x1, .ref m0, .ref m0], M)) rfl ?_
    refine ml_st (S' := (34, [(0, .ref m0), (1, .int x1)], [.int 1, .int x1, .ref m0, .ref m0], M)) rfl rfl rfl ?_
    refine ml_call (a := [.ref m0, .int x1, .int 1]) (rest := [.ref m0]) rfl (hR.okc rfl rfl rfl) rfl rfl (rm_index hR hF hP ((hP.tg ht (t7_ne hj_30)).1) ((hP.tg ht (t7_ne hj_30)).2.1) ((hP.tg ht (t7_ne hj_30)).2.2.1) (by decide) (by have q := (hP.tg ht (t7_ne hj_30)).2.2.2.2; rw [show esz _ = 3 from esz_7 hj_30] at q; have : (1 : Int32).toInt = 1 := rfl; omega) (by omega)) (fun v11 M12 h13 => ?_)
    obtain ⟨rfl, h13⟩ := h13
    rw [h13]
    show ml _ _ _ (37, [(0, .ref m0), (1, .int x1)], [.int (ixf f pa x1 1), .ref m0], M) _
    refine ml_call (a := [.ref m0, .int (ixf f pa x1 1)]) (rest := []) rfl (hR.okc rfl rfl rfl) rfl rfl (rm_tag hR hF hP (by omega)) (fun v14 M15 h16 => ?_)
    obtain ⟨rfl, h16⟩ := h16
    rw [h16]
    show ml _ _ _ (40, [(0, .ref m0), (1, .int x1)], [.int (tgf f cp pa (ixf f pa x1 1))], M) _
    refine ml_st (S' := (41, [(0, .ref m0), (1, .int x1)], [.int 1, .int (tgf f cp pa (ixf f pa x1 1))], M)) rfl rfl rfl ?_
    refine ml_if2 (S1 := (48, [(0, .ref m0), (1, .int x1)], [], M)) (S2 := (44, [(0, .ref m0), (1, .int x1)], [], M)) rfl rfl rfl (fun c_41 => ?_) (fun c_41 => ?_)
    · have c_41 : ¬ (tgf f cp pa (ixf f pa x1 1)) = 1 := of_decide_eq_true c_41
      refine ml_st (S' := (49, [], [.int 0], M)) rfl rfl rfl ?_
      exact ml_ret rfl (r_z (Or.inl rfl)) (⟨⟨_, rfl, Or.inl rfl, Or.inl rfl⟩, rfl⟩)
    · have c_41 : ¬ (¬ (tgf f cp pa (ixf f pa x1 1)) = 1) := of_decide_eq_false c_41
      refine ml_st (S' := (45, [(0, .ref m0), (1, .int x1)], [.int 1], M)) rfl rfl rfl ?_
      refine ml_st (S' := (49, [], [.int 1], M)) rfl rfl rfl ?_
      exact ml_ret rfl (r_z (Or.inr rfl)) (⟨⟨_, rfl, Or.inr rfl, Or.inr (IXP_7 hj_30 (show tgf f cp pa (ixf f pa x1 1) = 1 from Decidable.not_not.mp c_41))⟩, rfl⟩)
  refine ml_if2 (S1 := (30, [(0, .ref m0), (1, .int x1)], [], M)) (S2 := (6, [(0, .ref m0), (1, .int x1), (2, .int x2), (3, .int x3)], [], M)) rfl rfl rfl (fun c_3 => ?_) (fun c_3 => ?_)
  · have c_3 : x2 = 7 := of_decide_eq_true c_3
    exact J_30  (Or.inl c_3)
  · have c_3 : ¬ (x2 = 7) := of_decide_eq_false c_3
    refine ml_blk 2 (S' := (9, [(0, .ref m0), (1, .int x1), (2, .int x2), (3, .int x3)], [.int 8, .int x2], M)) rfl ?_
    refine ml_if2 (S1 := (30, [(0, .ref m0), (1, .int x1)], [], M)) (S2 := (12, [(0, .ref m0), (1, .int x1), (2, .int x2), (3, .int x3)], [], M)) rfl rfl rfl (fun c_9 => ?_) (fun c_9 => ?_)
    · have c_9 : x2 = 8 := of_decide_eq_true c_9
      exact J_30  (Or.inr (Or.inl c_9))
    · have c_9 : ¬ (x2 = 8) := of_decide_eq_false c_9
      refine ml_blk 2 (S' := (15, [(0, .ref m0), (1, .int x1), (2, .int x2), (3, .int x3)], [.int 16, .int x2], M)) rfl ?_
      refine ml_if2 (S1 := (30, [(0, .ref m0), (1, .int x1)], [], M)) (S2 := (18, [(0, .ref m0), (1, .int x1), (2, .int x2), (3, .int x3)], [], M)) rfl rfl rfl (fun c_15 => ?_) (fun c_15 => ?_)
      · have c_15 : x2 = 16 := of_decide_eq_true c_15
        exact J_30  (Or.inr (Or.inr (Or.inl c_15)))
      · have c_15 : ¬ (x2 = 16) := of_decide_eq_false c_15
        refine ml_blk 2 (S' := (21, [(0, .ref m0), (1, .int x1), (2, .int x2), (3, .int x3)], [.int 19, .int x2], M)) rfl ?_
        refine ml_if2 (S1 := (30, [(0, .ref m0), (1, .int x1)], [], M)) (S2 := (24, [(0, .ref m0), (1, .int x1), (2, .int x2), (3, .int x3)], [], M)) rfl rfl rfl (fun c_21 => ?_) (fun c_21 => ?_)
        · have c_21 : x2 = 19 := of_decide_eq_true c_21
          exact J_30  (Or.inr (Or.inr (Or.inr (Or.inl c_21))))
        · have c_21 : ¬ (x2 = 19) := of_decide_eq_false c_21
          refine ml_blk 2 (S' := (27, [(0, .ref m0), (1, .int x1), (2, .int x2), (3, .int x3)], [.int 20, .int x2], M)) rfl ?_
          refine ml_if2 (S1 := (50, [(0, .ref m0), (1, .int x1), (2, .int x2), (3, .int x3)], [], M)) (S2 := (30, [(0, .ref m0), (1, .int x1)], [], M)) rfl rfl rfl (fun c_27 => ?_) (fun c_27 => ?_)
          · have c_27 : ¬ x2 = 20 := of_decide_eq_true c_27
            refine ml_blk 2 (S' := (53, [(0, .ref m0), (1, .int x1), (2, .int x2), (3, .int x3)], [.int 9, .int x2], M)) rfl ?_
            have J_130 : (¬ t7 x2 ∧ ¬ t9 x2) → ml (mT g) d (mb_214 g).2 (130, [(0, .ref m0), (1, .int x1), (2, .int x2)], [], M) (fun v M' => (∃ x : Int32, v = some (.int x) ∧ (x = 0 ∨ x = 1) ∧ (x = 0 ∨ IXP f cp pa x1 x2)) ∧ M' = M) := by
              intro hj_130
              refine ml_blk 2 (S' := (133, [(0, .ref m0), (1, .int x1), (2, .int x2)], [.int 12, .int x2], M)) rfl ?_
              refine ml_if2 (S1 := (170, [(0, .ref m0), (1, .int x1), (2, .int x2)], [], M)) (S2 := (136, [(0, .ref m0), (1, .int x1), (2, .int x2)], [], M)) rfl rfl rfl (fun c_133 => ?_) (fun c_133 => ?_)
              · have c_133 : ¬ x2 = 12 := of_decide_eq_true c_133
                exact (hl.elim c_3 c_133).elim
              · have c_133 : ¬ (¬ x2 = 12) := of_decide_eq_false c_133
                refine ml_blk 3 (S' := (139, [(0, .ref m0), (1, .int x1), (2, .int x2)], [.int x1, .ref m0, .ref m0], M)) rfl ?_
                refine ml_st (S' := (140, [(0, .ref m0), (1, .int x1), (2, .int x2)], [.int 1, .int x1, .ref m0, .ref m0], M)) rfl rfl rfl ?_
                refine ml_call (a := [.ref m0, .int x1, .int 1]) (rest := [.ref m0]) rfl (hR.okc rfl rfl rfl) rfl rfl (rm_index hR hF hP ((hP.tg (ht.trans (Decidable.not_not.mp c_133)) (by decide)).1) ((hP.tg (ht.trans (Decidable.not_not.mp c_133)) (by decide)).2.1) ((hP.tg (ht.trans (Decidable.not_not.mp c_133)) (by decide)).2.2.1) (by decide) (by have q := (hP.tg (ht.trans (Decidable.not_not.mp c_133)) (by decide)).2.2.2.2; rw [show esz _ = 5 from rfl] at q; have : (1 : Int32).toInt = 1 := rfl; omega) (by omega)) (fun v17 M18 h19 => ?_)
                obtain ⟨rfl, h19⟩ := h19
                rw [h19]
                show ml _ _ _ (143, [(0, .ref m0), (1, .int x1), (2, .int x2)], [.int (ixf f pa x1 1), .ref m0], M) _
                refine ml_call (a := [.ref m0, .int (ixf f pa x1 1)]) (rest := []) rfl (hR.okc rfl rfl rfl) rfl rfl (rm_tag hR hF hP (by omega)) (fun v20 M21 h22 => ?_)
                obtain ⟨rfl, h22⟩ := h22
                rw [h22]
                show ml _ _ _ (146, [(0, .ref m0), (1, .int x1), (2, .int x2)], [.int (tgf f cp pa (ixf f pa x1 1))], M) _
                refine ml_st (S' := (147, [(0, .ref m0), (1, .int x1), (2, .int x2)], [.int 1, .int (tgf f cp pa (ixf f pa x1 1))], M)) rfl rfl rfl ?_
                refine ml_if2 (S1 := (168, [], [], M)) (S2 := (150, [(0, .ref m0), (1, .int x1), (2, .int x2)], [], M)) rfl rfl rfl (fun c_147 => ?_) (fun c_147 => ?_)
                · have c_147 : ¬ (tgf f cp pa (ixf f pa x1 1)) = 1 := of_decide_eq_true c_147
                  refine ml_st (S' := (169, [], [.int 0], M)) rfl rfl rfl ?_
                  exact ml_ret rfl (r_z (Or.inl rfl)) (⟨⟨_, rfl, Or.inl rfl, Or.inl rfl⟩, rfl⟩)
                · have c_147 : ¬ (¬ (tgf f cp pa (ixf f pa x1 1)) = 1) := of_decide_eq_false c_147
                  refine ml_blk 3 (S' := (153, [(0, .ref m0), (1, .int x1), (2, .int x2)], [.int x1, .ref m0, .ref m0], M)) rfl ?_
                  refine ml_st (S' := (154, [(0, .ref m0), (1, .int x1), (2, .int x2)], [.int 3, .int x1, .ref m0, .ref m0], M)) rfl rfl rfl ?_
                  refine ml_call (a := [.ref m0, .int x1, .int 3]) (rest := [.ref m0]) rfl (hR.okc rfl rfl rfl) rfl rfl (rm_index hR hF hP ((hP.tg (ht.trans (Decidable.not_not.mp c_133)) (by decide)).1) ((hP.tg (ht.trans (Decidable.not_not.mp c_133)) (by decide)).2.1) ((hP.tg (ht.trans (Decidable.not_not.mp c_133)) (by decide)).2.2.1) (by decide) (by have q := (hP.tg (ht.trans (Decidable.not_not.mp c_133)) (by decide)).2.2.2.2; rw [show esz _ = 5 from rfl] at q; have : (3 : Int32).toInt = 3 := rfl; omega) (by omega)) (fun v23 M24 h25 => ?_)
                  obtain ⟨rfl, h25⟩ := h25
                  rw [h25]
                  show ml _ _ _ (157, [(0, .ref m0), (1, .int x1), (2, .int x2)], [.int (ixf f pa x1 3), .ref m0], M) _
                  refine ml_call (a := [.ref m0, .int (ixf f pa x1 3)]) (rest := []) rfl (hR.okc rfl rfl rfl) rfl rfl (rm_tag hR hF hP (by omega)) (fun v26 M27 h28 => ?_)
                  obtain ⟨rfl, h28⟩ := h28
                  rw [h28]
                  show ml _ _ _ (160, [(0, .ref m0), (1, .int x1), (2, .int x2)], [.int (tgf f cp pa (ixf f pa x1 3))], M) _
                  refine ml_st (S' := (161, [(0, .ref m0), (1, .int x1), (2, .int x2)], [.int 1, .int (tgf f cp pa (ixf f pa x1 3))], M)) rfl rfl rfl ?_
                  refine ml_if2 (S1 := (168, [], [], M)) (S2 := (164, [(0, .ref m0), (1, .int x1), (2, .int x2)], [], M)) rfl rfl rfl (fun c_161 => ?_) (fun c_161 => ?_)
                  · have c_161 : ¬ (tgf f cp pa (ixf f pa x1 3)) = 1 := of_decide_eq_true c_161
                    refine ml_st (S' := (169, [], [.int 0], M)) rfl rfl rfl ?_
                    exact ml_ret rfl (r_z (Or.inl rfl)) (⟨⟨_, rfl, Or.inl rfl, Or.inl rfl⟩, rfl⟩)
                  · have c_161 : ¬ (¬ (tgf f cp pa (ixf f pa x1 3)) = 1) := of_decide_eq_false c_161
                    refine ml_st (S' := (165, [(0, .ref m0), (1, .int x1), (2, .int x2)], [.int 1], M)) rfl rfl rfl ?_
                    refine ml_st (S' := (169, [], [.int 1], M)) rfl rfl rfl ?_
                    exact ml_ret rfl (r_z (Or.inr rfl)) (⟨⟨_, rfl, Or.inr rfl, Or.inr (IXP_12 (Decidable.not_not.mp c_133) ⟨Decidable.not_not.mp c_147, Decidable.not_not.mp c_161⟩)⟩, rfl⟩)
            refine ml_if2 (S1 := (130, [(0, .ref m0), (1, .int x1), (2, .int x2)], [], M)) (S2 := (56, [(0, .ref m0), (1, .int x1), (2, .int x2), (3, .int x3)], [], M)) rfl rfl rfl (fun c_53 => ?_) (fun c_53 => ?_)
            · have c_53 : x2 < 9 := of_decide_eq_true c_53
              exact J_130  (⟨(fun h => by rcases h with h | h | h | h | h; exact c_3 h; exact c_9 h; exact c_15 h; exact c_21 h; exact c_27 h), fun q => by have := i_lt c_53; have q1 := q.1; have : (9 : Int32).toInt = 9 := rfl; omega⟩)
            · have c_53 : ¬ (x2 < 9) := of_decide_eq_false c_53
              refine ml_blk 2 (S' := (59, [(0, .ref m0), (1, .int x1), (2, .int x2), (3, .int x3)], [.int 11, .int x2], M)) rfl ?_
              refine ml_if2 (S1 := (130, [(0, .ref m0), (1, .int x1), (2, .int x2)], [], M)) (S2 := (62, [(0, .ref m0), (1, .int x1), (2, .int x2), (3, .int x3)], [], M)) rfl rfl rfl (fun c_59 => ?_) (fun c_59 => ?_)
              · have c_59 : 11 < x2 := of_decide_eq_true c_59
                exact J_130  (⟨(fun h => by rcases h with h | h | h | h | h; exact c_3 h; exact c_9 h; exact c_15 h; exact c_21 h; exact c_27 h), fun q => by have := i_lt c_59; have q1 := q.2; have : (11 : Int32).toInt = 11 := rfl; omega⟩)
              · have c_59 : ¬ (11 < x2) := of_decide_eq_false c_59
                have ht9 : t9 x2 := ⟨by have q := i_nlt c_53; have : (9 : Int32).toInt = 9 := rfl; omega, by have q := i_nlt c_59; have : (11 : Int32).toInt = 11 := rfl; omega⟩
                exfalso
                rcases hl with rfl | rfl
                · exact absurd (by decide) c_53
                · exact absurd (by decide) c_59
          · have c_27 : ¬ (¬ x2 = 20) := of_decide_eq_false c_27
            exact J_30  (Or.inr (Or.inr (Or.inr (Or.inr (Decidable.not_not.mp c_27)))))
set_option maxHeartbeats 2000000 in
theorem rm_indexes1 {g : xe_G}  {m0 : Nat} {q : Nat → Nat} {z : Nat × Nat} {I : rI} {R : rR} {M : mi_H} {x1 x2 x3 : Int32} {n : Nat} {f : Nat → Int32} {S : Nat} {cp mj : Int32} {pa py : Nat → Int32}  (hR : RS g m0 q z I R M) (hF : FK n f I R) (hP : PK n f S cp mj pa py I R) (ht : tgf f cp pa x1 = x2) (hl : t9 x2) {d : Nat} (hd : 5 ≤ d) : mt (mT g) d 214 [.ref m0, .int x1, .int x2, .int x3] M (fun v M' => (∃ x : Int32, v = some (.int x) ∧ (x = 0 ∨ x = 1) ∧ (x = 0 ∨ IXP f cp pa x1 x2)) ∧ M' = M) := by
  obtain ⟨d, rfl⟩ : ∃ e, d = e + 1 := ⟨d - 1, by omega⟩
  refine mt_in (b := mb_214 g) rfl rfl ?_
  show ml (mT g) d (mb_214 g).2 (0, [(0, .ref m0), (1, .int x1), (2, .int x2), (3, .int x3)], [], M) _
  refine ml_blk 2 (S' := (3, [(0, .ref m0), (1, .int x1), (2, .int x2), (3, .int x3)], [.int 7, .int x2], M)) rfl ?_
  have J_30 : t7 x2 → ml (mT g) d (mb_214 g).2 (30, [(0, .ref m0), (1, .int x1)], [], M) (fun v M' => (∃ x : Int32, v = some (.int x) ∧ (x = 0 ∨ x = 1) ∧ (x = 0 ∨ IXP f cp pa x1 x2)) ∧ M' = M) := by
    intro hj_30
    exact (t79 hj_30 hl).elim
  refine ml_if2 (S1 := (30, [(0, .ref m0), (1, .int x1)], [], M)) (S2 := (6, [(0, .ref m0), (1, .int x1), (2, .int x2), (3, .int x3)], [], M)) rfl rfl rfl (fun c_3 => ?_) (fun c_3 => ?_)
  · have c_3 : x2 = 7 := of_decide_eq_true c_3
    exact J_30  (Or.inl c_3)
  · have c_3 : ¬ (x2 = 7) := of_decide_eq_false c_3
    refine ml_blk 2 (S' := (9, [(0, .ref m0), (1, .int x1), (2, .int x2), (3, .int x3)], [.int 8, .int x2], M)) rfl ?_
    refine ml_if2 (S1 := (30, [(0, .ref m0), (1, .int x1)], [], M)) (S2 := (12, [(0, .ref m0), (1, .int x1), (2, .int x2), (3, .int x3)], [], M)) rfl rfl rfl (fun c_9 => ?_) (fun c_9 => ?_)
    · have c_9 : x2 = 8 := of_decide_eq_true c_9
      exact J_30  (Or.inr (Or.inl c_9))
    · have c_9 : ¬ (x2 = 8) := of_decide_eq_false c_9
      refine ml_blk 2 (S' := (15, [(0, .ref m0), (1, .int x1), (2, .int x2), (3, .int x3)], [.int 16, .int x2], M)) rfl ?_
      refine ml_if2 (S1 := (30, [(0, .ref m0), (1, .int x1)], [], M)) (S2 := (18, [(0, .ref m0), (1, .int x1), (2, .int x2), (3, .int x3)], [], M)) rfl rfl rfl (fun c_15 => ?_) (fun c_15 => ?_)
      · have c_15 : x2 = 16 := of_decide_eq_true c_15
        exact J_30  (Or.inr (Or.inr (Or.inl c_15)))
      · have c_15 : ¬ (x2 = 16) := of_decide_eq_false c_15
        refine ml_blk 2 (S' := (21, [(0, .ref m0), (1, .int x1), (2, .int x2), (3, .int x3)], [.int 19, .int x2], M)) rfl ?_
        refine ml_if2 (S1 := (30, [(0, .ref m0), (1, .int x1)], [], M)) (S2 := (24, [(0, .ref m0), (1, .int x1), (2, .int x2), (3, .int x3)], [], M)) rfl rfl rfl (fun c_21 => ?_) (fun c_21 => ?_)
        · have c_21 : x2 = 19 := of_decide_eq_true c_21
          exact J_30  (Or.inr (Or.inr (Or.inr (Or.inl c_21))))
        · have c_21 : ¬ (x2 = 19) := of_decide_eq_false c_21
          refine ml_blk 2 (S' := (27, [(0, .ref m0), (1, .int x1), (2, .int x2), (3, .int x3)], [.int 20, .int x2], M)) rfl ?_
          refine ml_if2 (S1 := (50, [(0, .ref m0), (1, .int x1), (2, .int x2), (3, .int x3)], [], M)) (S2 := (30, [(0, .ref m0), (1, .int x1)], [], M)) rfl rfl rfl (fun c_27 => ?_) (fun c_27 => ?_)
          · have c_27 : ¬ x2 = 20 := of_decide_eq_true c_27
            refine ml_blk 2 (S' := (53, [(0, .ref m0), (1, .int x1), (2, .int x2), (3, .int x3)], [.int 9, .int x2], M)) rfl ?_
            have J_130 : (¬ t7 x2 ∧ ¬ t9 x2) → ml (mT g) d (mb_214 g).2 (130, [(0, .ref m0), (1, .int x1), (2, .int x2)], [], M) (fun v M' => (∃ x : Int32, v = some (.int x) ∧ (x = 0 ∨ x = 1) ∧ (x = 0 ∨ IXP f cp pa x1 x2)) ∧ M' = M) := by
              intro hj_130
              exact (hj_130.2 hl).elim
            refine ml_if2 (S1 := (130, [(0, .ref m0), (1, .int x1), (2, .int x2)], [], M)) (S2 := (56, [(0, .ref m0), (1, .int x1), (2, .int x2), (3, .int x3)], [], M)) rfl rfl rfl (fun c_53 => ?_) (fun c_53 => ?_)
            · have c_53 : x2 < 9 := of_decide_eq_true c_53
              exact J_130  (⟨(fun h => by rcases h with h | h | h | h | h; exact c_3 h; exact c_9 h; exact c_15 h; exact c_21 h; exact c_27 h), fun q => by have := i_lt c_53; have q1 := q.1; have : (9 : Int32).toInt = 9 := rfl; omega⟩)
            · have c_53 : ¬ (x2 < 9) := of_decide_eq_false c_53
              refine ml_blk 2 (S' := (59, [(0, .ref m0), (1, .int x1), (2, .int x2), (3, .int x3)], [.int 11, .int x2], M)) rfl ?_
              refine ml_if2 (S1 := (130, [(0, .ref m0), (1, .int x1), (2, .int x2)], [], M)) (S2 := (62, [(0, .ref m0), (1, .int x1), (2, .int x2), (3, .int x3)], [], M)) rfl rfl rfl (fun c_59 => ?_) (fun c_59 => ?_)
              · have c_59 : 11 < x2 := of_decide_eq_true c_59
                exact J_130  (⟨(fun h => by rcases h with h | h | h | h | h; exact c_3 h; exact c_9 h; exact c_15 h; exact c_21 h; exact c_27 h), fun q => by have := i_lt c_59; have q1 := q.2; have : (11 : Int32).toInt = 11 := rfl; omega⟩)
              · have c_59 : ¬ (11 < x2) := of_decide_eq_false c_59
                have ht9 : t9 x2 := ⟨by have q := i_nlt c_53; have : (9 : Int32).toInt = 9 := rfl; omega, by have q := i_nlt c_59; have : (11 : Int32).toInt = 11 := rfl; omega⟩
                refine ml_blk 3 (S' := (65, [(0, .ref m0), (1, .int x1), (2, .int x2), (3, .int x3)], [.int x1, .ref m0, .ref m0], M)) rfl ?_
                refine ml_st (S' := (66, [(0, .ref m0), (1, .int x1), (2, .int x2), (3, .int x3)], [.int 1, .int x1, .ref m0, .ref m0], M)) rfl rfl rfl ?_
                refine ml_call (a := [.ref m0, .int x1, .int 1]) (rest := [.ref m0]) rfl (hR.okc rfl rfl rfl) rfl rfl (rm_index hR hF hP ((hP.tg ht (t9_n0 ht9)).1) ((hP.tg ht (t9_n0 ht9)).2.1) ((hP.tg ht (t9_n0 ht9)).2.2.1) (by decide) (by have q := (hP.tg ht (t9_n0 ht9)).2.2.2.2; rw [show esz _ = 5 from esz_9 ht9] at q; have : (1 : Int32).toInt = 1 := rfl; omega) (by omega)) (fun v11 M12 h13 => ?_)
                obtain ⟨rfl, h13⟩ := h13
                rw [h13]
                show ml _ _ _ (69, [(0, .ref m0), (1, .int x1), (2, .int x2), (3, .int x3)], [.int (ixf f pa x1 1), .ref m0], M) _
                refine ml_call (a := [.ref m0, .int (ixf f pa x1 1)]) (rest := []) rfl (hR.okc rfl rfl rfl) rfl rfl (rm_tag hR hF hP (by omega)) (fun v14 M15 h16 => ?_)
                obtain ⟨rfl, h16⟩ := h16
                rw [h16]
                show ml _ _ _ (72, [(0, .ref m0), (1, .int x1), (2, .int x2), (3, .int x3)], [.int (tgf f cp pa (ixf f pa x1 1))], M) _
                refine ml_st (S' := (74, [(0, .ref m0), (1, .int x1), (2, .int x2), (3, .int x3)], [.int 7, .int (tgf f cp pa (ixf f pa x1 1))], M)) rfl rfl rfl ?_
                refine ml_if2 (S1 := (128, [], [], M)) (S2 := (77, [(0, .ref m0), (1, .int x1), (2, .int x2), (3, .int x3)], [], M)) rfl rfl rfl (fun c_74 => ?_) (fun c_74 => ?_)
                · have c_74 : ¬ (tgf f cp pa (ixf f pa x1 1)) = 7 := of_decide_eq_true c_74
                  refine ml_st (S' := (129, [], [.int 0], M)) rfl rfl rfl ?_
                  exact ml_ret rfl (r_z (Or.inl rfl)) (⟨⟨_, rfl, Or.inl rfl, Or.inl rfl⟩, rfl⟩)
                · have c_74 : ¬ (¬ (tgf f cp pa (ixf f pa x1 1)) = 7) := of_decide_eq_false c_74
                  refine ml_blk 3 (S' := (80, [(0, .ref m0), (1, .int x1), (2, .int x2), (3, .int x3)], [.int x1, .ref m0, .ref m0], M)) rfl ?_
                  refine ml_st (S' := (81, [(0, .ref m0), (1, .int x1), (2, .int x2), (3, .int x3)], [.int 1, .int x1, .ref m0, .ref m0], M)) rfl rfl rfl ?_
                  refine ml_call (a := [.ref m0, .int x1, .int 1]) (rest := [.ref m0]) rfl (hR.okc rfl rfl rfl) rfl rfl (rm_index hR hF hP ((hP.tg ht (t9_n0 ht9)).1) ((hP.tg ht (t9_n0 ht9)).2.1) ((hP.tg ht (t9_n0 ht9)).2.2.1) (by decide) (by have q := (hP.tg ht (t9_n0 ht9)).2.2.2.2; rw [show esz _ = 5 from esz_9 ht9] at q; have : (1 : Int32).toInt = 1 := rfl; omega) (by omega)) (fun v17 M18 h19 => ?_)
                  obtain ⟨rfl, h19⟩ := h19
                  rw [h19]
                  show ml _ _ _ (84, [(0, .ref m0), (1, .int x1), (2, .int x2), (3, .int x3)], [.int (ixf f pa x1 1), .ref m0], M) _
                  refine ml_blk 2 (S' := (87, [(0, .ref m0), (1, .int x1), (2, .int x2), (3, .int x3)], [.int 0, .int 7, .int (ixf f pa x1 1), .ref m0], M)) rfl ?_
                  refine ml_call (a := [.ref m0, .int (ixf f pa x1 1), .int 7, .int 0]) (rest := []) rfl (hR.okc rfl rfl rfl) rfl rfl (rm_indexes0 hR hF hP (Decidable.not_not.mp c_74) (Or.inl rfl) (by omega)) (fun v20 M21 h22 => ?_)
                  obtain ⟨⟨u23, rfl, z24, w25⟩, h22⟩ := h22
                  rw [h22]
                  show ml _ _ _ (90, [(0, .ref m0), (1, .int x1), (2, .int x2), (3, .int x3)], [.int u23], M) _
                  refine ml_if (S1 := (128, [], [], M)) (S2 := (93, [(0, .ref m0), (1, .int x1), (2, .int x2), (3, .int x3)], [], M)) rfl rfl rfl (fun c_90 => ?_) (fun c_90 => ?_)
                  · have c_90 : u23 = 0 := of_decide_eq_true c_90
                    refine ml_st (S' := (129, [], [.int 0], M)) rfl rfl rfl ?_
                    exact ml_ret rfl (r_z (Or.inl rfl)) (⟨⟨_, rfl, Or.inl rfl, Or.inl rfl⟩, rfl⟩)
                  · have c_90 : ¬ (u23 = 0) := of_decide_eq_false c_90
                    refine ml_blk 3 (S' := (96, [(0, .ref m0), (1, .int x1), (2, .int x2), (3, .int x3)], [.int x1, .ref m0, .ref m0], M)) rfl ?_
                    refine ml_st (S' := (97, [(0, .ref m0), (1, .int x1), (2, .int x2), (3, .int x3)], [.int 3, .int x1, .ref m0, .ref m0], M)) rfl rfl rfl ?_
                    refine ml_call (a := [.ref m0, .int x1, .int 3]) (rest := [.ref m0]) rfl (hR.okc rfl rfl rfl) rfl rfl (rm_index hR hF hP ((hP.tg ht (t9_n0 ht9)).1) ((hP.tg ht (t9_n0 ht9)).2.1) ((hP.tg ht (t9_n0 ht9)).2.2.1) (by decide) (by have q := (hP.tg ht (t9_n0 ht9)).2.2.2.2; rw [show esz _ = 5 from esz_9 ht9] at q; have : (3 : Int32).toInt = 3 := rfl; omega) (by omega)) (fun v26 M27 h28 => ?_)
                    obtain ⟨rfl, h28⟩ := h28
                    rw [h28]
                    show ml _ _ _ (100, [(0, .ref m0), (1, .int x1), (2, .int x2), (3, .int x3)], [.int (ixf f pa x1 3), .ref m0], M) _
                    refine ml_call (a := [.ref m0, .int (ixf f pa x1 3)]) (rest := []) rfl (hR.okc rfl rfl rfl) rfl rfl (rm_tag hR hF hP (by omega)) (fun v29 M30 h31 => ?_)
                    obtain ⟨rfl, h31⟩ := h31
                    rw [h31]
                    show ml _ _ _ (103, [(0, .ref m0), (1, .int x1), (2, .int x2), (3, .int x3)], [.int (tgf f cp pa (ixf f pa x1 3))], M) _
                    refine ml_st (S' := (105, [(0, .ref m0), (1, .int x1), (2, .int x2), (3, .int x3)], [.int 12, .int (tgf f cp pa (ixf f pa x1 3))], M)) rfl rfl rfl ?_
                    refine ml_if2 (S1 := (128, [], [], M)) (S2 := (108, [(0, .ref m0), (1, .int x1), (2, .int x2), (3, .int x3)], [], M)) rfl rfl rfl (fun c_105 => ?_) (fun c_105 => ?_)
                    · have c_105 : ¬ (tgf f cp pa (ixf f pa x1 3)) = 12 := of_decide_eq_true c_105
                      refine ml_st (S' := (129, [], [.int 0], M)) rfl rfl rfl ?_
                      exact ml_ret rfl (r_z (Or.inl rfl)) (⟨⟨_, rfl, Or.inl rfl, Or.inl rfl⟩, rfl⟩)
                    · have c_105 : ¬ (¬ (tgf f cp pa (ixf f pa x1 3)) = 12) := of_decide_eq_false c_105
                      refine ml_blk 3 (S' := (111, [(0, .ref m0), (1, .int x1), (2, .int x2), (3, .int x3)], [.int x1, .ref m0, .ref m0], M)) rfl ?_
                      refine ml_st (S' := (112, [(0, .ref m0), (1, .int x1), (2, .int x2), (3, .int x3)], [.int 3, .int x1, .ref m0, .ref m0], M)) rfl rfl rfl ?_
                      refine ml_call (a := [.ref m0, .int x1, .int 3]) (rest := [.ref m0]) rfl (hR.okc rfl rfl rfl) rfl rfl (rm_index hR hF hP ((hP.tg ht (t9_n0 ht9)).1) ((hP.tg ht (t9_n0 ht9)).2.1) ((hP.tg ht (t9_n0 ht9)).2.2.1) (by decide) (by have q := (hP.tg ht (t9_n0 ht9)).2.2.2.2; rw [show esz _ = 5 from esz_9 ht9] at q; have : (3 : Int32).toInt = 3 := rfl; omega) (by omega)) (fun v32 M33 h34 => ?_)
                      obtain ⟨rfl, h34⟩ := h34
                      rw [h34]
                      show ml _ _ _ (115, [(0, .ref m0), (1, .int x1), (2, .int x2), (3, .int x3)], [.int (ixf f pa x1 3), .ref m0], M) _
                      refine ml_blk 2 (S' := (118, [(0, .ref m0), (1, .int x1), (2, .int x2), (3, .int x3)], [.int 0, .int 12, .int (ixf f pa x1 3), .ref m0], M)) rfl ?_
                      refine ml_call (a := [.ref m0, .int (ixf f pa x1 3), .int 12, .int 0]) (rest := []) rfl (hR.okc rfl rfl rfl) rfl rfl (rm_indexes0 hR hF hP (Decidable.not_not.mp c_105) (Or.inr rfl) (by omega)) (fun v35 M36 h37 => ?_)
                      obtain ⟨⟨u38, rfl, z39, w40⟩, h37⟩ := h37
                      rw [h37]
                      show ml _ _ _ (121, [(0, .ref m0), (1, .int x1), (2, .int x2), (3, .int x3)], [.int u38], M) _
                      refine ml_if (S1 := (128, [], [], M)) (S2 := (124, [(0, .ref m0), (1, .int x1), (2, .int x2), (3, .int x3)], [], M)) rfl rfl rfl (fun c_121 => ?_) (fun c_121 => ?_)
                      · have c_121 : u38 = 0 := of_decide_eq_true c_121
                        refine ml_st (S' := (129, [], [.int 0], M)) rfl rfl rfl ?_
                        exact ml_ret rfl (r_z (Or.inl rfl)) (⟨⟨_, rfl, Or.inl rfl, Or.inl rfl⟩, rfl⟩)
                      · have c_121 : ¬ (u38 = 0) := of_decide_eq_false c_121
                        refine ml_st (S' := (125, [(0, .ref m0), (1, .int x1), (2, .int x2), (3, .int x3)], [.int 1], M)) rfl rfl rfl ?_
                        refine ml_st (S' := (129, [], [.int 1], M)) rfl rfl rfl ?_
                        exact ml_ret rfl (r_z (Or.inr rfl)) (⟨⟨_, rfl, Or.inr rfl, Or.inr (IXP_9 ht9 ⟨Decidable.not_not.mp c_74, (w25.resolve_left c_90).1 (Or.inl rfl), Decidable.not_not.mp c_105, (w40.resolve_left c_121).2.1 rfl⟩)⟩, rfl⟩)
          · have c_27 : ¬ (¬ x2 = 20) := of_decide_eq_false c_27
            exact J_30  (Or.inr (Or.inr (Or.inr (Or.inr (Decidable.not_not.mp c_27)))))
set_option maxHeartbeats 2000000 in
theorem rm_indexes {g : xe_G}  {m0 : Nat} {q : Nat → Nat} {z : Nat × Nat} {I : rI} {R : rR} {M : mi_H} {x1 x2 x3 : Int32} {n : Nat} {f : Nat → Int32} {S : Nat} {cp mj : Int32} {pa py : Nat → Int32}  (hR : RS g m0 q z I R M) (hF : FK n f I R) (hP : PK n f S cp mj pa py I R) (ht : tgf f cp pa x1 = x2) {d : Nat} (hd : 6 ≤ d) : mt (mT g) d 214 [.ref m0, .int x1, .int x2, .int x3] M (fun v M' => (∃ x : Int32, v = some (.int x) ∧ (x = 0 ∨ x = 1) ∧ (x = 0 ∨ IXP f cp pa x1 x2)) ∧ M' = M) := by
  obtain ⟨d, rfl⟩ : ∃ e, d = e + 1 := ⟨d - 1, by omega⟩
  refine mt_in (b := mb_214 g) rfl rfl ?_
  show ml (mT g) d (mb_214 g).2 (0, [(0, .ref m0), (1, .int x1), (2, .int x2), (3, .int x3)], [], M) _
  refine ml_blk 2 (S' := (3, [(0, .ref m0), (1, .int x1), (2, .int x2), (3, .int x3)], [.int 7, .int x2], M)) rfl ?_
  have J_30 : t7 x2 → ml (mT g) d (mb_214 g).2 (30, [(0, .ref m0), (1, .int x1)], [], M) (fun v M' => (∃ x : Int32, v = some (.int x) ∧ (x = 0 ∨ x = 1) ∧ (x = 0 ∨ IXP f cp pa x1 x2)) ∧ M' = M) := by
    intro hj_30
    refine ml_blk 3 (S' := (33, [(0, .ref m0), (1, .int x1)], [.int x1, .ref m0, .ref m0], M)) rfl ?_
    refine ml_st (S' := (34, [(0, .ref m0), (1, .int x1)], [.int 1, .int x1, .ref m0, .ref m0], M)) rfl rfl rfl ?_
    refine ml_call (a := [.ref m0, .int x1, .int 1]) (rest := [.ref m0]) rfl (hR.okc rfl rfl rfl) rfl rfl (rm_index hR hF hP ((hP.tg ht (t7_ne hj_30)).1) ((hP.tg ht (t7_ne hj_30)).2.1) ((hP.tg ht (t7_ne hj_30)).2.2.1) (by decide) (by have q := (hP.tg ht (t7_ne hj_30)).2.2.2.2; rw [show esz _ = 3 from esz_7 hj_30] at q; have : (1 : Int32).toInt = 1 := rfl; omega) (by omega)) (fun v11 M12 h13 => ?_)
    obtain ⟨rfl, h13⟩ := h13
    rw [h13]
    show ml _ _ _ (37, [(0, .ref m0), (1, .int x1)], [.int (ixf f pa x1 1), .ref m0], M) _
    refine ml_call (a := [.ref m0, .int (ixf f pa x1 1)]) (rest := []) rfl (hR.okc rfl rfl rfl) rfl rfl (rm_tag hR hF hP (by omega)) (fun v14 M15 h16 => ?_)
    obtain ⟨rfl, h16⟩ := h16
    rw [h16]
    show ml _ _ _ (40, [(0, .ref m0), (1, .int x1)], [.int (tgf f cp pa (ixf f pa x1 1))], M) _
    refine ml_st (S' := (41, [(0, .ref m0), (1, .int x1)], [.int 1, .int (tgf f cp pa (ixf f pa x1 1))], M)) rfl rfl rfl ?_
    refine ml_if2 (S1 := (48, [(0, .ref m0), (1, .int x1)], [], M)) (S2 := (44, [(0, .ref m0), (1, .int x1)], [], M)) rfl rfl rfl (fun c_41 => ?_) (fun c_41 => ?_)
    · have c_41 : ¬ (tgf f cp pa (ixf f pa x1 1)) = 1 := of_decide_eq_true c_41
      refine ml_st (S' := (49, [], [.int 0], M)) rfl rfl rfl ?_
      exact ml_ret rfl (r_z (Or.inl rfl)) (⟨⟨_, rfl, Or.inl rfl, Or.inl rfl⟩, rfl⟩)
    · have c_41 : ¬ (¬ (tgf f cp pa (ixf f pa x1 1)) = 1) := of_decide_eq_false c_41
      refine ml_st (S' := (45, [(0, .ref m0), (1, .int x1)], [.int 1], M)) rfl rfl rfl ?_
      refine ml_st (S' := (49, [], [.int 1], M)) rfl rfl rfl ?_
      exact ml_ret rfl (r_z (Or.inr rfl)) (⟨⟨_, rfl, Or.inr rfl, Or.inr (IXP_7 hj_30 (show tgf f cp pa (ixf f pa x1 1) = 1 from Decidable.not_not.mp c_41))⟩, rfl⟩)
  refine ml_if2 (S1 := (30, [(0, .ref m0), (1, .int x1)], [], M)) (S2 := (6, [(0, .ref m0), (1, .int x1), (2, .int x2), (3, .int x3)], [], M)) rfl rfl rfl (fun c_3 => ?_) (fun c_3 => ?_)
  · have c_3 : x2 = 7 := of_decide_eq_true c_3
    exact J_30  (Or.inl c_3)
  · have c_3 : ¬ (x2 = 7) := of_decide_eq_false c_3
    refine ml_blk 2 (S' := (9, [(0, .ref m0), (1, .int x1), (2, .int x2), (3, .int x3)], [.int 8, .int x2], M)) rfl ?_
    refine ml_if2 (S1 := (30, [(0, .ref m0), (1, .int x1)], [], M)) (S2 := (12, [(0, .ref m0), (1, .int x1), (2, .int x2), (3, .int x3)], [], M)) rfl rfl rfl (fun c_9 => ?_) (fun c_9 => ?_)
    · have c_9 : x2 = 8 := of_decide_eq_true c_9
      exact J_30  (Or.inr (Or.inl c_9))
    · have c_9 : ¬ (x2 = 8) := of_decide_eq_false c_9
      refine ml_blk 2 (S' := (15, [(0, .ref m0), (1, .int x1), (2, .int x2), (3, .int x3)], [.int 16, .int x2], M)) rfl ?_
      refine ml_if2 (S1 := (30, [(0, .ref m0), (1, .int x1)], [], M)) (S2 := (18, [(0, .ref m0), (1, .int x1), (2, .int x2), (3, .int x3)], [], M)) rfl rfl rfl (fun c_15 => ?_) (fun c_15 => ?_)
      · have c_15 : x2 = 16 := of_decide_eq_true c_15
        exact J_30  (Or.inr (Or.inr (Or.inl c_15)))
      · have c_15 : ¬ (x2 = 16) := of_decide_eq_false c_15
        refine ml_blk 2 (S' := (21, [(0, .ref m0), (1, .int x1), (2, .int x2), (3, .int x3)], [.int 19, .int x2], M)) rfl ?_
        refine ml_if2 (S1 := (30, [(0, .ref m0), (1, .int x1)], [], M)) (S2 := (24, [(0, .ref m0), (1, .int x1), (2, .int x2), (3, .int x3)], [], M)) rfl rfl rfl (fun c_21 => ?_) (fun c_21 => ?_)
        · have c_21 : x2 = 19 := of_decide_eq_true c_21
          exact J_30  (Or.inr (Or.inr (Or.inr (Or.inl c_21))))
        · have c_21 : ¬ (x2 = 19) := of_decide_eq_false c_21
          refine ml_blk 2 (S' := (27, [(0, .ref m0), (1, .int x1), (2, .int x2), (3, .int x3)], [.int 20, .int x2], M)) rfl ?_
          refine ml_if2 (S1 := (50, [(0, .ref m0), (1, .int x1), (2, .int x2), (3, .int x3)], [], M)) (S2 := (30, [(0, .ref m0), (1, .int x1)], [], M)) rfl rfl rfl (fun c_27 => ?_) (fun c_27 => ?_)
          · have c_27 : ¬ x2 = 20 := of_decide_eq_true c_27
            refine ml_blk 2 (S' := (53, [(0, .ref m0), (1, .int x1), (2, .int x2), (3, .int x3)], [.int 9, .int x2], M)) rfl ?_
            have J_130 : (¬ t7 x2 ∧ ¬ t9 x2) → ml (mT g) d (mb_214 g).2 (130, [(0, .ref m0), (1, .int x1), (2, .int x2)], [], M) (fun v M' => (∃ x : Int32, v = some (.int x) ∧ (x = 0 ∨ x = 1) ∧ (x = 0 ∨ IXP f cp pa x1 x2)) ∧ M' = M) := by
              intro hj_130
              refine ml_blk 2 (S' := (133, [(0, .ref m0), (1, .int x1), (2, .int x2)], [.int 12, .int x2], M)) rfl ?_
              refine ml_if2 (S1 := (170, [(0, .ref m0), (1, .int x1), (2, .int x2)], [], M)) (S2 := (136, [(0, .ref m0), (1, .int x1), (2, .int x2)], [], M)) rfl rfl rfl (fun c_133 => ?_) (fun c_133 => ?_)
              · have c_133 : ¬ x2 = 12 := of_decide_eq_true c_133
                refine ml_blk 2 (S' := (173, [(0, .ref m0), (1, .int x1), (2, .int x2)], [.int 15, .int x2], M)) rfl ?_
                refine ml_if2 (S1 := (229, [(0, .ref m0), (1, .int x1), (2, .int x2)], [], M)) (S2 := (176, [(0, .ref m0), (1, .int x1), (2, .int x2)], [], M)) rfl rfl rfl (fun c_173 => ?_) (fun c_173 => ?_)
                · have c_173 : ¬ x2 = 15 := of_decide_eq_true c_173
                  refine ml_blk 2 (S' := (232, [(0, .ref m0), (1, .int x1), (2, .int x2)], [.int 17, .int x2], M)) rfl ?_
                  have J_241 : (x2 = 17 ∨ x2 = 18) → ml (mT g) d (mb_214 g).2 (241, [(0, .ref m0), (1, .int x1)], [], M) (fun v M' => (∃ x : Int32, v = some (.int x) ∧ (x = 0 ∨ x = 1) ∧ (x = 0 ∨ IXP f cp pa x1 x2)) ∧ M' = M) := by
                    intro hj_241
                    refine ml_blk 3 (S' := (244, [(0, .ref m0), (1, .int x1)], [.int x1, .ref m0, .ref m0], M)) rfl ?_
                    refine ml_st (S' := (245, [(0, .ref m0), (1, .int x1)], [.int 3, .int x1, .ref m0, .ref m0], M)) rfl rfl rfl ?_
                    refine ml_call (a := [.ref m0, .int x1, .int 3]) (rest := [.ref m0]) rfl (hR.okc rfl rfl rfl) rfl rfl (rm_index hR hF hP ((hP.tg ht (fun e => by rcases hj_241 with h | h <;> rw [h] at e <;> exact absurd e (by decide))).1) ((hP.tg ht (fun e => by rcases hj_241 with h | h <;> rw [h] at e <;> exact absurd e (by decide))).2.1) ((hP.tg ht (fun e => by rcases hj_241 with h | h <;> rw [h] at e <;> exact absurd e (by decide))).2.2.1) (by decide) (by have q := (hP.tg ht (fun e => by rcases hj_241 with h | h <;> rw [h] at e <;> exact absurd e (by decide))).2.2.2.2; rw [show esz _ = 5 from esz_17 hj_241] at q; have : (3 : Int32).toInt = 3 := rfl; omega) (by omega)) (fun v17 M18 h19 => ?_)
                    obtain ⟨rfl, h19⟩ := h19
                    rw [h19]
                    show ml _ _ _ (248, [(0, .ref m0), (1, .int x1)], [.int (ixf f pa x1 3), .ref m0], M) _
                    refine ml_call (a := [.ref m0, .int (ixf f pa x1 3)]) (rest := []) rfl (hR.okc rfl rfl rfl) rfl rfl (rm_tag hR hF hP (by omega)) (fun v20 M21 h22 => ?_)
                    obtain ⟨rfl, h22⟩ := h22
                    rw [h22]
                    show ml _ _ _ (251, [(0, .ref m0), (1, .int x1)], [.int (tgf f cp pa (ixf f pa x1 3))], M) _
                    refine ml_st (S' := (253, [(0, .ref m0), (1, .int x1)], [.int 12, .int (tgf f cp pa (ixf f pa x1 3))], M)) rfl rfl rfl ?_
                    refine ml_if2 (S1 := (276, [], [], M)) (S2 := (256, [(0, .ref m0), (1, .int x1)], [], M)) rfl rfl rfl (fun c_253 => ?_) (fun c_253 => ?_)
                    · have c_253 : ¬ (tgf f cp pa (ixf f pa x1 3)) = 12 := of_decide_eq_true c_253
                      refine ml_st (S' := (277, [], [.int 0], M)) rfl rfl rfl ?_
                      exact ml_ret rfl (r_z (Or.inl rfl)) (⟨⟨_, rfl, Or.inl rfl, Or.inl rfl⟩, rfl⟩)
                    · have c_253 : ¬ (¬ (tgf f cp pa (ixf f pa x1 3)) = 12) := of_decide_eq_false c_253
                      refine ml_blk 3 (S' := (259, [(0, .ref m0), (1, .int x1)], [.int x1, .ref m0, .ref m0], M)) rfl ?_
                      refine ml_st (S' := (260, [(0, .ref m0), (1, .int x1)], [.int 3, .int x1, .ref m0, .ref m0], M)) rfl rfl rfl ?_
                      refine ml_call (a := [.ref m0, .int x1, .int 3]) (rest := [.ref m0]) rfl (hR.okc rfl rfl rfl) rfl rfl (rm_index hR hF hP ((hP.tg ht (fun e => by rcases hj_241 with h | h <;> rw [h] at e <;> exact absurd e (by decide))).1) ((hP.tg ht (fun e => by rcases hj_241 with h | h <;> rw [h] at e <;> exact absurd e (by decide))).2.1) ((hP.tg ht (fun e => by rcases hj_241 with h | h <;> rw [h] at e <;> exact absurd e (by decide))).2.2.1) (by decide) (by have q := (hP.tg ht (fun e => by rcases hj_241 with h | h <;> rw [h] at e <;> exact absurd e (by decide))).2.2.2.2; rw [show esz _ = 5 from esz_17 hj_241] at q; have : (3 : Int32).toInt = 3 := rfl; omega) (by omega)) (fun v23 M24 h25 => ?_)
                      obtain ⟨rfl, h25⟩ := h25
                      rw [h25]
                      show ml _ _ _ (263, [(0, .ref m0), (1, .int x1)], [.int (ixf f pa x1 3), .ref m0], M) _
                      refine ml_blk 2 (S' := (266, [(0, .ref m0), (1, .int x1)], [.int 0, .int 12, .int (ixf f pa x1 3), .ref m0], M)) rfl ?_
                      refine ml_call (a := [.ref m0, .int (ixf f pa x1 3), .int 12, .int 0]) (rest := []) rfl (hR.okc rfl rfl rfl) rfl rfl (rm_indexes0 hR hF hP (Decidable.not_not.mp c_253) (Or.inr rfl) (by omega)) (fun v26 M27 h28 => ?_)
                      obtain ⟨⟨u29, rfl, z30, w31⟩, h28⟩ := h28
                      rw [h28]
                      show ml _ _ _ (269, [(0, .ref m0), (1, .int x1)], [.int u29], M) _
                      refine ml_if (S1 := (276, [], [], M)) (S2 := (272, [(0, .ref m0), (1, .int x1)], [], M)) rfl rfl rfl (fun c_269 => ?_) (fun c_269 => ?_)
                      · have c_269 : u29 = 0 := of_decide_eq_true c_269
                        refine ml_st (S' := (277, [], [.int 0], M)) rfl rfl rfl ?_
                        exact ml_ret rfl (r_z (Or.inl rfl)) (⟨⟨_, rfl, Or.inl rfl, Or.inl rfl⟩, rfl⟩)
                      · have c_269 : ¬ (u29 = 0) := of_decide_eq_false c_269
                        refine ml_st (S' := (273, [(0, .ref m0), (1, .int x1)], [.int 1], M)) rfl rfl rfl ?_
                        refine ml_st (S' := (277, [], [.int 1], M)) rfl rfl rfl ?_
                        exact ml_ret rfl (r_z (Or.inr rfl)) (⟨⟨_, rfl, Or.inr rfl, Or.inr (IXP_17 hj_241 ⟨Decidable.not_not.mp c_253, (w31.resolve_left c_269).2.1 rfl⟩)⟩, rfl⟩)
                  refine ml_if2 (S1 := (241, [(0, .ref m0), (1, .int x1)], [], M)) (S2 := (235, [(0, .ref m0), (1, .int x1), (2, .int x2)], [], M)) rfl rfl rfl (fun c_232 => ?_) (fun c_232 => ?_)
                  · have c_232 : x2 = 17 := of_decide_eq_true c_232
                    exact J_241  (Or.inl c_232)
                  · have c_232 : ¬ (x2 = 17) := of_decide_eq_false c_232
                    refine ml_blk 2 (S' := (238, [(0, .ref m0), (1, .int x1), (2, .int x2)], [.int 18, .int x2], M)) rfl ?_
                    refine ml_if2 (S1 := (278, [(0, .ref m0), (1, .int x1), (2, .int x2)], [], M)) (S2 := (241, [(0, .ref m0), (1, .int x1)], [], M)) rfl rfl rfl (fun c_238 => ?_) (fun c_238 => ?_)
                    · have c_238 : ¬ x2 = 18 := of_decide_eq_true c_238
                      refine ml_st (S' := (279, [(0, .ref m0), (1, .int x1), (2, .int x2)], [.int 1], M)) rfl rfl rfl ?_
                      exact ml_ret rfl (r_z (Or.inr rfl)) (⟨⟨_, rfl, Or.inr rfl, Or.inr (IXP_o hj_130.1 c_133 hj_130.2 c_173 (fun h => h.elim c_232 c_238))⟩, rfl⟩)
                    · have c_238 : ¬ (¬ x2 = 18) := of_decide_eq_false c_238
                      exact J_241  (Or.inr (Decidable.not_not.mp c_238))
                · have c_173 : ¬ (¬ x2 = 15) := of_decide_eq_false c_173
                  refine ml_blk 3 (S' := (179, [(0, .ref m0), (1, .int x1), (2, .int x2)], [.int x1, .ref m0, .ref m0], M)) rfl ?_
                  refine ml_st (S' := (180, [(0, .ref m0), (1, .int x1), (2, .int x2)], [.int 2, .int x1, .ref m0, .ref m0], M)) rfl rfl rfl ?_
                  refine ml_call (a := [.ref m0, .int x1, .int 2]) (rest := [.ref m0]) rfl (hR.okc rfl rfl rfl) rfl rfl (rm_index hR hF hP ((hP.tg (ht.trans (Decidable.not_not.mp c_173)) (by decide)).1) ((hP.tg (ht.trans (Decidable.not_not.mp c_173)) (by decide)).2.1) ((hP.tg (ht.trans (Decidable.not_not.mp c_173)) (by decide)).2.2.1) (by decide) (by have q := (hP.tg (ht.trans (Decidable.not_not.mp c_173)) (by decide)).2.2.2.2; rw [show esz _ = 4 from rfl] at q; have : (2 : Int32).toInt = 2 := rfl; omega) (by omega)) (fun v32 M33 h34 => ?_)
                  obtain ⟨rfl, h34⟩ := h34
                  rw [h34]
                  show ml _ _ _ (183, [(0, .ref m0), (1, .int x1), (2, .int x2)], [.int (ixf f pa x1 2), .ref m0], M) _
                  refine ml_call (a := [.ref m0, .int (ixf f pa x1 2)]) (rest := []) rfl (hR.okc rfl rfl rfl) rfl rfl (rm_tag hR hF hP (by omega)) (fun v35 M36 h37 => ?_)
                  obtain ⟨rfl, h37⟩ := h37
                  rw [h37]
                  show ml _ _ _ (186, [(0, .ref m0), (1, .int x1), (2, .int x2)], [.int (tgf f cp pa (ixf f pa x1 2))], M) _
                  refine ml_st (S' := (188, [(4, .int (tgf f cp pa (ixf f pa x1 2))), (0, .ref m0), (1, .int x1), (2, .int x2)], [], M)) rfl rfl rfl ?_
                  refine ml_st (S' := (190, [(4, .int (tgf f cp pa (ixf f pa x1 2))), (0, .ref m0), (1, .int x1), (2, .int x2)], [.int (tgf f cp pa (ixf f pa x1 2))], M)) rfl rfl rfl ?_
                  refine ml_if (S1 := (227, [], [], M)) (S2 := (193, [(4, .int (tgf f cp pa (ixf f pa x1 2))), (0, .ref m0), (1, .int x1), (2, .int x2)], [], M)) rfl rfl rfl (fun c_190 => ?_) (fun c_190 => ?_)
                  · have c_190 : (tgf f cp pa (ixf f pa x1 2)) = 0 := of_decide_eq_true c_190
                    refine ml_st (S' := (228, [], [.int 0], M)) rfl rfl rfl ?_
                    exact ml_ret rfl (r_z (Or.inl rfl)) (⟨⟨_, rfl, Or.inl rfl, Or.inl rfl⟩, rfl⟩)
                  · have c_190 : ¬ ((tgf f cp pa (ixf f pa x1 2)) = 0) := of_decide_eq_false c_190
                    refine ml_blk 2 (S' := (197, [(4, .int (tgf f cp pa (ixf f pa x1 2))), (0, .ref m0), (1, .int x1), (2, .int x2)], [.int 9, .int (tgf f cp pa (ixf f pa x1 2))], M)) rfl ?_
                    refine ml_if2 (S1 := (223, [], [], M)) (S2 := (200, [(4, .int (tgf f cp pa (ixf f pa x1 2))), (0, .ref m0), (1, .int x1), (2, .int x2)], [], M)) rfl rfl rfl (fun c_197 => ?_) (fun c_197 => ?_)
                    · have c_197 : (tgf f cp pa (ixf f pa x1 2)) < 9 := of_decide_eq_true c_197
                      refine ml_st (S' := (224, [], [.int 1], M)) rfl rfl rfl ?_
                      refine ml_st (S' := (228, [], [.int 1], M)) rfl rfl rfl ?_
                      exact ml_ret rfl (r_z (Or.inr rfl)) (⟨⟨_, rfl, Or.inr rfl, Or.inr (IXP_15 (Decidable.not_not.mp c_173) (fun h => absurd h (fun q => by have := i_lt c_197; have q1 := q.1; have : (9 : Int32).toInt = 9 := rfl; omega)))⟩, rfl⟩)
                    · have c_197 : ¬ ((tgf f cp pa (ixf f pa x1 2)) < 9) := of_decide_eq_false c_197
                      refine ml_blk 2 (S' := (204, [(4, .int (tgf f cp pa (ixf f pa x1 2))), (0, .ref m0), (1, .int x1), (2, .int x2)], [.int 11, .int (tgf f cp pa (ixf f pa x1 2))], M)) rfl ?_
                      refine ml_if2 (S1 := (223, [], [], M)) (S2 := (207, [(4, .int (tgf f cp pa (ixf f pa x1 2))), (0, .ref m0), (1, .int x1), (2, .int x2)], [], M)) rfl rfl rfl (fun c_204 => ?_) (fun c_204 => ?_)
                      · have c_204 : 11 < (tgf f cp pa (ixf f pa x1 2)) := of_decide_eq_true c_204
                        refine ml_st (S' := (224, [], [.int 1], M)) rfl rfl rfl ?_
                        refine ml_st (S' := (228, [], [.int 1], M)) rfl rfl rfl ?_
                        exact ml_ret rfl (r_z (Or.inr rfl)) (⟨⟨_, rfl, Or.inr rfl, Or.inr (IXP_15 (Decidable.not_not.mp c_173) (fun h => absurd h (fun q => by have := i_lt c_204; have q1 := q.2; have : (11 : Int32).toInt = 11 := rfl; omega)))⟩, rfl⟩)
                      · have c_204 : ¬ (11 < (tgf f cp pa (ixf f pa x1 2))) := of_decide_eq_false c_204
                        refine ml_blk 3 (S' := (210, [(4, .int (tgf f cp pa (ixf f pa x1 2))), (0, .ref m0), (1, .int x1), (2, .int x2)], [.int x1, .ref m0, .ref m0], M)) rfl ?_
                        refine ml_st (S' := (211, [(4, .int (tgf f cp pa (ixf f pa x1 2))), (0, .ref m0), (1, .int x1), (2, .int x2)], [.int 2, .int x1, .ref m0, .ref m0], M)) rfl rfl rfl ?_
                        refine ml_call (a := [.ref m0, .int x1, .int 2]) (rest := [.ref m0]) rfl (hR.okc rfl rfl rfl) rfl rfl (rm_index hR hF hP ((hP.tg (ht.trans (Decidable.not_not.mp c_173)) (by decide)).1) ((hP.tg (ht.trans (Decidable.not_not.mp c_173)) (by decide)).2.1) ((hP.tg (ht.trans (Decidable.not_not.mp c_173)) (by decide)).2.2.1) (by decide) (by have q := (hP.tg (ht.trans (Decidable.not_not.mp c_173)) (by decide)).2.2.2.2; rw [show esz _ = 4 from rfl] at q; have : (2 : Int32).toInt = 2 := rfl; omega) (by omega)) (fun v38 M39 h40 => ?_)
                        obtain ⟨rfl, h40⟩ := h40
                        rw [h40]
                        show ml _ _ _ (214, [(4, .int (tgf f cp pa (ixf f pa x1 2))), (0, .ref m0), (1, .int x1), (2, .int x2)], [.int (ixf f pa x1 2), .ref m0], M) _
                        refine ml_blk 2 (S' := (217, [(4, .int (tgf f cp pa (ixf f pa x1 2))), (0, .ref m0), (1, .int x1), (2, .int x2)], [.int 0, .int (tgf f cp pa (ixf f pa x1 2)), .int (ixf f pa x1 2), .ref m0], M)) rfl ?_
                        refine ml_call (a := [.ref m0, .int (ixf f pa x1 2), .int (tgf f cp pa (ixf f pa x1 2)), .int 0]) (rest := []) rfl (hR.okc rfl rfl rfl) rfl rfl (rm_indexes1 hR hF hP (rfl) (⟨by have q := i_nlt c_197; have : (9 : Int32).toInt = 9 := rfl; omega, by have q := i_nlt c_204; have : (11 : Int32).toInt = 11 := rfl; omega⟩) (by omega)) (fun v41 M42 h43 => ?_)
                        obtain ⟨⟨u44, rfl, z45, w46⟩, h43⟩ := h43
                        rw [h43]
                        show ml _ _ _ (220, [(4, .int (tgf f cp pa (ixf f pa x1 2))), (0, .ref m0), (1, .int x1), (2, .int x2)], [.int u44], M) _
                        refine ml_if (S1 := (227, [], [], M)) (S2 := (223, [], [], M)) rfl rfl rfl (fun c_220 => ?_) (fun c_220 => ?_)
                        · have c_220 : u44 = 0 := of_decide_eq_true c_220
                          refine ml_st (S' := (228, [], [.int 0], M)) rfl rfl rfl ?_
                          exact ml_ret rfl (r_z (Or.inl rfl)) (⟨⟨_, rfl, Or.inl rfl, Or.inl rfl⟩, rfl⟩)
                        · have c_220 : ¬ (u44 = 0) := of_decide_eq_false c_220
                          refine ml_st (S' := (224, [], [.int 1], M)) rfl rfl rfl ?_
                          refine ml_st (S' := (228, [], [.int 1], M)) rfl rfl rfl ?_
                          exact ml_ret rfl (r_z (Or.inr rfl)) (⟨⟨_, rfl, Or.inr rfl, Or.inr (IXP_15 (Decidable.not_not.mp c_173) (fun h => (w46.resolve_left c_220).2.2.1 h))⟩, rfl⟩)
              · have c_133 : ¬ (¬ x2 = 12) := of_decide_eq_false c_133
                refine ml_blk 3 (S' := (139, [(0, .ref m0), (1, .int x1), (2, .int x2)], [.int x1, .ref m0, .ref m0], M)) rfl ?_
                refine ml_st (S' := (140, [(0, .ref m0), (1, .int x1), (2, .int x2)], [.int 1, .int x1, .ref m0, .ref m0], M)) rfl rfl rfl ?_
                refine ml_call (a := [.ref m0, .int x1, .int 1]) (rest := [.ref m0]) rfl (hR.okc rfl rfl rfl) rfl rfl (rm_index hR hF hP ((hP.tg (ht.trans (Decidable.not_not.mp c_133)) (by decide)).1) ((hP.tg (ht.trans (Decidable.not_not.mp c_133)) (by decide)).2.1) ((hP.tg (ht.trans (Decidable.not_not.mp c_133)) (by decide)).2.2.1) (by decide) (by have q := (hP.tg (ht.trans (Decidable.not_not.mp c_133)) (by decide)).2.2.2.2; rw [show esz _ = 5 from rfl] at q; have : (1 : Int32).toInt = 1 := rfl; omega) (by omega)) (fun v47 M48 h49 => ?_)
                obtain ⟨rfl, h49⟩ := h49
                rw [h49]
                show ml _ _ _ (143, [(0, .ref m0), (1, .int x1), (2, .int x2)], [.int (ixf f pa x1 1), .ref m0], M) _
                refine ml_call (a := [.ref m0, .int (ixf f pa x1 1)]) (rest := []) rfl (hR.okc rfl rfl rfl) rfl rfl (rm_tag hR hF hP (by omega)) (fun v50 M51 h52 => ?_)
                obtain ⟨rfl, h52⟩ := h52
                rw [h52]
                show ml _ _ _ (146, [(0, .ref m0), (1, .int x1), (2, .int x2)], [.int (tgf f cp pa (ixf f pa x1 1))], M) _
                refine ml_st (S' := (147, [(0, .ref m0), (1, .int x1), (2, .int x2)], [.int 1, .int (tgf f cp pa (ixf f pa x1 1))], M)) rfl rfl rfl ?_
                refine ml_if2 (S1 := (168, [], [], M)) (S2 := (150, [(0, .ref m0), (1, .int x1), (2, .int x2)], [], M)) rfl rfl rfl (fun c_147 => ?_) (fun c_147 => ?_)
                · have c_147 : ¬ (tgf f cp pa (ixf f pa x1 1)) = 1 := of_decide_eq_true c_147
                  refine ml_st (S' := (169, [], [.int 0], M)) rfl rfl rfl ?_
                  exact ml_ret rfl (r_z (Or.inl rfl)) (⟨⟨_, rfl, Or.inl rfl, Or.inl rfl⟩, rfl⟩)
                · have c_147 : ¬ (¬ (tgf f cp pa (ixf f pa x1 1)) = 1) := of_decide_eq_false c_147
                  refine ml_blk 3 (S' := (153, [(0, .ref m0), (1, .int x1), (2, .int x2)], [.int x1, .ref m0, .ref m0], M)) rfl ?_
                  refine ml_st (S' := (154, [(0, .ref m0), (1, .int x1), (2, .int x2)], [.int 3, .int x1, .ref m0, .ref m0], M)) rfl rfl rfl ?_
                  refine ml_call (a := [.ref m0, .int x1, .int 3]) (rest := [.ref m0]) rfl (hR.okc rfl rfl rfl) rfl rfl (rm_index hR hF hP ((hP.tg (ht.trans (Decidable.not_not.mp c_133)) (by decide)).1) ((hP.tg (ht.trans (Decidable.not_not.mp c_133)) (by decide)).2.1) ((hP.tg (ht.trans (Decidable.not_not.mp c_133)) (by decide)).2.2.1) (by decide) (by have q := (hP.tg (ht.trans (Decidable.not_not.mp c_133)) (by decide)).2.2.2.2; rw [show esz _ = 5 from rfl] at q; have : (3 : Int32).toInt = 3 := rfl; omega) (by omega)) (fun v53 M54 h55 => ?_)
                  obtain ⟨rfl, h55⟩ := h55
                  rw [h55]
                  show ml _ _ _ (157, [(0, .ref m0), (1, .int x1), (2, .int x2)], [.int (ixf f pa x1 3), .ref m0], M) _
                  refine ml_call (a := [.ref m0, .int (ixf f pa x1 3)]) (rest := []) rfl (hR.okc rfl rfl rfl) rfl rfl (rm_tag hR hF hP (by omega)) (fun v56 M57 h58 => ?_)
                  obtain ⟨rfl, h58⟩ := h58
                  rw [h58]
                  show ml _ _ _ (160, [(0, .ref m0), (1, .int x1), (2, .int x2)], [.int (tgf f cp pa (ixf f pa x1 3))], M) _
                  refine ml_st (S' := (161, [(0, .ref m0), (1, .int x1), (2, .int x2)], [.int 1, .int (tgf f cp pa (ixf f pa x1 3))], M)) rfl rfl rfl ?_
                  refine ml_if2 (S1 := (168, [], [], M)) (S2 := (164, [(0, .ref m0), (1, .int x1), (2, .int x2)], [], M)) rfl rfl rfl (fun c_161 => ?_) (fun c_161 => ?_)
                  · have c_161 : ¬ (tgf f cp pa (ixf f pa x1 3)) = 1 := of_decide_eq_true c_161
                    refine ml_st (S' := (169, [], [.int 0], M)) rfl rfl rfl ?_
                    exact ml_ret rfl (r_z (Or.inl rfl)) (⟨⟨_, rfl, Or.inl rfl, Or.inl rfl⟩, rfl⟩)
                  · have c_161 : ¬ (¬ (tgf f cp pa (ixf f pa x1 3)) = 1) := of_decide_eq_false c_161
                    refine ml_st (S' := (165, [(0, .ref m0), (1, .int x1), (2, .int x2)], [.int 1], M)) rfl rfl rfl ?_
                    refine ml_st (S' := (169, [], [.int 1], M)) rfl rfl rfl ?_
                    exact ml_ret rfl (r_z (Or.inr rfl)) (⟨⟨_, rfl, Or.inr rfl, Or.inr (IXP_12 (Decidable.not_not.mp c_133) ⟨Decidable.not_not.mp c_147, Decidable.not_not.mp c_161⟩)⟩, rfl⟩)
            refine ml_if2 (S1 := (130, [(0, .ref m0), (1, .int x1), (2, .int x2)], [], M)) (S2 := (56, [(0, .ref m0), (1, .int x1), (2, .int x2), (3, .int x3)], [], M)) rfl rfl rfl (fun c_53 => ?_) (fun c_53 => ?_)
            · have c_53 : x2 < 9 := of_decide_eq_true c_53
              exact J_130  (⟨(fun h => by rcases h with h | h | h | h | h; exact c_3 h; exact c_9 h; exact c_15 h; exact c_21 h; exact c_27 h), fun q => by have := i_lt c_53; have q1 := q.1; have : (9 : Int32).toInt = 9 := rfl; omega⟩)
            · have c_53 : ¬ (x2 < 9) := of_decide_eq_false c_53
              refine ml_blk 2 (S' := (59, [(0, .ref m0), (1, .int x1), (2, .int x2), (3, .int x3)], [.int 11, .int x2], M)) rfl ?_
              refine ml_if2 (S1 := (130, [(0, .ref m0), (1, .int x1), (2, .int x2)], [], M)) (S2 := (62, [(0, .ref m0), (1, .int x1), (2, .int x2), (3, .int x3)], [], M)) rfl rfl rfl (fun c_59 => ?_) (fun c_59 => ?_)
              · have c_59 : 11 < x2 := of_decide_eq_true c_59
                exact J_130  (⟨(fun h => by rcases h with h | h | h | h | h; exact c_3 h; exact c_9 h; exact c_15 h; exact c_21 h; exact c_27 h), fun q => by have := i_lt c_59; have q1 := q.2; have : (11 : Int32).toInt = 11 := rfl; omega⟩)
              · have c_59 : ¬ (11 < x2) := of_decide_eq_false c_59
                have ht9 : t9 x2 := ⟨by have q := i_nlt c_53; have : (9 : Int32).toInt = 9 := rfl; omega, by have q := i_nlt c_59; have : (11 : Int32).toInt = 11 := rfl; omega⟩
                refine ml_blk 3 (S' := (65, [(0, .ref m0), (1, .int x1), (2, .int x2), (3, .int x3)], [.int x1, .ref m0, .ref m0], M)) rfl ?_
                refine ml_st (S' := (66, [(0, .ref m0), (1, .int x1), (2, .int x2), (3, .int x3)], [.int 1, .int x1, .ref m0, .ref m0], M)) rfl rfl rfl ?_
                refine ml_call (a := [.ref m0, .int x1, .int 1]) (rest := [.ref m0]) rfl (hR.okc rfl rfl rfl) rfl rfl (rm_index hR hF hP ((hP.tg ht (t9_n0 ht9)).1) ((hP.tg ht (t9_n0 ht9)).2.1) ((hP.tg ht (t9_n0 ht9)).2.2.1) (by decide) (by have q := (hP.tg ht (t9_n0 ht9)).2.2.2.2; rw [show esz _ = 5 from esz_9 ht9] at q; have : (1 : Int32).toInt = 1 := rfl; omega) (by omega)) (fun v59 M60 h61 => ?_)
                obtain ⟨rfl, h61⟩ := h61
                rw [h61]
                show ml _ _ _ (69, [(0, .ref m0), (1, .int x1), (2, .int x2), (3, .int x3)], [.int (ixf f pa x1 1), .ref m0], M) _
                refine ml_call (a := [.ref m0, .int (ixf f pa x1 1)]) (rest := []) rfl (hR.okc rfl rfl rfl) rfl rfl (rm_tag hR hF hP (by omega)) (fun v62 M63 h64 => ?_)
                obtain ⟨rfl, h64⟩ := h64
                rw [h64]
                show ml _ _ _ (72, [(0, .ref m0), (1, .int x1), (2, .int x2), (3, .int x3)], [.int (tgf f cp pa (ixf f pa x1 1))], M) _
                refine ml_st (S' := (74, [(0, .ref m0), (1, .int x1), (2, .int x2), (3, .int x3)], [.int 7, .int (tgf f cp pa (ixf f pa x1 1))], M)) rfl rfl rfl ?_
                refine ml_if2 (S1 := (128, [], [], M)) (S2 := (77, [(0, .ref m0), (1, .int x1), (2, .int x2), (3, .int x3)], [], M)) rfl rfl rfl (fun c_74 => ?_) (fun c_74 => ?_)
                · have c_74 : ¬ (tgf f cp pa (ixf f pa x1 1)) = 7 := of_decide_eq_true c_74
                  refine ml_st (S' := (129, [], [.int 0], M)) rfl rfl rfl ?_
                  exact ml_ret rfl (r_z (Or.inl rfl)) (⟨⟨_, rfl, Or.inl rfl, Or.inl rfl⟩, rfl⟩)
                · have c_74 : ¬ (¬ (tgf f cp pa (ixf f pa x1 1)) = 7) := of_decide_eq_false c_74
                  refine ml_blk 3 (S' := (80, [(0, .ref m0), (1, .int x1), (2, .int x2), (3, .int x3)], [.int x1, .ref m0, .ref m0], M)) rfl ?_
                  refine ml_st (S' := (81, [(0, .ref m0), (1, .int x1), (2, .int x2), (3, .int x3)], [.int 1, .int x1, .ref m0, .ref m0], M)) rfl rfl rfl ?_
                  refine ml_call (a := [.ref m0, .int x1, .int 1]) (rest := [.ref m0]) rfl (hR.okc rfl rfl rfl) rfl rfl (rm_index hR hF hP ((hP.tg ht (t9_n0 ht9)).1) ((hP.tg ht (t9_n0 ht9)).2.1) ((hP.tg ht (t9_n0 ht9)).2.2.1) (by decide) (by have q := (hP.tg ht (t9_n0 ht9)).2.2.2.2; rw [show esz _ = 5 from esz_9 ht9] at q; have : (1 : Int32).toInt = 1 := rfl; omega) (by omega)) (fun v65 M66 h67 => ?_)
                  obtain ⟨rfl, h67⟩ := h67
                  rw [h67]
                  show ml _ _ _ (84, [(0, .ref m0), (1, .int x1), (2, .int x2), (3, .int x3)], [.int (ixf f pa x1 1), .ref m0], M) _
                  refine ml_blk 2 (S' := (87, [(0, .ref m0), (1, .int x1), (2, .int x2), (3, .int x3)], [.int 0, .int 7, .int (ixf f pa x1 1), .ref m0], M)) rfl ?_
                  refine ml_call (a := [.ref m0, .int (ixf f pa x1 1), .int 7, .int 0]) (rest := []) rfl (hR.okc rfl rfl rfl) rfl rfl (rm_indexes0 hR hF hP (Decidable.not_not.mp c_74) (Or.inl rfl) (by omega)) (fun v68 M69 h70 => ?_)
                  obtain ⟨⟨u71, rfl, z72, w73⟩, h70⟩ := h70
                  rw [h70]
                  show ml _ _ _ (90, [(0, .ref m0), (1, .int x1), (2, .int x2), (3, .int x3)], [.int u71], M) _
                  refine ml_if (S1 := (128, [], [], M)) (S2 := (93, [(0, .ref m0), (1, .int x1), (2, .int x2), (3, .int x3)], [], M)) rfl rfl rfl (fun c_90 => ?_) (fun c_90 => ?_)
                  · have c_90 : u71 = 0 := of_decide_eq_true c_90
                    refine ml_st (S' := (129, [], [.int 0], M)) rfl rfl rfl ?_
                    exact ml_ret rfl (r_z (Or.inl rfl)) (⟨⟨_, rfl, Or.inl rfl, Or.inl rfl⟩, rfl⟩)
                  · have c_90 : ¬ (u71 = 0) := of_decide_eq_false c_90
                    refine ml_blk 3 (S' := (96, [(0, .ref m0), (1, .int x1), (2, .int x2), (3, .int x3)], [.int x1, .ref m0, .ref m0], M)) rfl ?_
                    refine ml_st (S' := (97, [(0, .ref m0), (1, .int x1), (2, .int x2), (3, .int x3)], [.int 3, .int x1, .ref m0, .ref m0], M)) rfl rfl rfl ?_
                    refine ml_call (a := [.ref m0, .int x1, .int 3]) (rest := [.ref m0]) rfl (hR.okc rfl rfl rfl) rfl rfl (rm_index hR hF hP ((hP.tg ht (t9_n0 ht9)).1) ((hP.tg ht (t9_n0 ht9)).2.1) ((hP.tg ht (t9_n0 ht9)).2.2.1) (by decide) (by have q := (hP.tg ht (t9_n0 ht9)).2.2.2.2; rw [show esz _ = 5 from esz_9 ht9] at q; have : (3 : Int32).toInt = 3 := rfl; omega) (by omega)) (fun v74 M75 h76 => ?_)
                    obtain ⟨rfl, h76⟩ := h76
                    rw [h76]
                    show ml _ _ _ (100, [(0, .ref m0), (1, .int x1), (2, .int x2), (3, .int x3)], [.int (ixf f pa x1 3), .ref m0], M) _
                    refine ml_call (a := [.ref m0, .int (ixf f pa x1 3)]) (rest := []) rfl (hR.okc rfl rfl rfl) rfl rfl (rm_tag hR hF hP (by omega)) (fun v77 M78 h79 => ?_)
                    obtain ⟨rfl, h79⟩ := h79
                    rw [h79]
                    show ml _ _ _ (103, [(0, .ref m0), (1, .int x1), (2, .int x2), (3, .int x3)], [.int (tgf f cp pa (ixf f pa x1 3))], M) _
                    refine ml_st (S' := (105, [(0, .ref m0), (1, .int x1), (2, .int x2), (3, .int x3)], [.int 12, .int (tgf f cp pa (ixf f pa x1 3))], M)) rfl rfl rfl ?_
                    refine ml_if2 (S1 := (128, [], [], M)) (S2 := (108, [(0, .ref m0), (1, .int x1), (2, .int x2), (3, .int x3)], [], M)) rfl rfl rfl (fun c_105 => ?_) (fun c_105 => ?_)
                    · have c_105 : ¬ (tgf f cp pa (ixf f pa x1 3)) = 12 := of_decide_eq_true c_105
                      refine ml_st (S' := (129, [], [.int 0], M)) rfl rfl rfl ?_
                      exact ml_ret rfl (r_z (Or.inl rfl)) (⟨⟨_, rfl, Or.inl rfl, Or.inl rfl⟩, rfl⟩)
                    · have c_105 : ¬ (¬ (tgf f cp pa (ixf f pa x1 3)) = 12) := of_decide_eq_false c_105
                      refine ml_blk 3 (S' := (111, [(0, .ref m0), (1, .int x1), (2, .int x2), (3, .int x3)], [.int x1, .ref m0, .ref m0], M)) rfl ?_
                      refine ml_st (S' := (112, [(0, .ref m0), (1, .int x1), (2, .int x2), (3, .int x3)], [.int 3, .int x1, .ref m0, .ref m0], M)) rfl rfl rfl ?_
                      refine ml_call (a := [.ref m0, .int x1, .int 3]) (rest := [.ref m0]) rfl (hR.okc rfl rfl rfl) rfl rfl (rm_index hR hF hP ((hP.tg ht (t9_n0 ht9)).1) ((hP.tg ht (t9_n0 ht9)).2.1) ((hP.tg ht (t9_n0 ht9)).2.2.1) (by decide) (by have q := (hP.tg ht (t9_n0 ht9)).2.2.2.2; rw [show esz _ = 5 from esz_9 ht9] at q; have : (3 : Int32).toInt = 3 := rfl; omega) (by omega)) (fun v80 M81 h82 => ?_)
                      obtain ⟨rfl, h82⟩ := h82
                      rw [h82]
                      show ml _ _ _ (115, [(0, .ref m0), (1, .int x1), (2, .int x2), (3, .int x3)], [.int (ixf f pa x1 3), .ref m0], M) _
                      refine ml_blk 2 (S' := (118, [(0, .ref m0), (1, .int x1), (2, .int x2), (3, .int x3)], [.int 0, .int 12, .int (ixf f pa x1 3), .ref m0], M)) rfl ?_
                      refine ml_call (a := [.ref m0, .int (ixf f pa x1 3), .int 12, .int 0]) (rest := []) rfl (hR.okc rfl rfl rfl) rfl rfl (rm_indexes0 hR hF hP (Decidable.not_not.mp c_105) (Or.inr rfl) (by omega)) (fun v83 M84 h85 => ?_)
                      obtain ⟨⟨u86, rfl, z87, w88⟩, h85⟩ := h85
                      rw [h85]
                      show ml _ _ _ (121, [(0, .ref m0), (1, .int x1), (2, .int x2), (3, .int x3)], [.int u86], M) _
                      refine ml_if (S1 := (128, [], [], M)) (S2 := (124, [(0, .ref m0), (1, .int x1), (2, .int x2), (3, .int x3)], [], M)) rfl rfl rfl (fun c_121 => ?_) (fun c_121 => ?_)
                      · have c_121 : u86 = 0 := of_decide_eq_true c_121
                        refine ml_st (S' := (129, [], [.int 0], M)) rfl rfl rfl ?_
                        exact ml_ret rfl (r_z (Or.inl rfl)) (⟨⟨_, rfl, Or.inl rfl, Or.inl rfl⟩, rfl⟩)
                      · have c_121 : ¬ (u86 = 0) := of_decide_eq_false c_121
                        refine ml_st (S' := (125, [(0, .ref m0), (1, .int x1), (2, .int x2), (3, .int x3)], [.int 1], M)) rfl rfl rfl ?_
                        refine ml_st (S' := (129, [], [.int 1], M)) rfl rfl rfl ?_
                        exact ml_ret rfl (r_z (Or.inr rfl)) (⟨⟨_, rfl, Or.inr rfl, Or.inr (IXP_9 ht9 ⟨Decidable.not_not.mp c_74, (w73.resolve_left c_90).1 (Or.inl rfl), Decidable.not_not.mp c_105, (w88.resolve_left c_121).2.1 rfl⟩)⟩, rfl⟩)
          · have c_27 : ¬ (¬ x2 = 20) := of_decide_eq_false c_27
            exact J_30  (Or.inr (Or.inr (Or.inr (Or.inr (Decidable.not_not.mp c_27)))))
