/-! the reference: the pool is checked (laid by wip/p2/c67.py) -/
set_option maxHeartbeats 2000000 in
theorem rm_plainClass {g : xe_G}  {m0 : Nat} {q : Nat → Nat} {z : Nat × Nat} {I : rI} {R : rR} {M : mi_H} {x1 : Int32} {n : Nat} {f : Nat → Int32} {S cN : Nat} {sa sl ch : Nat → Int32} {cp mj : Int32} {pa py : Nat → Int32}  (hR : RS g m0 q z I R M) (hF : FK n f I R) (hY : SK S cN sa sl ch I R) (hP : PK n f S cp mj pa py I R) (hE : EK f cp pa py sa sl ch) {d : Nat} (hd : 5 ≤ d) : mt (mT g) d 235 [.ref m0, .int x1] M (fun v M' => (∃ x : Int32, v = some (.int x) ∧ (x = 0 ∨ x = 1) ∧ (x = 0 ∨ tgf f cp pa x1 = 7)) ∧ M' = M) := by
  obtain ⟨d, rfl⟩ : ∃ e, d = e + 1 := ⟨d - 1, by omega⟩
  refine mt_in (b := mb_235 g) rfl rfl ?_
  show ml (mT g) d (mb_235 g).2 (0, [(0, .ref m0), (1, .int x1)], [], M) _
  refine ml_blk 2 (S' := (2, [(0, .ref m0), (1, .int x1)], [.int x1, .ref m0], M)) rfl ?_
  refine ml_call (a := [.ref m0, .int x1]) (rest := []) rfl (hR.okc rfl rfl rfl) rfl rfl (rm_tag hR hF hP (by omega)) (fun v11 M12 h13 => ?_)
  obtain ⟨rfl, h13⟩ := h13
  rw [h13]
  show ml _ _ _ (5, [(0, .ref m0), (1, .int x1)], [.int (tgf f cp pa x1)], M) _
  refine ml_st (S' := (7, [(0, .ref m0), (1, .int x1)], [.int 7, .int (tgf f cp pa x1)], M)) rfl rfl rfl ?_
  refine ml_if2 (S1 := (29, [], [], M)) (S2 := (10, [(0, .ref m0), (1, .int x1)], [], M)) rfl rfl rfl (fun c_7 => ?_) (fun c_7 => ?_)
  · have c_7 : ¬ (tgf f cp pa x1) = 7 := of_decide_eq_true c_7
    refine ml_st (S' := (30, [], [.int 0], M)) rfl rfl rfl ?_
    exact ml_ret rfl (r_z (Or.inl rfl)) (⟨⟨_, rfl, Or.inl rfl, Or.inl rfl⟩, rfl⟩)
  · have c_7 : ¬ (¬ (tgf f cp pa x1) = 7) := of_decide_eq_false c_7
    have h7 : tgf f cp pa x1 = 7 := Decidable.not_not.mp c_7
    have he := hE x1 (by rw [h7]; decide)
    have hi7 : ix7 f cp pa x1 := he.1.1 (by rw [h7]; exact Or.inl rfl)
    have hy := hP.y hi7
    refine ml_blk 3 (S' := (13, [(0, .ref m0), (1, .int x1)], [.int x1, .ref m0, .ref m0], M)) rfl ?_
    refine ml_call (a := [.ref m0, .int x1]) (rest := [.ref m0]) rfl (hR.okc rfl rfl rfl) rfl rfl (rm_className hR hF hP (h7) (hi7) (by omega)) (fun v14 M15 h16 => ?_)
    obtain ⟨rfl, h16⟩ := h16
    rw [h16]
    show ml _ _ _ (16, [(0, .ref m0), (1, .int x1)], [.int (pyf py (ixf f pa x1 1)), .ref m0], M) _
    refine ml_st (S' := (17, [(0, .ref m0), (1, .int x1)], [.int 0, .int (pyf py (ixf f pa x1 1)), .ref m0], M)) rfl rfl rfl ?_
    refine ml_call (a := [.ref m0, .int (pyf py (ixf f pa x1 1)), .int 0]) (rest := []) rfl (hR.okc rfl rfl rfl) rfl rfl (rm_at hR hY (hy.2.2.1) (hy.2.2.2) (by decide) (by have q := he.2.1 h7; have : (0 : Int32).toInt = 0 := rfl; omega) (by omega)) (fun v17 M18 h19 => ?_)
    obtain ⟨rfl, h19⟩ := h19
    rw [h19]
    show ml _ _ _ (20, [(0, .ref m0), (1, .int x1)], [.int (tx sa ch (pyf py (ixf f pa x1 1)) 0)], M) _
    refine ml_st (S' := (22, [(0, .ref m0), (1, .int x1)], [.int 91, .int (tx sa ch (pyf py (ixf f pa x1 1)) 0)], M)) rfl rfl rfl ?_
    refine ml_if2 (S1 := (29, [], [], M)) (S2 := (25, [(0, .ref m0), (1, .int x1)], [], M)) rfl rfl rfl (fun c_22 => ?_) (fun c_22 => ?_)
    · have c_22 : (tx sa ch (pyf py (ixf f pa x1 1)) 0) = 91 := of_decide_eq_true c_22
      refine ml_st (S' := (30, [], [.int 0], M)) rfl rfl rfl ?_
      exact ml_ret rfl (r_z (Or.inl rfl)) (⟨⟨_, rfl, Or.inl rfl, Or.inl rfl⟩, rfl⟩)
    · have c_22 : ¬ ((tx sa ch (pyf py (ixf f pa x1 1)) 0) = 91) := of_decide_eq_false c_22
      refine ml_st (S' := (26, [(0, .ref m0), (1, .int x1)], [.int 1], M)) rfl rfl rfl ?_
      refine ml_st (S' := (30, [], [.int 1], M)) rfl rfl rfl ?_
      exact ml_ret rfl (r_z (Or.inr rfl)) (⟨⟨_, rfl, Or.inr rfl, Or.inr h7⟩, rfl⟩)
set_option maxHeartbeats 2000000 in
theorem rm_handleEntry {g : xe_G}  {m0 : Nat} {q : Nat → Nat} {z : Nat × Nat} {I : rI} {R : rR} {M : mi_H} {x1 si : Int32} {n : Nat} {f : Nat → Int32} {S cN : Nat} {sa sl ch : Nat → Int32} {cp mj : Int32} {pa py : Nat → Int32}  (hR : RS g m0 q z I R M) (hk9 : I 9 = some si) (hF : FK n f I R) (hY : SK S cN sa sl ch I R) (hP : PK n f S cp mj pa py I R) (ht : tgf f cp pa x1 = 15) (hix : IXP f cp pa x1 15) {d : Nat} (hd : 4 ≤ d) : mt (mT g) d 212 [.ref m0, .int x1] M (fun v M' => (∃ x : Int32, v = some (.int x) ∧ (x = 0 ∨ x = 1)) ∧ M' = M) := by
  obtain ⟨d, rfl⟩ : ∃ e, d = e + 1 := ⟨d - 1, by omega⟩
  refine mt_in (b := mb_212 g) rfl rfl ?_
  show ml (mT g) d (mb_212 g).2 (0, [(0, .ref m0), (1, .int x1)], [], M) _
  have hn := hF.1
  have h15 := hP.tg ht (by decide)
  have q15 : (pa (Int32.toNatClampNeg x1)).toInt + 4 ≤ n := h15.2.2.2.2
  have ea : (pa (Int32.toNatClampNeg x1) + 1).toInt = (pa (Int32.toNatClampNeg x1)).toInt + 1 := i_add (by have : (1 : Int32).toInt = 1 := rfl; have := h15.2.2.1; omega) (by have : (1 : Int32).toInt = 1 := rfl; omega)
  refine ml_blk 2 (S' := (2, [(0, .ref m0), (1, .int x1)], [.ref m0, .ref m0], M)) rfl ?_
  refine rg_ref (S' := (5, [(0, .ref m0), (1, .int x1)], [.ref (q 21), .ref m0], M)) rfl hR rfl rfl ?_
  refine ml_st (S' := (6, [(0, .ref m0), (1, .int x1)], [.ref m0, .ref (q 21), .ref m0], M)) rfl rfl rfl ?_
  refine rg_int (S' := (9, [(0, .ref m0), (1, .int x1)], [.int 0, .ref (q 21), .ref m0], M)) rfl hR rfl (hP.1) rfl ?_
  refine ml_blk 2 (S' := (11, [(0, .ref m0), (1, .int x1)], [.int (0 + x1), .ref (q 21), .ref m0], M)) rfl ?_
  refine ra_ld (k := 21) (S' := (12, [(0, .ref m0), (1, .int x1)], [.int (pa (Int32.toNatClampNeg x1)), .ref m0], M)) rfl hR rfl ((hP.e h15.1 h15.2.1).2.1) ((hP.e h15.1 h15.2.1).1) rfl ?_
  refine ml_blk 2 (S' := (14, [(0, .ref m0), (1, .int x1)], [.int ((pa (Int32.toNatClampNeg x1)) + 1), .ref m0], M)) rfl ?_
  refine ml_call (a := [.ref m0, .int ((pa (Int32.toNatClampNeg x1)) + 1)]) (rest := []) rfl (hR.okc rfl rfl rfl) rfl rfl (rm_u1 hR hF (by have := h15.2.2.1; omega) (by omega) (by omega)) (fun v11 M12 h13 => ?_)
  obtain ⟨rfl, h13⟩ := h13
  rw [h13]
  show ml _ _ _ (17, [(0, .ref m0), (1, .int x1)], [.int (f1 f ((pa (Int32.toNatClampNeg x1)) + 1))], M) _
  refine ml_st (S' := (18, [(2, .int (f1 f ((pa (Int32.toNatClampNeg x1)) + 1))), (0, .ref m0), (1, .int x1)], [], M)) rfl rfl rfl ?_
  refine ml_blk 3 (S' := (21, [(2, .int (f1 f ((pa (Int32.toNatClampNeg x1)) + 1))), (0, .ref m0), (1, .int x1)], [.int 2, .int x1, .ref m0], M)) rfl ?_
  refine ml_call (a := [.ref m0, .int x1, .int 2]) (rest := []) rfl (hR.okc rfl rfl rfl) rfl rfl (rm_index hR hF hP (h15.1) (h15.2.1) (h15.2.2.1) (by decide) (by have : (2 : Int32).toInt = 2 := rfl; omega) (by omega)) (fun v14 M15 h16 => ?_)
  obtain ⟨rfl, h16⟩ := h16
  rw [h16]
  show ml _ _ _ (24, [(2, .int (f1 f ((pa (Int32.toNatClampNeg x1)) + 1))), (0, .ref m0), (1, .int x1)], [.int (ixf f pa x1 2)], M) _
  refine ml_st (S' := (25, [(3, .int (ixf f pa x1 2)), (2, .int (f1 f ((pa (Int32.toNatClampNeg x1)) + 1))), (0, .ref m0), (1, .int x1)], [], M)) rfl rfl rfl ?_
  refine ml_blk 2 (S' := (27, [(3, .int (ixf f pa x1 2)), (2, .int (f1 f ((pa (Int32.toNatClampNeg x1)) + 1))), (0, .ref m0), (1, .int x1)], [.int (ixf f pa x1 2), .ref m0], M)) rfl ?_
  refine ml_call (a := [.ref m0, .int (ixf f pa x1 2)]) (rest := []) rfl (hR.okc rfl rfl rfl) rfl rfl (rm_tag hR hF hP (by omega)) (fun v17 M18 h19 => ?_)
  obtain ⟨rfl, h19⟩ := h19
  rw [h19]
  show ml _ _ _ (30, [(3, .int (ixf f pa x1 2)), (2, .int (f1 f ((pa (Int32.toNatClampNeg x1)) + 1))), (0, .ref m0), (1, .int x1)], [.int (tgf f cp pa (ixf f pa x1 2))], M) _
  refine ml_st (S' := (32, [(4, .int (tgf f cp pa (ixf f pa x1 2))), (3, .int (ixf f pa x1 2)), (2, .int (f1 f ((pa (Int32.toNatClampNeg x1)) + 1))), (0, .ref m0), (1, .int x1)], [], M)) rfl rfl rfl ?_
  refine ml_blk 2 (S' := (34, [(4, .int (tgf f cp pa (ixf f pa x1 2))), (3, .int (ixf f pa x1 2)), (2, .int (f1 f ((pa (Int32.toNatClampNeg x1)) + 1))), (0, .ref m0), (1, .int x1)], [.int 1, .int (f1 f ((pa (Int32.toNatClampNeg x1)) + 1))], M)) rfl ?_
  refine ml_if2 (S1 := (43, [], [], M)) (S2 := (37, [(4, .int (tgf f cp pa (ixf f pa x1 2))), (3, .int (ixf f pa x1 2)), (2, .int (f1 f ((pa (Int32.toNatClampNeg x1)) + 1))), (0, .ref m0), (1, .int x1)], [], M)) rfl rfl rfl (fun c_34 => ?_) (fun c_34 => ?_)
  · have c_34 : (f1 f ((pa (Int32.toNatClampNeg x1)) + 1)) < 1 := of_decide_eq_true c_34
    refine ml_st (S' := (44, [], [.int 0], M)) rfl rfl rfl ?_
    exact ml_ret rfl (r_z (Or.inl rfl)) (⟨⟨_, rfl, Or.inl rfl⟩, rfl⟩)
  · have c_34 : ¬ ((f1 f ((pa (Int32.toNatClampNeg x1)) + 1)) < 1) := of_decide_eq_false c_34
    refine ml_blk 2 (S' := (40, [(4, .int (tgf f cp pa (ixf f pa x1 2))), (3, .int (ixf f pa x1 2)), (2, .int (f1 f ((pa (Int32.toNatClampNeg x1)) + 1))), (0, .ref m0), (1, .int x1)], [.int 9, .int (f1 f ((pa (Int32.toNatClampNeg x1)) + 1))], M)) rfl ?_
    refine ml_if2 (S1 := (45, [(4, .int (tgf f cp pa (ixf f pa x1 2))), (3, .int (ixf f pa x1 2)), (2, .int (f1 f ((pa (Int32.toNatClampNeg x1)) + 1))), (0, .ref m0), (1, .int x1)], [], M)) (S2 := (43, [], [], M)) rfl rfl rfl (fun c_40 => ?_) (fun c_40 => ?_)
    · have c_40 : (f1 f ((pa (Int32.toNatClampNeg x1)) + 1)) ≤ 9 := of_decide_eq_true c_40
      refine ml_blk 2 (S' := (47, [(4, .int (tgf f cp pa (ixf f pa x1 2))), (3, .int (ixf f pa x1 2)), (2, .int (f1 f ((pa (Int32.toNatClampNeg x1)) + 1))), (0, .ref m0), (1, .int x1)], [.int 4, .int (f1 f ((pa (Int32.toNatClampNeg x1)) + 1))], M)) rfl ?_
      refine ml_if2 (S1 := (63, [(4, .int (tgf f cp pa (ixf f pa x1 2))), (3, .int (ixf f pa x1 2)), (2, .int (f1 f ((pa (Int32.toNatClampNeg x1)) + 1))), (0, .ref m0), (1, .int x1)], [], M)) (S2 := (50, [(4, .int (tgf f cp pa (ixf f pa x1 2))), (3, .int (ixf f pa x1 2)), (2, .int (f1 f ((pa (Int32.toNatClampNeg x1)) + 1))), (0, .ref m0), (1, .int x1)], [], M)) rfl rfl rfl (fun c_47 => ?_) (fun c_47 => ?_)
      · have c_47 : 4 < (f1 f ((pa (Int32.toNatClampNeg x1)) + 1)) := of_decide_eq_true c_47
        refine ml_blk 2 (S' := (65, [(4, .int (tgf f cp pa (ixf f pa x1 2))), (3, .int (ixf f pa x1 2)), (2, .int (f1 f ((pa (Int32.toNatClampNeg x1)) + 1))), (0, .ref m0), (1, .int x1)], [.int 5, .int (f1 f ((pa (Int32.toNatClampNeg x1)) + 1))], M)) rfl ?_
        have J_125 : (tgf f cp pa (ixf f pa x1 2) = 10 ∨ tgf f cp pa (ixf f pa x1 2) = 11) → ml (mT g) d (mb_212 g).2 (125, [(0, .ref m0), (2, .int (f1 f ((pa (Int32.toNatClampNeg x1)) + 1))), (3, .int (ixf f pa x1 2))], [], M) (fun v M' => (∃ x : Int32, v = some (.int x) ∧ (x = 0 ∨ x = 1)) ∧ M' = M) := by
          intro hj_125
          have hr9 : t9 (tgf f cp pa (ixf f pa x1 2)) := t9_of (Or.inr hj_125)
          have hi9 := hix.2.2.2.1 rfl hr9
          refine ml_blk 3 (S' := (128, [(0, .ref m0), (2, .int (f1 f ((pa (Int32.toNatClampNeg x1)) + 1))), (3, .int (ixf f pa x1 2))], [.ref m0, .ref m0, .ref m0], M)) rfl ?_
          refine ml_blk 2 (S' := (130, [(0, .ref m0), (2, .int (f1 f ((pa (Int32.toNatClampNeg x1)) + 1))), (3, .int (ixf f pa x1 2))], [.int 3, .int (ixf f pa x1 2), .ref m0, .ref m0, .ref m0], M)) rfl ?_
          refine ml_call (a := [.ref m0, .int (ixf f pa x1 2), .int 3]) (rest := [.ref m0, .ref m0]) rfl (hR.okc rfl rfl rfl) rfl rfl (rm_index hR hF hP ((hP.tg rfl (t9_n0 hr9)).1) ((hP.tg rfl (t9_n0 hr9)).2.1) ((hP.tg rfl (t9_n0 hr9)).2.2.1) (by decide) (by have q := (hP.tg rfl (t9_n0 hr9)).2.2.2.2; rw [show esz _ = 5 from esz_9 hr9] at q; have : (3 : Int32).toInt = 3 := rfl; omega) (by omega)) (fun v20 M21 h22 => ?_)
          obtain ⟨rfl, h22⟩ := h22
          rw [h22]
          show ml _ _ _ (133, [(0, .ref m0), (2, .int (f1 f ((pa (Int32.toNatClampNeg x1)) + 1))), (3, .int (ixf f pa x1 2))], [.int (ixf f pa (ixf f pa x1 2) 3), .ref m0, .ref m0], M) _
          refine ml_st (S' := (134, [(0, .ref m0), (2, .int (f1 f ((pa (Int32.toNatClampNeg x1)) + 1))), (3, .int (ixf f pa x1 2))], [.int 1, .int (ixf f pa (ixf f pa x1 2) 3), .ref m0, .ref m0], M)) rfl rfl rfl ?_
          refine ml_call (a := [.ref m0, .int (ixf f pa (ixf f pa x1 2) 3), .int 1]) (rest := [.ref m0]) rfl (hR.okc rfl rfl rfl) rfl rfl (rm_index hR hF hP ((hP.tg hi9.2.2.1 (by decide)).1) ((hP.tg hi9.2.2.1 (by decide)).2.1) ((hP.tg hi9.2.2.1 (by decide)).2.2.1) (by decide) (by have q := (hP.tg hi9.2.2.1 (by decide)).2.2.2.2; rw [show esz _ = 5 from rfl] at q; have : (1 : Int32).toInt = 1 := rfl; omega) (by omega)) (fun v23 M24 h25 => ?_)
          obtain ⟨rfl, h25⟩ := h25
          rw [h25]
          show ml _ _ _ (137, [(0, .ref m0), (2, .int (f1 f ((pa (Int32.toNatClampNeg x1)) + 1))), (3, .int (ixf f pa x1 2))], [.int (ixf f pa (ixf f pa (ixf f pa x1 2) 3) 1), .ref m0], M) _
          refine ml_call (a := [.ref m0, .int (ixf f pa (ixf f pa (ixf f pa x1 2) 3) 1)]) (rest := []) rfl (hR.okc rfl rfl rfl) rfl rfl (rm_symOf hR hP (hi9.2.2.2.1) (by omega)) (fun v26 M27 h28 => ?_)
          obtain ⟨rfl, h28⟩ := h28
          rw [h28]
          show ml _ _ _ (140, [(0, .ref m0), (2, .int (f1 f ((pa (Int32.toNatClampNeg x1)) + 1))), (3, .int (ixf f pa x1 2))], [.int (pyf py (ixf f pa (ixf f pa (ixf f pa x1 2) 3) 1))], M) _
          refine ml_st (S' := (142, [(5, .int (pyf py (ixf f pa (ixf f pa (ixf f pa x1 2) 3) 1))), (0, .ref m0), (2, .int (f1 f ((pa (Int32.toNatClampNeg x1)) + 1))), (3, .int (ixf f pa x1 2))], [], M)) rfl rfl rfl ?_
          refine ml_blk 2 (S' := (145, [(5, .int (pyf py (ixf f pa (ixf f pa (ixf f pa x1 2) 3) 1))), (0, .ref m0), (2, .int (f1 f ((pa (Int32.toNatClampNeg x1)) + 1))), (3, .int (ixf f pa x1 2))], [.int 8, .int (f1 f ((pa (Int32.toNatClampNeg x1)) + 1))], M)) rfl ?_
          refine ml_if2 (S1 := (152, [(5, .int (pyf py (ixf f pa (ixf f pa (ixf f pa x1 2) 3) 1))), (0, .ref m0), (2, .int (f1 f ((pa (Int32.toNatClampNeg x1)) + 1))), (3, .int (ixf f pa x1 2))], [], M)) (S2 := (148, [(5, .int (pyf py (ixf f pa (ixf f pa (ixf f pa x1 2) 3) 1))), (0, .ref m0), (2, .int (f1 f ((pa (Int32.toNatClampNeg x1)) + 1))), (3, .int (ixf f pa x1 2))], [], M)) rfl rfl rfl (fun c_145 => ?_) (fun c_145 => ?_)
          · have c_145 : ¬ (f1 f ((pa (Int32.toNatClampNeg x1)) + 1)) = 8 := of_decide_eq_true c_145
            refine ml_st (S' := (153, [(0, .ref m0), (5, .int (pyf py (ixf f pa (ixf f pa (ixf f pa x1 2) 3) 1)))], [.int 0], M)) rfl rfl rfl ?_
            refine ml_blk 2 (S' := (156, [(0, .ref m0), (5, .int (pyf py (ixf f pa (ixf f pa (ixf f pa x1 2) 3) 1)))], [.ref m0, .int (pyf py (ixf f pa (ixf f pa (ixf f pa x1 2) 3) 1)), .int 0], M)) rfl ?_
            refine rg_int (S' := (159, [(0, .ref m0), (5, .int (pyf py (ixf f pa (ixf f pa (ixf f pa x1 2) 3) 1)))], [.int si, .int (pyf py (ixf f pa (ixf f pa (ixf f pa x1 2) 3) 1)), .int 0], M)) rfl hR rfl (hk9) rfl ?_
            refine ml_if2 (S1 := (166, [(0, .ref m0), (5, .int (pyf py (ixf f pa (ixf f pa (ixf f pa x1 2) 3) 1)))], [.int 0], M)) (S2 := (162, [(0, .ref m0), (5, .int (pyf py (ixf f pa (ixf f pa (ixf f pa x1 2) 3) 1)))], [.int 0], M)) rfl rfl rfl (fun c_159 => ?_) (fun c_159 => ?_)
            · have c_159 : ¬ (pyf py (ixf f pa (ixf f pa (ixf f pa x1 2) 3) 1)) = si := of_decide_eq_true c_159
              refine ml_st (S' := (167, [], [.int 0, .int 0], M)) rfl rfl rfl ?_
              refine ml_if2 (S1 := (174, [], [], M)) (S2 := (170, [], [], M)) rfl rfl rfl (fun c_167 => ?_) (fun c_167 => ?_)
              · have c_167 : ¬ 0 = 0 := of_decide_eq_true c_167
                refine ml_st (S' := (175, [], [.int 0], M)) rfl rfl rfl ?_
                exact ml_ret rfl (r_z (Or.inl rfl)) (⟨⟨_, rfl, Or.inl rfl⟩, rfl⟩)
              · have c_167 : ¬ (¬ 0 = 0) := of_decide_eq_false c_167
                refine ml_st (S' := (171, [], [.int 1], M)) rfl rfl rfl ?_
                refine ml_st (S' := (175, [], [.int 1], M)) rfl rfl rfl ?_
                exact ml_ret rfl (r_z (Or.inr rfl)) (⟨⟨_, rfl, Or.inr rfl⟩, rfl⟩)
            · have c_159 : ¬ (¬ (pyf py (ixf f pa (ixf f pa (ixf f pa x1 2) 3) 1)) = si) := of_decide_eq_false c_159
              refine ml_st (S' := (163, [(0, .ref m0), (5, .int (pyf py (ixf f pa (ixf f pa (ixf f pa x1 2) 3) 1)))], [.int 1, .int 0], M)) rfl rfl rfl ?_
              refine ml_st (S' := (167, [], [.int 1, .int 0], M)) rfl rfl rfl ?_
              refine ml_if2 (S1 := (174, [], [], M)) (S2 := (170, [], [], M)) rfl rfl rfl (fun c_167 => ?_) (fun c_167 => ?_)
              · have c_167 : ¬ 0 = 1 := of_decide_eq_true c_167
                refine ml_st (S' := (175, [], [.int 0], M)) rfl rfl rfl ?_
                exact ml_ret rfl (r_z (Or.inl rfl)) (⟨⟨_, rfl, Or.inl rfl⟩, rfl⟩)
              · have c_167 : ¬ (¬ 0 = 1) := of_decide_eq_false c_167
                refine ml_st (S' := (171, [], [.int 1], M)) rfl rfl rfl ?_
                refine ml_st (S' := (175, [], [.int 1], M)) rfl rfl rfl ?_
                exact ml_ret rfl (r_z (Or.inr rfl)) (⟨⟨_, rfl, Or.inr rfl⟩, rfl⟩)
          · have c_145 : ¬ (¬ (f1 f ((pa (Int32.toNatClampNeg x1)) + 1)) = 8) := of_decide_eq_false c_145
            refine ml_st (S' := (149, [(5, .int (pyf py (ixf f pa (ixf f pa (ixf f pa x1 2) 3) 1))), (0, .ref m0), (2, .int (f1 f ((pa (Int32.toNatClampNeg x1)) + 1))), (3, .int (ixf f pa x1 2))], [.int 1], M)) rfl rfl rfl ?_
            refine ml_st (S' := (153, [(0, .ref m0), (5, .int (pyf py (ixf f pa (ixf f pa (ixf f pa x1 2) 3) 1)))], [.int 1], M)) rfl rfl rfl ?_
            refine ml_blk 2 (S' := (156, [(0, .ref m0), (5, .int (pyf py (ixf f pa (ixf f pa (ixf f pa x1 2) 3) 1)))], [.ref m0, .int (pyf py (ixf f pa (ixf f pa (ixf f pa x1 2) 3) 1)), .int 1], M)) rfl ?_
            refine rg_int (S' := (159, [(0, .ref m0), (5, .int (pyf py (ixf f pa (ixf f pa (ixf f pa x1 2) 3) 1)))], [.int si, .int (pyf py (ixf f pa (ixf f pa (ixf f pa x1 2) 3) 1)), .int 1], M)) rfl hR rfl (hk9) rfl ?_
            refine ml_if2 (S1 := (166, [(0, .ref m0), (5, .int (pyf py (ixf f pa (ixf f pa (ixf f pa x1 2) 3) 1)))], [.int 1], M)) (S2 := (162, [(0, .ref m0), (5, .int (pyf py (ixf f pa (ixf f pa (ixf f pa x1 2) 3) 1)))], [.int 1], M)) rfl rfl rfl (fun c_159 => ?_) (fun c_159 => ?_)
            · have c_159 : ¬ (pyf py (ixf f pa (ixf f pa (ixf f pa x1 2) 3) 1)) = si := of_decide_eq_true c_159
              refine ml_st (S' := (167, [], [.int 0, .int 1], M)) rfl rfl rfl ?_
              refine ml_if2 (S1 := (174, [], [], M)) (S2 := (170, [], [], M)) rfl rfl rfl (fun c_167 => ?_) (fun c_167 => ?_)
              · have c_167 : ¬ 1 = 0 := of_decide_eq_true c_167
                refine ml_st (S' := (175, [], [.int 0], M)) rfl rfl rfl ?_
                exact ml_ret rfl (r_z (Or.inl rfl)) (⟨⟨_, rfl, Or.inl rfl⟩, rfl⟩)
              · have c_167 : ¬ (¬ 1 = 0) := of_decide_eq_false c_167
                refine ml_st (S' := (171, [], [.int 1], M)) rfl rfl rfl ?_
                refine ml_st (S' := (175, [], [.int 1], M)) rfl rfl rfl ?_
                exact ml_ret rfl (r_z (Or.inr rfl)) (⟨⟨_, rfl, Or.inr rfl⟩, rfl⟩)
            · have c_159 : ¬ (¬ (pyf py (ixf f pa (ixf f pa (ixf f pa x1 2) 3) 1)) = si) := of_decide_eq_false c_159
              refine ml_st (S' := (163, [(0, .ref m0), (5, .int (pyf py (ixf f pa (ixf f pa (ixf f pa x1 2) 3) 1)))], [.int 1, .int 1], M)) rfl rfl rfl ?_
              refine ml_st (S' := (167, [], [.int 1, .int 1], M)) rfl rfl rfl ?_
              refine ml_if2 (S1 := (174, [], [], M)) (S2 := (170, [], [], M)) rfl rfl rfl (fun c_167 => ?_) (fun c_167 => ?_)
              · have c_167 : ¬ 1 = 1 := of_decide_eq_true c_167
                refine ml_st (S' := (175, [], [.int 0], M)) rfl rfl rfl ?_
                exact ml_ret rfl (r_z (Or.inl rfl)) (⟨⟨_, rfl, Or.inl rfl⟩, rfl⟩)
              · have c_167 : ¬ (¬ 1 = 1) := of_decide_eq_false c_167
                refine ml_st (S' := (171, [], [.int 1], M)) rfl rfl rfl ?_
                refine ml_st (S' := (175, [], [.int 1], M)) rfl rfl rfl ?_
                exact ml_ret rfl (r_z (Or.inr rfl)) (⟨⟨_, rfl, Or.inr rfl⟩, rfl⟩)
        refine ml_if2 (S1 := (74, [(0, .ref m0), (2, .int (f1 f ((pa (Int32.toNatClampNeg x1)) + 1))), (3, .int (ixf f pa x1 2)), (4, .int (tgf f cp pa (ixf f pa x1 2)))], [], M)) (S2 := (68, [(4, .int (tgf f cp pa (ixf f pa x1 2))), (3, .int (ixf f pa x1 2)), (2, .int (f1 f ((pa (Int32.toNatClampNeg x1)) + 1))), (0, .ref m0), (1, .int x1)], [], M)) rfl rfl rfl (fun c_65 => ?_) (fun c_65 => ?_)
        · have c_65 : (f1 f ((pa (Int32.toNatClampNeg x1)) + 1)) = 5 := of_decide_eq_true c_65
          refine ml_blk 2 (S' := (78, [(0, .ref m0), (2, .int (f1 f ((pa (Int32.toNatClampNeg x1)) + 1))), (3, .int (ixf f pa x1 2)), (4, .int (tgf f cp pa (ixf f pa x1 2)))], [.int 10, .int (tgf f cp pa (ixf f pa x1 2))], M)) rfl ?_
          refine ml_if2 (S1 := (123, [], [], M)) (S2 := (81, [(0, .ref m0), (2, .int (f1 f ((pa (Int32.toNatClampNeg x1)) + 1))), (3, .int (ixf f pa x1 2)), (4, .int (tgf f cp pa (ixf f pa x1 2)))], [], M)) rfl rfl rfl (fun c_78 => ?_) (fun c_78 => ?_)
          · have c_78 : ¬ (tgf f cp pa (ixf f pa x1 2)) = 10 := of_decide_eq_true c_78
            refine ml_st (S' := (124, [], [.int 0], M)) rfl rfl rfl ?_
            exact ml_ret rfl (r_z (Or.inl rfl)) (⟨⟨_, rfl, Or.inl rfl⟩, rfl⟩)
          · have c_78 : ¬ (¬ (tgf f cp pa (ixf f pa x1 2)) = 10) := of_decide_eq_false c_78
            refine ml_st (S' := (125, [(0, .ref m0), (2, .int (f1 f ((pa (Int32.toNatClampNeg x1)) + 1))), (3, .int (ixf f pa x1 2))], [], M)) rfl rfl rfl ?_
            exact J_125  (Or.inl (Decidable.not_not.mp c_78))
        · have c_65 : ¬ ((f1 f ((pa (Int32.toNatClampNeg x1)) + 1)) = 5) := of_decide_eq_false c_65
          refine ml_blk 2 (S' := (71, [(4, .int (tgf f cp pa (ixf f pa x1 2))), (3, .int (ixf f pa x1 2)), (2, .int (f1 f ((pa (Int32.toNatClampNeg x1)) + 1))), (0, .ref m0), (1, .int x1)], [.int 8, .int (f1 f ((pa (Int32.toNatClampNeg x1)) + 1))], M)) rfl ?_
          refine ml_if2 (S1 := (84, [(4, .int (tgf f cp pa (ixf f pa x1 2))), (3, .int (ixf f pa x1 2)), (2, .int (f1 f ((pa (Int32.toNatClampNeg x1)) + 1))), (0, .ref m0), (1, .int x1)], [], M)) (S2 := (74, [(0, .ref m0), (2, .int (f1 f ((pa (Int32.toNatClampNeg x1)) + 1))), (3, .int (ixf f pa x1 2)), (4, .int (tgf f cp pa (ixf f pa x1 2)))], [], M)) rfl rfl rfl (fun c_71 => ?_) (fun c_71 => ?_)
          · have c_71 : ¬ (f1 f ((pa (Int32.toNatClampNeg x1)) + 1)) = 8 := of_decide_eq_true c_71
            refine ml_blk 2 (S' := (87, [(4, .int (tgf f cp pa (ixf f pa x1 2))), (3, .int (ixf f pa x1 2)), (2, .int (f1 f ((pa (Int32.toNatClampNeg x1)) + 1))), (0, .ref m0), (1, .int x1)], [.int 9, .int (f1 f ((pa (Int32.toNatClampNeg x1)) + 1))], M)) rfl ?_
            refine ml_if2 (S1 := (100, [(4, .int (tgf f cp pa (ixf f pa x1 2))), (3, .int (ixf f pa x1 2)), (2, .int (f1 f ((pa (Int32.toNatClampNeg x1)) + 1))), (0, .ref m0), (1, .int x1)], [], M)) (S2 := (90, [(4, .int (tgf f cp pa (ixf f pa x1 2))), (3, .int (ixf f pa x1 2)), (2, .int (f1 f ((pa (Int32.toNatClampNeg x1)) + 1))), (0, .ref m0), (1, .int x1)], [], M)) rfl rfl rfl (fun c_87 => ?_) (fun c_87 => ?_)
            · have c_87 : ¬ (f1 f ((pa (Int32.toNatClampNeg x1)) + 1)) = 9 := of_decide_eq_true c_87
              refine ml_blk 2 (S' := (104, [(4, .int (tgf f cp pa (ixf f pa x1 2))), (3, .int (ixf f pa x1 2)), (2, .int (f1 f ((pa (Int32.toNatClampNeg x1)) + 1))), (0, .ref m0), (1, .int x1)], [.int 10, .int (tgf f cp pa (ixf f pa x1 2))], M)) rfl ?_
              refine ml_if2 (S1 := (125, [(0, .ref m0), (2, .int (f1 f ((pa (Int32.toNatClampNeg x1)) + 1))), (3, .int (ixf f pa x1 2))], [], M)) (S2 := (107, [(4, .int (tgf f cp pa (ixf f pa x1 2))), (3, .int (ixf f pa x1 2)), (2, .int (f1 f ((pa (Int32.toNatClampNeg x1)) + 1))), (0, .ref m0), (1, .int x1)], [], M)) rfl rfl rfl (fun c_104 => ?_) (fun c_104 => ?_)
              · have c_104 : (tgf f cp pa (ixf f pa x1 2)) = 10 := of_decide_eq_true c_104
                exact J_125  (Or.inl c_104)
              · have c_104 : ¬ ((tgf f cp pa (ixf f pa x1 2)) = 10) := of_decide_eq_false c_104
                refine ml_blk 2 (S' := (111, [(4, .int (tgf f cp pa (ixf f pa x1 2))), (3, .int (ixf f pa x1 2)), (2, .int (f1 f ((pa (Int32.toNatClampNeg x1)) + 1))), (0, .ref m0), (1, .int x1)], [.int 11, .int (tgf f cp pa (ixf f pa x1 2))], M)) rfl ?_
                refine ml_if2 (S1 := (123, [], [], M)) (S2 := (114, [(4, .int (tgf f cp pa (ixf f pa x1 2))), (3, .int (ixf f pa x1 2)), (2, .int (f1 f ((pa (Int32.toNatClampNeg x1)) + 1))), (0, .ref m0), (1, .int x1)], [], M)) rfl rfl rfl (fun c_111 => ?_) (fun c_111 => ?_)
                · have c_111 : ¬ (tgf f cp pa (ixf f pa x1 2)) = 11 := of_decide_eq_true c_111
                  refine ml_st (S' := (124, [], [.int 0], M)) rfl rfl rfl ?_
                  exact ml_ret rfl (r_z (Or.inl rfl)) (⟨⟨_, rfl, Or.inl rfl⟩, rfl⟩)
                · have c_111 : ¬ (¬ (tgf f cp pa (ixf f pa x1 2)) = 11) := of_decide_eq_false c_111
                  refine ml_st (S' := (115, [(4, .int (tgf f cp pa (ixf f pa x1 2))), (3, .int (ixf f pa x1 2)), (2, .int (f1 f ((pa (Int32.toNatClampNeg x1)) + 1))), (0, .ref m0), (1, .int x1)], [.ref m0], M)) rfl rfl rfl ?_
                  refine rg_int (S' := (118, [(4, .int (tgf f cp pa (ixf f pa x1 2))), (3, .int (ixf f pa x1 2)), (2, .int (f1 f ((pa (Int32.toNatClampNeg x1)) + 1))), (0, .ref m0), (1, .int x1)], [.int mj], M)) rfl hR rfl (hP.2.2.1) rfl ?_
                  refine ml_st (S' := (120, [(4, .int (tgf f cp pa (ixf f pa x1 2))), (3, .int (ixf f pa x1 2)), (2, .int (f1 f ((pa (Int32.toNatClampNeg x1)) + 1))), (0, .ref m0), (1, .int x1)], [.int 52, .int mj], M)) rfl rfl rfl ?_
                  refine ml_if2 (S1 := (125, [(0, .ref m0), (2, .int (f1 f ((pa (Int32.toNatClampNeg x1)) + 1))), (3, .int (ixf f pa x1 2))], [], M)) (S2 := (123, [], [], M)) rfl rfl rfl (fun c_120 => ?_) (fun c_120 => ?_)
                  · have c_120 : 52 ≤ mj := of_decide_eq_true c_120
                    exact J_125  (Or.inr (Decidable.not_not.mp c_111))
                  · have c_120 : ¬ (52 ≤ mj) := of_decide_eq_false c_120
                    refine ml_st (S' := (124, [], [.int 0], M)) rfl rfl rfl ?_
                    exact ml_ret rfl (r_z (Or.inl rfl)) (⟨⟨_, rfl, Or.inl rfl⟩, rfl⟩)
            · have c_87 : ¬ (¬ (f1 f ((pa (Int32.toNatClampNeg x1)) + 1)) = 9) := of_decide_eq_false c_87
              refine ml_blk 2 (S' := (94, [(4, .int (tgf f cp pa (ixf f pa x1 2))), (3, .int (ixf f pa x1 2)), (2, .int (f1 f ((pa (Int32.toNatClampNeg x1)) + 1))), (0, .ref m0), (1, .int x1)], [.int 11, .int (tgf f cp pa (ixf f pa x1 2))], M)) rfl ?_
              refine ml_if2 (S1 := (123, [], [], M)) (S2 := (97, [(4, .int (tgf f cp pa (ixf f pa x1 2))), (3, .int (ixf f pa x1 2)), (2, .int (f1 f ((pa (Int32.toNatClampNeg x1)) + 1))), (0, .ref m0), (1, .int x1)], [], M)) rfl rfl rfl (fun c_94 => ?_) (fun c_94 => ?_)
              · have c_94 : ¬ (tgf f cp pa (ixf f pa x1 2)) = 11 := of_decide_eq_true c_94
                refine ml_st (S' := (124, [], [.int 0], M)) rfl rfl rfl ?_
                exact ml_ret rfl (r_z (Or.inl rfl)) (⟨⟨_, rfl, Or.inl rfl⟩, rfl⟩)
              · have c_94 : ¬ (¬ (tgf f cp pa (ixf f pa x1 2)) = 11) := of_decide_eq_false c_94
                refine ml_st (S' := (125, [(0, .ref m0), (2, .int (f1 f ((pa (Int32.toNatClampNeg x1)) + 1))), (3, .int (ixf f pa x1 2))], [], M)) rfl rfl rfl ?_
                exact J_125  (Or.inr (Decidable.not_not.mp c_94))
          · have c_71 : ¬ (¬ (f1 f ((pa (Int32.toNatClampNeg x1)) + 1)) = 8) := of_decide_eq_false c_71
            refine ml_blk 2 (S' := (78, [(0, .ref m0), (2, .int (f1 f ((pa (Int32.toNatClampNeg x1)) + 1))), (3, .int (ixf f pa x1 2)), (4, .int (tgf f cp pa (ixf f pa x1 2)))], [.int 10, .int (tgf f cp pa (ixf f pa x1 2))], M)) rfl ?_
            refine ml_if2 (S1 := (123, [], [], M)) (S2 := (81, [(0, .ref m0), (2, .int (f1 f ((pa (Int32.toNatClampNeg x1)) + 1))), (3, .int (ixf f pa x1 2)), (4, .int (tgf f cp pa (ixf f pa x1 2)))], [], M)) rfl rfl rfl (fun c_78 => ?_) (fun c_78 => ?_)
            · have c_78 : ¬ (tgf f cp pa (ixf f pa x1 2)) = 10 := of_decide_eq_true c_78
              refine ml_st (S' := (124, [], [.int 0], M)) rfl rfl rfl ?_
              exact ml_ret rfl (r_z (Or.inl rfl)) (⟨⟨_, rfl, Or.inl rfl⟩, rfl⟩)
            · have c_78 : ¬ (¬ (tgf f cp pa (ixf f pa x1 2)) = 10) := of_decide_eq_false c_78
              refine ml_st (S' := (125, [(0, .ref m0), (2, .int (f1 f ((pa (Int32.toNatClampNeg x1)) + 1))), (3, .int (ixf f pa x1 2))], [], M)) rfl rfl rfl ?_
              exact J_125  (Or.inl (Decidable.not_not.mp c_78))
      · have c_47 : ¬ (4 < (f1 f ((pa (Int32.toNatClampNeg x1)) + 1))) := of_decide_eq_false c_47
        refine ml_blk 2 (S' := (54, [(4, .int (tgf f cp pa (ixf f pa x1 2))), (3, .int (ixf f pa x1 2)), (2, .int (f1 f ((pa (Int32.toNatClampNeg x1)) + 1))), (0, .ref m0), (1, .int x1)], [.int 9, .int (tgf f cp pa (ixf f pa x1 2))], M)) rfl ?_
        refine ml_if2 (S1 := (61, [(4, .int (tgf f cp pa (ixf f pa x1 2))), (3, .int (ixf f pa x1 2)), (2, .int (f1 f ((pa (Int32.toNatClampNeg x1)) + 1))), (0, .ref m0), (1, .int x1)], [], M)) (S2 := (57, [(4, .int (tgf f cp pa (ixf f pa x1 2))), (3, .int (ixf f pa x1 2)), (2, .int (f1 f ((pa (Int32.toNatClampNeg x1)) + 1))), (0, .ref m0), (1, .int x1)], [], M)) rfl rfl rfl (fun c_54 => ?_) (fun c_54 => ?_)
        · have c_54 : ¬ (tgf f cp pa (ixf f pa x1 2)) = 9 := of_decide_eq_true c_54
          refine ml_st (S' := (62, [], [.int 0], M)) rfl rfl rfl ?_
          exact ml_ret rfl (r_z (Or.inl rfl)) (⟨⟨_, rfl, Or.inl rfl⟩, rfl⟩)
        · have c_54 : ¬ (¬ (tgf f cp pa (ixf f pa x1 2)) = 9) := of_decide_eq_false c_54
          refine ml_st (S' := (58, [(4, .int (tgf f cp pa (ixf f pa x1 2))), (3, .int (ixf f pa x1 2)), (2, .int (f1 f ((pa (Int32.toNatClampNeg x1)) + 1))), (0, .ref m0), (1, .int x1)], [.int 1], M)) rfl rfl rfl ?_
          refine ml_st (S' := (62, [], [.int 1], M)) rfl rfl rfl ?_
          exact ml_ret rfl (r_z (Or.inr rfl)) (⟨⟨_, rfl, Or.inr rfl⟩, rfl⟩)
    · have c_40 : ¬ ((f1 f ((pa (Int32.toNatClampNeg x1)) + 1)) ≤ 9) := of_decide_eq_false c_40
      refine ml_st (S' := (44, [], [.int 0], M)) rfl rfl rfl ?_
      exact ml_ret rfl (r_z (Or.inl rfl)) (⟨⟨_, rfl, Or.inl rfl⟩, rfl⟩)
set_option maxHeartbeats 2000000 in
theorem rm_checkPool {g : xe_G}  {m0 : Nat} {q : Nat → Nat} {z : Nat × Nat} {I : rI} {R : rR} {M : mi_H} {si : Int32} {n : Nat} {f : Nat → Int32} {S cN : Nat} {sa sl ch : Nat → Int32} {cp mj : Int32} {pa py : Nat → Int32}  (hR : RS g m0 q z I R M) (hk9 : I 9 = some si) (hF : FK n f I R) (hY : SK S cN sa sl ch I R) (hP : PK n f S cp mj pa py I R) {d : Nat} (hd : 7 ≤ d) : mt (mT g) d 192 [.ref m0] M (fun v M' => ∃ (x : Int32) (I' : rI) (R' : rR), v = some (.int x) ∧ RS g m0 q z I' R' M' ∧ eqI [47, 48] I I' ∧ eqR [] R R' ∧ (x = 0 ∨ x = 1) ∧ (x = 0 ∨ EK f cp pa py sa sl ch)) := by
  obtain ⟨d, rfl⟩ : ∃ e, d = e + 1 := ⟨d - 1, by omega⟩
  refine mt_in (b := mb_192 g) rfl rfl ?_
  show ml (mT g) d (mb_192 g).2 (0, [(0, .ref m0)], [], M) _
  have hn := hF.1
  refine ml_st (S' := (1, [(0, .ref m0)], [.int 1], M)) rfl rfl rfl ?_
  refine ml_st (S' := (2, [(0, .ref m0), (1, .int 1)], [], M)) rfl rfl rfl ?_
  have L_2 : ∀ (n_2 : Nat) (i2_1 : Int32), (2147483648 - i2_1.toInt).toNat ≤ n_2 → (1 ≤ i2_1.toInt ∧ i2_1.toInt ≤ cp.toInt ∧ ∀ j : Int32, 0 < j.toInt → j.toInt < i2_1.toInt → tgf f cp pa j ≠ 0 → EOK f cp pa py sa sl ch j) → ml (mT g) d (mb_192 g).2 (2, [(0, .ref m0), (1, .int i2_1)], [], M) (fun v M' => ∃ (x : Int32) (I' : rI) (R' : rR), v = some (.int x) ∧ RS g m0 q z I' R' M' ∧ eqI [47, 48] I I' ∧ eqR [] R R' ∧ (x = 0 ∨ x = 1) ∧ (x = 0 ∨ EK f cp pa py sa sl ch)) := by
    intro n_2
    induction n_2 with
    | zero => intro i2_1 hn; exact (loop_zero hn).elim
    | succ n_2 ih_2 =>
      intro i2_1 hn_2 hi_2
      obtain ⟨hk0, hk1, hall⟩ := hi_2
      refine ml_blk 2 (S' := (4, [(0, .ref m0), (1, .int i2_1)], [.ref m0, .int i2_1], M)) rfl ?_
      refine rg_int (S' := (7, [(0, .ref m0), (1, .int i2_1)], [.int cp, .int i2_1], M)) rfl hR rfl (hP.2.1) rfl ?_
      refine ml_if2 (S1 := (426, [(0, .ref m0), (1, .int i2_1)], [], M)) (S2 := (10, [(0, .ref m0), (1, .int i2_1)], [], M)) rfl rfl rfl (fun c_7 => ?_) (fun c_7 => ?_)
      · have c_7 : cp ≤ i2_1 := of_decide_eq_true c_7
        refine ml_st (S' := (427, [(0, .ref m0), (1, .int i2_1)], [.int 1], M)) rfl rfl rfl ?_
        exact ml_ret rfl (r_z (Or.inr rfl)) (⟨_, _, _, rfl, hR, eqI.rf, eqR.rf, Or.inr rfl, Or.inr (fun j hj => by obtain ⟨a1, a2, -⟩ := tgf_in rfl hj; exact hall j a1 (by have := i_le c_7; omega) hj)⟩)
      · have c_7 : ¬ (cp ≤ i2_1) := of_decide_eq_false c_7
        have hkl := i_nle c_7
        have he0 := hP.e (k := i2_1) (by omega) hkl
        refine ml_st (S' := (11, [(0, .ref m0), (1, .int i2_1)], [.ref m0], M)) rfl rfl rfl ?_
        refine rg_ref (S' := (14, [(0, .ref m0), (1, .int i2_1)], [.ref (q 21)], M)) rfl hR rfl rfl ?_
        refine ml_st (S' := (15, [(0, .ref m0), (1, .int i2_1)], [.ref m0, .ref (q 21)], M)) rfl rfl rfl ?_
        refine rg_int (S' := (18, [(0, .ref m0), (1, .int i2_1)], [.int 0, .ref (q 21)], M)) rfl hR rfl (hP.1) rfl ?_
        refine ml_blk 2 (S' := (20, [(0, .ref m0), (1, .int i2_1)], [.int (0 + i2_1), .ref (q 21)], M)) rfl ?_
        refine ra_ld (k := 21) (S' := (21, [(0, .ref m0), (1, .int i2_1)], [.int (pa (Int32.toNatClampNeg i2_1))], M)) rfl hR rfl (he0.2.1) (he0.1) rfl ?_
        refine ml_st (S' := (22, [(2, .int (pa (Int32.toNatClampNeg i2_1))), (0, .ref m0), (1, .int i2_1)], [], M)) rfl rfl rfl ?_
        refine ml_st (S' := (23, [(2, .int (pa (Int32.toNatClampNeg i2_1))), (0, .ref m0), (1, .int i2_1)], [.int (pa (Int32.toNatClampNeg i2_1))], M)) rfl rfl rfl ?_
        have J_420 : (tgf f cp pa i2_1 ≠ 0 → EOK f cp pa py sa sl ch i2_1) → ml (mT g) d (mb_192 g).2 (420, [(0, .ref m0), (1, .int i2_1)], [], M) (fun v M' => ∃ (x : Int32) (I' : rI) (R' : rR), v = some (.int x) ∧ RS g m0 q z I' R' M' ∧ eqI [47, 48] I I' ∧ eqR [] R R' ∧ (x = 0 ∨ x = 1) ∧ (x = 0 ∨ EK f cp pa py sa sl ch)) := by
          intro hj_420
          refine ml_st (S' := (423, [(1, .int (i2_1 + 1)), (0, .ref m0)], [], M)) rfl rfl rfl ?_
          refine ml_st (S' := (2, [(0, .ref m0), (1, .int (i2_1 + 1))], [], M)) rfl rfl rfl ?_
          exact ih_2 (i2_1 + 1) (loop_inc (Int32.not_le.mp c_7) hn_2) (⟨by rw [inc_lt (Int32.not_le.mp c_7)]; omega, by rw [inc_lt (Int32.not_le.mp c_7)]; omega, fun j h0 h1 h2 => by rw [inc_lt (Int32.not_le.mp c_7)] at h1; by_cases e : j = i2_1; (rw [e] at h2 ⊢; exact hj_420 h2); (exact hall j h0 (by have : j.toInt ≠ i2_1.toInt := fun q => e (Int32.toInt_inj.mp q); omega) h2)⟩)
        refine ml_if (S1 := (29, [(2, .int (pa (Int32.toNatClampNeg i2_1))), (0, .ref m0), (1, .int i2_1)], [], M)) (S2 := (26, [(2, .int (pa (Int32.toNatClampNeg i2_1))), (0, .ref m0), (1, .int i2_1)], [], M)) rfl rfl rfl (fun c_23 => ?_) (fun c_23 => ?_)
        · have c_23 : 0 ≤ (pa (Int32.toNatClampNeg i2_1)) := of_decide_eq_true c_23
          have hp0 : 0 ≤ (pa (Int32.toNatClampNeg i2_1)).toInt := by have q := i_le c_23; have : (0 : Int32).toInt = 0 := rfl; omega
          have hent := he0.2.2.resolve_left (m1_neg hp0)
          have htg : tgf f cp pa i2_1 = (f1 f (pa (Int32.toNatClampNeg i2_1))) := tgf_of (by omega) hkl hp0
          refine ml_blk 2 (S' := (31, [(2, .int (pa (Int32.toNatClampNeg i2_1))), (0, .ref m0), (1, .int i2_1)], [.int (pa (Int32.toNatClampNeg i2_1)), .ref m0], M)) rfl ?_
          refine ml_call (a := [.ref m0, .int (pa (Int32.toNatClampNeg i2_1))]) (rest := []) rfl (hR.okc rfl rfl rfl) rfl rfl (rm_u1 hR hF (hp0) (by have := esz_ge (t := (f1 f (pa (Int32.toNatClampNeg i2_1)))); have := hent.2.1; omega) (by omega)) (fun v11 M12 h13 => ?_)
          obtain ⟨rfl, h13⟩ := h13
          rw [h13]
          show ml _ _ _ (34, [(2, .int (pa (Int32.toNatClampNeg i2_1))), (0, .ref m0), (1, .int i2_1)], [.int (f1 f (pa (Int32.toNatClampNeg i2_1)))], M) _
          refine ml_st (S' := (35, [(3, .int (f1 f (pa (Int32.toNatClampNeg i2_1)))), (2, .int (pa (Int32.toNatClampNeg i2_1))), (0, .ref m0), (1, .int i2_1)], [], M)) rfl rfl rfl ?_
          refine ml_blk 3 (S' := (38, [(3, .int (f1 f (pa (Int32.toNatClampNeg i2_1)))), (2, .int (pa (Int32.toNatClampNeg i2_1))), (0, .ref m0), (1, .int i2_1)], [.int (f1 f (pa (Int32.toNatClampNeg i2_1))), .int i2_1, .ref m0], M)) rfl ?_
          refine ml_st (S' := (39, [(3, .int (f1 f (pa (Int32.toNatClampNeg i2_1)))), (2, .int (pa (Int32.toNatClampNeg i2_1))), (0, .ref m0), (1, .int i2_1)], [.int 1, .int (f1 f (pa (Int32.toNatClampNeg i2_1))), .int i2_1, .ref m0], M)) rfl rfl rfl ?_
          refine ml_call (a := [.ref m0, .int i2_1, .int (f1 f (pa (Int32.toNatClampNeg i2_1))), .int 1]) (rest := []) rfl (hR.okc rfl rfl rfl) rfl rfl (rm_indexes hR hF hP (htg) (by omega)) (fun v14 M15 h16 => ?_)
          obtain ⟨⟨u17, rfl, z18, w19⟩, h16⟩ := h16
          rw [h16]
          show ml _ _ _ (42, [(3, .int (f1 f (pa (Int32.toNatClampNeg i2_1)))), (2, .int (pa (Int32.toNatClampNeg i2_1))), (0, .ref m0), (1, .int i2_1)], [.int u17], M) _
          refine ml_if (S1 := (53, [(3, .int (f1 f (pa (Int32.toNatClampNeg i2_1)))), (2, .int (pa (Int32.toNatClampNeg i2_1))), (0, .ref m0), (1, .int i2_1)], [], M)) (S2 := (45, [(3, .int (f1 f (pa (Int32.toNatClampNeg i2_1)))), (2, .int (pa (Int32.toNatClampNeg i2_1))), (0, .ref m0), (1, .int i2_1)], [], M)) rfl rfl rfl (fun c_42 => ?_) (fun c_42 => ?_)
          · have c_42 : ¬ u17 = 0 := of_decide_eq_true c_42
            have hix := w19.resolve_left c_42
            refine ml_blk 2 (S' := (56, [(3, .int (f1 f (pa (Int32.toNatClampNeg i2_1)))), (2, .int (pa (Int32.toNatClampNeg i2_1))), (0, .ref m0), (1, .int i2_1)], [.int 7, .int (f1 f (pa (Int32.toNatClampNeg i2_1)))], M)) rfl ?_
            have J_84 : ((f1 f (pa (Int32.toNatClampNeg i2_1))) = 7 → 0 < (sL sl (pyf py (ixf f pa i2_1 1))).toInt) → ml (mT g) d (mb_192 g).2 (84, [(0, .ref m0), (1, .int i2_1), (2, .int (pa (Int32.toNatClampNeg i2_1))), (3, .int (f1 f (pa (Int32.toNatClampNeg i2_1))))], [], M) (fun v M' => ∃ (x : Int32) (I' : rI) (R' : rR), v = some (.int x) ∧ RS g m0 q z I' R' M' ∧ eqI [47, 48] I I' ∧ eqR [] R R' ∧ (x = 0 ∨ x = 1) ∧ (x = 0 ∨ EK f cp pa py sa sl ch)) := by
              intro hj_84
              refine ml_blk 2 (S' := (87, [(0, .ref m0), (1, .int i2_1), (2, .int (pa (Int32.toNatClampNeg i2_1))), (3, .int (f1 f (pa (Int32.toNatClampNeg i2_1))))], [.int 12, .int (f1 f (pa (Int32.toNatClampNeg i2_1)))], M)) rfl ?_
              have J_150 : ml (mT g) d (mb_192 g).2 (150, [(0, .ref m0), (1, .int i2_1), (2, .int (pa (Int32.toNatClampNeg i2_1))), (3, .int (f1 f (pa (Int32.toNatClampNeg i2_1))))], [], M) (fun v M' => ∃ (x : Int32) (I' : rI) (R' : rR), v = some (.int x) ∧ RS g m0 q z I' R' M' ∧ eqI [47, 48] I I' ∧ eqR [] R R' ∧ (x = 0 ∨ x = 1) ∧ (x = 0 ∨ EK f cp pa py sa sl ch)) := by
                refine ml_blk 2 (S' := (153, [(0, .ref m0), (1, .int i2_1), (2, .int (pa (Int32.toNatClampNeg i2_1))), (3, .int (f1 f (pa (Int32.toNatClampNeg i2_1))))], [.int 9, .int (f1 f (pa (Int32.toNatClampNeg i2_1)))], M)) rfl ?_
                have J_277 : ((f1 f (pa (Int32.toNatClampNeg i2_1))) = 10 ∨ (f1 f (pa (Int32.toNatClampNeg i2_1))) = 11 → MTX sa sl ch (pyf py (ixf f pa (ixf f pa i2_1 3) 3))) → ml (mT g) d (mb_192 g).2 (277, [(0, .ref m0), (1, .int i2_1), (2, .int (pa (Int32.toNatClampNeg i2_1))), (3, .int (f1 f (pa (Int32.toNatClampNeg i2_1))))], [], M) (fun v M' => ∃ (x : Int32) (I' : rI) (R' : rR), v = some (.int x) ∧ RS g m0 q z I' R' M' ∧ eqI [47, 48] I I' ∧ eqR [] R R' ∧ (x = 0 ∨ x = 1) ∧ (x = 0 ∨ EK f cp pa py sa sl ch)) := by
                  intro hj_277
                  refine ml_blk 2 (S' := (280, [(0, .ref m0), (1, .int i2_1), (2, .int (pa (Int32.toNatClampNeg i2_1))), (3, .int (f1 f (pa (Int32.toNatClampNeg i2_1))))], [.int 15, .int (f1 f (pa (Int32.toNatClampNeg i2_1)))], M)) rfl ?_
                  have J_299 : ml (mT g) d (mb_192 g).2 (299, [(0, .ref m0), (1, .int i2_1), (2, .int (pa (Int32.toNatClampNeg i2_1))), (3, .int (f1 f (pa (Int32.toNatClampNeg i2_1))))], [], M) (fun v M' => ∃ (x : Int32) (I' : rI) (R' : rR), v = some (.int x) ∧ RS g m0 q z I' R' M' ∧ eqI [47, 48] I I' ∧ eqR [] R R' ∧ (x = 0 ∨ x = 1) ∧ (x = 0 ∨ EK f cp pa py sa sl ch)) := by
                    refine ml_blk 2 (S' := (302, [(0, .ref m0), (1, .int i2_1), (2, .int (pa (Int32.toNatClampNeg i2_1))), (3, .int (f1 f (pa (Int32.toNatClampNeg i2_1))))], [.int 16, .int (f1 f (pa (Int32.toNatClampNeg i2_1)))], M)) rfl ?_
                    have J_330 : ml (mT g) d (mb_192 g).2 (330, [(0, .ref m0), (1, .int i2_1), (2, .int (pa (Int32.toNatClampNeg i2_1))), (3, .int (f1 f (pa (Int32.toNatClampNeg i2_1))))], [], M) (fun v M' => ∃ (x : Int32) (I' : rI) (R' : rR), v = some (.int x) ∧ RS g m0 q z I' R' M' ∧ eqI [47, 48] I I' ∧ eqR [] R R' ∧ (x = 0 ∨ x = 1) ∧ (x = 0 ∨ EK f cp pa py sa sl ch)) := by
                      refine ml_blk 2 (S' := (333, [(0, .ref m0), (1, .int i2_1), (2, .int (pa (Int32.toNatClampNeg i2_1))), (3, .int (f1 f (pa (Int32.toNatClampNeg i2_1))))], [.int 17, .int (f1 f (pa (Int32.toNatClampNeg i2_1)))], M)) rfl ?_
                      have J_342 : ((f1 f (pa (Int32.toNatClampNeg i2_1))) = 17 ∨ (f1 f (pa (Int32.toNatClampNeg i2_1))) = 18) → ml (mT g) d (mb_192 g).2 (342, [(0, .ref m0), (1, .int i2_1), (2, .int (pa (Int32.toNatClampNeg i2_1))), (3, .int (f1 f (pa (Int32.toNatClampNeg i2_1))))], [], M) (fun v M' => ∃ (x : Int32) (I' : rI) (R' : rR), v = some (.int x) ∧ RS g m0 q z I' R' M' ∧ eqI [47, 48] I I' ∧ eqR [] R R' ∧ (x = 0 ∨ x = 1) ∧ (x = 0 ∨ EK f cp pa py sa sl ch)) := by
                        intro hj_342
                        have hi17 := hix.2.2.2.2 hj_342
                        have hyA := hP.y hi17.2.1
                        have hyB := hP.y hi17.2.2
                        have hz17 : (f1 f (pa (Int32.toNatClampNeg i2_1))) ≠ 0 := (fun e => by rcases hj_342 with h | h <;> rw [h] at e <;> exact absurd e (by decide))
                        refine ml_blk 3 (S' := (345, [(0, .ref m0), (1, .int i2_1), (2, .int (pa (Int32.toNatClampNeg i2_1))), (3, .int (f1 f (pa (Int32.toNatClampNeg i2_1))))], [.ref m0, .ref m0, .ref m0], M)) rfl ?_
                        refine ml_blk 2 (S' := (347, [(0, .ref m0), (1, .int i2_1), (2, .int (pa (Int32.toNatClampNeg i2_1))), (3, .int (f1 f (pa (Int32.toNatClampNeg i2_1))))], [.int 3, .int i2_1, .ref m0, .ref m0, .ref m0], M)) rfl ?_
                        refine ml_call (a := [.ref m0, .int i2_1, .int 3]) (rest := [.ref m0, .ref m0]) rfl (hR.okc rfl rfl rfl) rfl rfl (rm_index hR hF hP ((hP.tg htg hz17).1) ((hP.tg htg hz17).2.1) ((hP.tg htg hz17).2.2.1) (by decide) (by have q := (hP.tg htg hz17).2.2.2.2; rw [show esz _ = 5 from esz_17 hj_342] at q; have : (3 : Int32).toInt = 3 := rfl; omega) (by omega)) (fun v20 M21 h22 => ?_)
                        obtain ⟨rfl, h22⟩ := h22
                        rw [h22]
                        show ml _ _ _ (350, [(0, .ref m0), (1, .int i2_1), (2, .int (pa (Int32.toNatClampNeg i2_1))), (3, .int (f1 f (pa (Int32.toNatClampNeg i2_1))))], [.int (ixf f pa i2_1 3), .ref m0, .ref m0], M) _
                        refine ml_st (S' := (351, [(0, .ref m0), (1, .int i2_1), (2, .int (pa (Int32.toNatClampNeg i2_1))), (3, .int (f1 f (pa (Int32.toNatClampNeg i2_1))))], [.int 1, .int (ixf f pa i2_1 3), .ref m0, .ref m0], M)) rfl rfl rfl ?_
                        refine ml_call (a := [.ref m0, .int (ixf f pa i2_1 3), .int 1]) (rest := [.ref m0]) rfl (hR.okc rfl rfl rfl) rfl rfl (rm_index hR hF hP ((hP.tg hi17.1 (by decide)).1) ((hP.tg hi17.1 (by decide)).2.1) ((hP.tg hi17.1 (by decide)).2.2.1) (by decide) (by have q := (hP.tg hi17.1 (by decide)).2.2.2.2; rw [show esz _ = 5 from rfl] at q; have : (1 : Int32).toInt = 1 := rfl; omega) (by omega)) (fun v23 M24 h25 => ?_)
                        obtain ⟨rfl, h25⟩ := h25
                        rw [h25]
                        show ml _ _ _ (354, [(0, .ref m0), (1, .int i2_1), (2, .int (pa (Int32.toNatClampNeg i2_1))), (3, .int (f1 f (pa (Int32.toNatClampNeg i2_1))))], [.int (ixf f pa (ixf f pa i2_1 3) 1), .ref m0], M) _
                        refine ml_call (a := [.ref m0, .int (ixf f pa (ixf f pa i2_1 3) 1)]) (rest := []) rfl (hR.okc rfl rfl rfl) rfl rfl (rm_symOf hR hP (hi17.2.1) (by omega)) (fun v26 M27 h28 => ?_)
                        obtain ⟨rfl, h28⟩ := h28
                        rw [h28]
                        show ml _ _ _ (357, [(0, .ref m0), (1, .int i2_1), (2, .int (pa (Int32.toNatClampNeg i2_1))), (3, .int (f1 f (pa (Int32.toNatClampNeg i2_1))))], [.int (pyf py (ixf f pa (ixf f pa i2_1 3) 1))], M) _
                        refine ml_st (S' := (359, [(4, .int (pyf py (ixf f pa (ixf f pa i2_1 3) 1))), (0, .ref m0), (1, .int i2_1), (2, .int (pa (Int32.toNatClampNeg i2_1))), (3, .int (f1 f (pa (Int32.toNatClampNeg i2_1))))], [], M)) rfl rfl rfl ?_
                        refine ml_blk 3 (S' := (362, [(4, .int (pyf py (ixf f pa (ixf f pa i2_1 3) 1))), (0, .ref m0), (1, .int i2_1), (2, .int (pa (Int32.toNatClampNeg i2_1))), (3, .int (f1 f (pa (Int32.toNatClampNeg i2_1))))], [.ref m0, .ref m0, .ref m0], M)) rfl ?_
                        refine ml_blk 2 (S' := (364, [(4, .int (pyf py (ixf f pa (ixf f pa i2_1 3) 1))), (0, .ref m0), (1, .int i2_1), (2, .int (pa (Int32.toNatClampNeg i2_1))), (3, .int (f1 f (pa (Int32.toNatClampNeg i2_1))))], [.int 3, .int i2_1, .ref m0, .ref m0, .ref m0], M)) rfl ?_
                        refine ml_call (a := [.ref m0, .int i2_1, .int 3]) (rest := [.ref m0, .ref m0]) rfl (hR.okc rfl rfl rfl) rfl rfl (rm_index hR hF hP ((hP.tg htg hz17).1) ((hP.tg htg hz17).2.1) ((hP.tg htg hz17).2.2.1) (by decide) (by have q := (hP.tg htg hz17).2.2.2.2; rw [show esz _ = 5 from esz_17 hj_342] at q; have : (3 : Int32).toInt = 3 := rfl; omega) (by omega)) (fun v29 M30 h31 => ?_)
                        obtain ⟨rfl, h31⟩ := h31
                        rw [h31]
                        show ml _ _ _ (367, [(4, .int (pyf py (ixf f pa (ixf f pa i2_1 3) 1))), (0, .ref m0), (1, .int i2_1), (2, .int (pa (Int32.toNatClampNeg i2_1))), (3, .int (f1 f (pa (Int32.toNatClampNeg i2_1))))], [.int (ixf f pa i2_1 3), .ref m0, .ref m0], M) _
                        refine ml_st (S' := (368, [(4, .int (pyf py (ixf f pa (ixf f pa i2_1 3) 1))), (0, .ref m0), (1, .int i2_1), (2, .int (pa (Int32.toNatClampNeg i2_1))), (3, .int (f1 f (pa (Int32.toNatClampNeg i2_1))))], [.int 3, .int (ixf f pa i2_1 3), .ref m0, .ref m0], M)) rfl rfl rfl ?_
                        refine ml_call (a := [.ref m0, .int (ixf f pa i2_1 3), .int 3]) (rest := [.ref m0]) rfl (hR.okc rfl rfl rfl) rfl rfl (rm_index hR hF hP ((hP.tg hi17.1 (by decide)).1) ((hP.tg hi17.1 (by decide)).2.1) ((hP.tg hi17.1 (by decide)).2.2.1) (by decide) (by have q := (hP.tg hi17.1 (by decide)).2.2.2.2; rw [show esz _ = 5 from rfl] at q; have : (3 : Int32).toInt = 3 := rfl; omega) (by omega)) (fun v32 M33 h34 => ?_)
                        obtain ⟨rfl, h34⟩ := h34
                        rw [h34]
                        show ml _ _ _ (371, [(4, .int (pyf py (ixf f pa (ixf f pa i2_1 3) 1))), (0, .ref m0), (1, .int i2_1), (2, .int (pa (Int32.toNatClampNeg i2_1))), (3, .int (f1 f (pa (Int32.toNatClampNeg i2_1))))], [.int (ixf f pa (ixf f pa i2_1 3) 3), .ref m0], M) _
                        refine ml_call (a := [.ref m0, .int (ixf f pa (ixf f pa i2_1 3) 3)]) (rest := []) rfl (hR.okc rfl rfl rfl) rfl rfl (rm_symOf hR hP (hi17.2.2) (by omega)) (fun v35 M36 h37 => ?_)
                        obtain ⟨rfl, h37⟩ := h37
                        rw [h37]
                        show ml _ _ _ (374, [(4, .int (pyf py (ixf f pa (ixf f pa i2_1 3) 1))), (0, .ref m0), (1, .int i2_1), (2, .int (pa (Int32.toNatClampNeg i2_1))), (3, .int (f1 f (pa (Int32.toNatClampNeg i2_1))))], [.int (pyf py (ixf f pa (ixf f pa i2_1 3) 3))], M) _
                        refine ml_st (S' := (376, [(5, .int (pyf py (ixf f pa (ixf f pa i2_1 3) 3))), (4, .int (pyf py (ixf f pa (ixf f pa i2_1 3) 1))), (0, .ref m0), (1, .int i2_1), (2, .int (pa (Int32.toNatClampNeg i2_1))), (3, .int (f1 f (pa (Int32.toNatClampNeg i2_1))))], [], M)) rfl rfl rfl ?_
                        refine ml_blk 2 (S' := (379, [(5, .int (pyf py (ixf f pa (ixf f pa i2_1 3) 3))), (4, .int (pyf py (ixf f pa (ixf f pa i2_1 3) 1))), (0, .ref m0), (1, .int i2_1), (2, .int (pa (Int32.toNatClampNeg i2_1))), (3, .int (f1 f (pa (Int32.toNatClampNeg i2_1))))], [.int (pyf py (ixf f pa (ixf f pa i2_1 3) 1)), .ref m0], M)) rfl ?_
                        refine ml_call (a := [.ref m0, .int (pyf py (ixf f pa (ixf f pa i2_1 3) 1))]) (rest := []) rfl (hR.okc rfl rfl rfl) rfl rfl (rm_angles hR hY (hyA.2.2.1) (hyA.2.2.2) (by omega)) (fun v38 M39 h40 => ?_)
                        obtain ⟨⟨u41, rfl, z42⟩, h40⟩ := h40
                        rw [h40]
                        show ml _ _ _ (382, [(5, .int (pyf py (ixf f pa (ixf f pa i2_1 3) 3))), (4, .int (pyf py (ixf f pa (ixf f pa i2_1 3) 1))), (0, .ref m0), (1, .int i2_1), (2, .int (pa (Int32.toNatClampNeg i2_1))), (3, .int (f1 f (pa (Int32.toNatClampNeg i2_1))))], [.int u41], M) _
                        refine ml_if (S1 := (412, [(0, .ref m0), (2, .int (pa (Int32.toNatClampNeg i2_1)))], [], M)) (S2 := (385, [(5, .int (pyf py (ixf f pa (ixf f pa i2_1 3) 3))), (4, .int (pyf py (ixf f pa (ixf f pa i2_1 3) 1))), (0, .ref m0), (1, .int i2_1), (2, .int (pa (Int32.toNatClampNeg i2_1))), (3, .int (f1 f (pa (Int32.toNatClampNeg i2_1))))], [], M)) rfl rfl rfl (fun c_382 => ?_) (fun c_382 => ?_)
                        · have c_382 : ¬ u41 = 0 := of_decide_eq_true c_382
                          refine ml_blk 3 (S' := (416, [(0, .ref m0), (2, .int (pa (Int32.toNatClampNeg i2_1)))], [.int (pa (Int32.toNatClampNeg i2_1)), .int 14, .ref m0], M)) rfl ?_
                          refine ml_call (a := [.ref m0, .int 14, .int (pa (Int32.toNatClampNeg i2_1))]) (rest := []) rfl (hR.okc rfl rfl rfl) rfl rfl (rm_wrong hR (by omega)) (fun v43 M44 h45 => ?_)
                          obtain ⟨u51, I46, R47, rfl, hR48, hI49, hV50, z52, w53⟩ := h45
                          show ml _ _ _ (419, [(0, .ref m0), (2, .int (pa (Int32.toNatClampNeg i2_1)))], [.int u51], M44) _
                          exact ml_ret rfl (r_z (z52)) (⟨_, _, _, rfl, hR48, (eqI.rf.tr hI49 (by decide)), (eqR.rf.tr hV50 (by decide)), z52, Or.inl w53⟩)
                        · have c_382 : ¬ (¬ u41 = 0) := of_decide_eq_false c_382
                          refine ml_blk 2 (S' := (388, [(5, .int (pyf py (ixf f pa (ixf f pa i2_1 3) 3))), (4, .int (pyf py (ixf f pa (ixf f pa i2_1 3) 1))), (0, .ref m0), (1, .int i2_1), (2, .int (pa (Int32.toNatClampNeg i2_1))), (3, .int (f1 f (pa (Int32.toNatClampNeg i2_1))))], [.int 17, .int (f1 f (pa (Int32.toNatClampNeg i2_1)))], M)) rfl ?_
                          refine ml_if2 (S1 := (403, [(5, .int (pyf py (ixf f pa (ixf f pa i2_1 3) 3))), (4, .int (pyf py (ixf f pa (ixf f pa i2_1 3) 1))), (0, .ref m0), (1, .int i2_1), (2, .int (pa (Int32.toNatClampNeg i2_1))), (3, .int (f1 f (pa (Int32.toNatClampNeg i2_1))))], [], M)) (S2 := (391, [(5, .int (pyf py (ixf f pa (ixf f pa i2_1 3) 3))), (4, .int (pyf py (ixf f pa (ixf f pa i2_1 3) 1))), (0, .ref m0), (1, .int i2_1), (2, .int (pa (Int32.toNatClampNeg i2_1))), (3, .int (f1 f (pa (Int32.toNatClampNeg i2_1))))], [], M)) rfl rfl rfl (fun c_388 => ?_) (fun c_388 => ?_)
                          · have c_388 : ¬ (f1 f (pa (Int32.toNatClampNeg i2_1))) = 17 := of_decide_eq_true c_388
                            refine ml_blk 2 (S' := (406, [(5, .int (pyf py (ixf f pa (ixf f pa i2_1 3) 3))), (4, .int (pyf py (ixf f pa (ixf f pa i2_1 3) 1))), (0, .ref m0), (1, .int i2_1), (2, .int (pa (Int32.toNatClampNeg i2_1))), (3, .int (f1 f (pa (Int32.toNatClampNeg i2_1))))], [.int (pyf py (ixf f pa (ixf f pa i2_1 3) 3)), .ref m0], M)) rfl ?_
                            refine ml_call (a := [.ref m0, .int (pyf py (ixf f pa (ixf f pa i2_1 3) 3))]) (rest := []) rfl (hR.okc rfl rfl rfl) rfl rfl (rm_isMethod hR hY (hyB.2.2.1) (hyB.2.2.2) (by omega)) (fun v54 M55 h56 => ?_)
                            obtain ⟨⟨u57, rfl, z58, w59⟩, h56⟩ := h56
                            rw [h56]
                            show ml _ _ _ (409, [(5, .int (pyf py (ixf f pa (ixf f pa i2_1 3) 3))), (4, .int (pyf py (ixf f pa (ixf f pa i2_1 3) 1))), (0, .ref m0), (1, .int i2_1), (2, .int (pa (Int32.toNatClampNeg i2_1))), (3, .int (f1 f (pa (Int32.toNatClampNeg i2_1))))], [.int u57], M) _
                            refine ml_if (S1 := (420, [(0, .ref m0), (1, .int i2_1)], [], M)) (S2 := (412, [(0, .ref m0), (2, .int (pa (Int32.toNatClampNeg i2_1)))], [], M)) rfl rfl rfl (fun c_409 => ?_) (fun c_409 => ?_)
                            · have c_409 : ¬ u57 = 0 := of_decide_eq_true c_409
                              exact J_420  (fun _ => ⟨by rw [htg]; exact hix, by rw [htg]; exact hj_84, by rw [htg]; exact (fun h => by rcases h with h | h | h; exact hj_277 (Or.inl h); exact hj_277 (Or.inr h); exact w59.resolve_left c_409), by rw [htg]; exact (fun h => absurd h c_388)⟩)
                            · have c_409 : ¬ (¬ u57 = 0) := of_decide_eq_false c_409
                              refine ml_blk 3 (S' := (416, [(0, .ref m0), (2, .int (pa (Int32.toNatClampNeg i2_1)))], [.int (pa (Int32.toNatClampNeg i2_1)), .int 14, .ref m0], M)) rfl ?_
                              refine ml_call (a := [.ref m0, .int 14, .int (pa (Int32.toNatClampNeg i2_1))]) (rest := []) rfl (hR.okc rfl rfl rfl) rfl rfl (rm_wrong hR (by omega)) (fun v60 M61 h62 => ?_)
                              obtain ⟨u68, I63, R64, rfl, hR65, hI66, hV67, z69, w70⟩ := h62
                              show ml _ _ _ (419, [(0, .ref m0), (2, .int (pa (Int32.toNatClampNeg i2_1)))], [.int u68], M61) _
                              exact ml_ret rfl (r_z (z69)) (⟨_, _, _, rfl, hR65, (eqI.rf.tr hI66 (by decide)), (eqR.rf.tr hV67 (by decide)), z69, Or.inl w70⟩)
                          · have c_388 : ¬ (¬ (f1 f (pa (Int32.toNatClampNeg i2_1))) = 17) := of_decide_eq_false c_388
                            refine ml_blk 2 (S' := (394, [(5, .int (pyf py (ixf f pa (ixf f pa i2_1 3) 3))), (4, .int (pyf py (ixf f pa (ixf f pa i2_1 3) 1))), (0, .ref m0), (1, .int i2_1), (2, .int (pa (Int32.toNatClampNeg i2_1))), (3, .int (f1 f (pa (Int32.toNatClampNeg i2_1))))], [.int (pyf py (ixf f pa (ixf f pa i2_1 3) 3)), .ref m0], M)) rfl ?_
                            refine ml_call (a := [.ref m0, .int (pyf py (ixf f pa (ixf f pa i2_1 3) 3))]) (rest := []) rfl (hR.okc rfl rfl rfl) rfl rfl (rm_isField hR hY (hyB.2.2.1) (hyB.2.2.2) (by omega)) (fun v71 M72 h73 => ?_)
                            obtain ⟨⟨u74, rfl, z75, w76⟩, h73⟩ := h73
                            rw [h73]
                            show ml _ _ _ (397, [(5, .int (pyf py (ixf f pa (ixf f pa i2_1 3) 3))), (4, .int (pyf py (ixf f pa (ixf f pa i2_1 3) 1))), (0, .ref m0), (1, .int i2_1), (2, .int (pa (Int32.toNatClampNeg i2_1))), (3, .int (f1 f (pa (Int32.toNatClampNeg i2_1))))], [.int u74], M) _
                            refine ml_if (S1 := (412, [(0, .ref m0), (2, .int (pa (Int32.toNatClampNeg i2_1)))], [], M)) (S2 := (400, [(5, .int (pyf py (ixf f pa (ixf f pa i2_1 3) 3))), (4, .int (pyf py (ixf f pa (ixf f pa i2_1 3) 1))), (0, .ref m0), (1, .int i2_1), (2, .int (pa (Int32.toNatClampNeg i2_1))), (3, .int (f1 f (pa (Int32.toNatClampNeg i2_1))))], [], M)) rfl rfl rfl (fun c_397 => ?_) (fun c_397 => ?_)
                            · have c_397 : u74 = 0 := of_decide_eq_true c_397
                              refine ml_blk 3 (S' := (416, [(0, .ref m0), (2, .int (pa (Int32.toNatClampNeg i2_1)))], [.int (pa (Int32.toNatClampNeg i2_1)), .int 14, .ref m0], M)) rfl ?_
                              refine ml_call (a := [.ref m0, .int 14, .int (pa (Int32.toNatClampNeg i2_1))]) (rest := []) rfl (hR.okc rfl rfl rfl) rfl rfl (rm_wrong hR (by omega)) (fun v77 M78 h79 => ?_)
                              obtain ⟨u85, I80, R81, rfl, hR82, hI83, hV84, z86, w87⟩ := h79
                              show ml _ _ _ (419, [(0, .ref m0), (2, .int (pa (Int32.toNatClampNeg i2_1)))], [.int u85], M78) _
                              exact ml_ret rfl (r_z (z86)) (⟨_, _, _, rfl, hR82, (eqI.rf.tr hI83 (by decide)), (eqR.rf.tr hV84 (by decide)), z86, Or.inl w87⟩)
                            · have c_397 : ¬ (u74 = 0) := of_decide_eq_false c_397
                              refine ml_st (S' := (420, [(0, .ref m0), (1, .int i2_1)], [], M)) rfl rfl rfl ?_
                              exact J_420  (fun _ => ⟨by rw [htg]; exact hix, by rw [htg]; exact hj_84, by rw [htg]; exact (fun h => by rcases h with h | h | h; exact hj_277 (Or.inl h); exact hj_277 (Or.inr h); exact absurd ((Decidable.not_not.mp c_388).symm.trans h) (by decide)), by rw [htg]; exact (fun h => w76.resolve_left c_397)⟩)
                      refine ml_if2 (S1 := (342, [(0, .ref m0), (1, .int i2_1), (2, .int (pa (Int32.toNatClampNeg i2_1))), (3, .int (f1 f (pa (Int32.toNatClampNeg i2_1))))], [], M)) (S2 := (336, [(0, .ref m0), (1, .int i2_1), (2, .int (pa (Int32.toNatClampNeg i2_1))), (3, .int (f1 f (pa (Int32.toNatClampNeg i2_1))))], [], M)) rfl rfl rfl (fun c_333 => ?_) (fun c_333 => ?_)
                      · have c_333 : (f1 f (pa (Int32.toNatClampNeg i2_1))) = 17 := of_decide_eq_true c_333
                        exact J_342  (Or.inl c_333)
                      · have c_333 : ¬ ((f1 f (pa (Int32.toNatClampNeg i2_1))) = 17) := of_decide_eq_false c_333
                        refine ml_blk 2 (S' := (339, [(0, .ref m0), (1, .int i2_1), (2, .int (pa (Int32.toNatClampNeg i2_1))), (3, .int (f1 f (pa (Int32.toNatClampNeg i2_1))))], [.int 18, .int (f1 f (pa (Int32.toNatClampNeg i2_1)))], M)) rfl ?_
                        refine ml_if2 (S1 := (420, [(0, .ref m0), (1, .int i2_1)], [], M)) (S2 := (342, [(0, .ref m0), (1, .int i2_1), (2, .int (pa (Int32.toNatClampNeg i2_1))), (3, .int (f1 f (pa (Int32.toNatClampNeg i2_1))))], [], M)) rfl rfl rfl (fun c_339 => ?_) (fun c_339 => ?_)
                        · have c_339 : ¬ (f1 f (pa (Int32.toNatClampNeg i2_1))) = 18 := of_decide_eq_true c_339
                          exact J_420  (fun _ => ⟨by rw [htg]; exact hix, by rw [htg]; exact hj_84, by rw [htg]; exact (fun h => by rcases h with h | h | h; exact hj_277 (Or.inl h); exact hj_277 (Or.inr h); exact absurd h c_339), by rw [htg]; exact (fun h => absurd h c_333)⟩)
                        · have c_339 : ¬ (¬ (f1 f (pa (Int32.toNatClampNeg i2_1))) = 18) := of_decide_eq_false c_339
                          exact J_342  (Or.inr (Decidable.not_not.mp c_339))
                    refine ml_if2 (S1 := (330, [(0, .ref m0), (1, .int i2_1), (2, .int (pa (Int32.toNatClampNeg i2_1))), (3, .int (f1 f (pa (Int32.toNatClampNeg i2_1))))], [], M)) (S2 := (305, [(0, .ref m0), (1, .int i2_1), (2, .int (pa (Int32.toNatClampNeg i2_1))), (3, .int (f1 f (pa (Int32.toNatClampNeg i2_1))))], [], M)) rfl rfl rfl (fun c_302 => ?_) (fun c_302 => ?_)
                    · have c_302 : ¬ (f1 f (pa (Int32.toNatClampNeg i2_1))) = 16 := of_decide_eq_true c_302
                      exact J_330 
                    · have c_302 : ¬ (¬ (f1 f (pa (Int32.toNatClampNeg i2_1))) = 16) := of_decide_eq_false c_302
                      have hi7 := hix.1 (Or.inr (Or.inr (Or.inl (Decidable.not_not.mp c_302))))
                      have hy7 := hP.y hi7
                      refine ml_blk 3 (S' := (308, [(0, .ref m0), (1, .int i2_1), (2, .int (pa (Int32.toNatClampNeg i2_1))), (3, .int (f1 f (pa (Int32.toNatClampNeg i2_1))))], [.ref m0, .ref m0, .ref m0], M)) rfl ?_
                      refine ml_blk 2 (S' := (310, [(0, .ref m0), (1, .int i2_1), (2, .int (pa (Int32.toNatClampNeg i2_1))), (3, .int (f1 f (pa (Int32.toNatClampNeg i2_1))))], [.int 1, .int i2_1, .ref m0, .ref m0, .ref m0], M)) rfl ?_
                      refine ml_call (a := [.ref m0, .int i2_1, .int 1]) (rest := [.ref m0, .ref m0]) rfl (hR.okc rfl rfl rfl) rfl rfl (rm_index hR hF hP ((hP.tg (htg.trans (Decidable.not_not.mp c_302)) (by decide)).1) ((hP.tg (htg.trans (Decidable.not_not.mp c_302)) (by decide)).2.1) ((hP.tg (htg.trans (Decidable.not_not.mp c_302)) (by decide)).2.2.1) (by decide) (by have q := (hP.tg (htg.trans (Decidable.not_not.mp c_302)) (by decide)).2.2.2.2; rw [show esz _ = 3 from rfl] at q; have : (1 : Int32).toInt = 1 := rfl; omega) (by omega)) (fun v88 M89 h90 => ?_)
                      obtain ⟨rfl, h90⟩ := h90
                      rw [h90]
                      show ml _ _ _ (313, [(0, .ref m0), (1, .int i2_1), (2, .int (pa (Int32.toNatClampNeg i2_1))), (3, .int (f1 f (pa (Int32.toNatClampNeg i2_1))))], [.int (ixf f pa i2_1 1), .ref m0, .ref m0], M) _
                      refine ml_call (a := [.ref m0, .int (ixf f pa i2_1 1)]) (rest := [.ref m0]) rfl (hR.okc rfl rfl rfl) rfl rfl (rm_symOf hR hP (hi7) (by omega)) (fun v91 M92 h93 => ?_)
                      obtain ⟨rfl, h93⟩ := h93
                      rw [h93]
                      show ml _ _ _ (316, [(0, .ref m0), (1, .int i2_1), (2, .int (pa (Int32.toNatClampNeg i2_1))), (3, .int (f1 f (pa (Int32.toNatClampNeg i2_1))))], [.int (pyf py (ixf f pa i2_1 1)), .ref m0], M) _
                      refine ml_call (a := [.ref m0, .int (pyf py (ixf f pa i2_1 1))]) (rest := []) rfl (hR.okc rfl rfl rfl) rfl rfl (rm_isMethod hR hY (hy7.2.2.1) (hy7.2.2.2) (by omega)) (fun v94 M95 h96 => ?_)
                      obtain ⟨⟨u97, rfl, z98, w99⟩, h96⟩ := h96
                      rw [h96]
                      show ml _ _ _ (319, [(0, .ref m0), (1, .int i2_1), (2, .int (pa (Int32.toNatClampNeg i2_1))), (3, .int (f1 f (pa (Int32.toNatClampNeg i2_1))))], [.int u97], M) _
                      refine ml_if (S1 := (330, [(0, .ref m0), (1, .int i2_1), (2, .int (pa (Int32.toNatClampNeg i2_1))), (3, .int (f1 f (pa (Int32.toNatClampNeg i2_1))))], [], M)) (S2 := (322, [(0, .ref m0), (1, .int i2_1), (2, .int (pa (Int32.toNatClampNeg i2_1))), (3, .int (f1 f (pa (Int32.toNatClampNeg i2_1))))], [], M)) rfl rfl rfl (fun c_319 => ?_) (fun c_319 => ?_)
                      · have c_319 : ¬ u97 = 0 := of_decide_eq_true c_319
                        exact J_330 
                      · have c_319 : ¬ (¬ u97 = 0) := of_decide_eq_false c_319
                        refine ml_blk 3 (S' := (326, [(0, .ref m0), (1, .int i2_1), (2, .int (pa (Int32.toNatClampNeg i2_1))), (3, .int (f1 f (pa (Int32.toNatClampNeg i2_1))))], [.int (pa (Int32.toNatClampNeg i2_1)), .int 14, .ref m0], M)) rfl ?_
                        refine ml_call (a := [.ref m0, .int 14, .int (pa (Int32.toNatClampNeg i2_1))]) (rest := []) rfl (hR.okc rfl rfl rfl) rfl rfl (rm_wrong hR (by omega)) (fun v100 M101 h102 => ?_)
                        obtain ⟨u108, I103, R104, rfl, hR105, hI106, hV107, z109, w110⟩ := h102
                        show ml _ _ _ (329, [(0, .ref m0), (1, .int i2_1), (2, .int (pa (Int32.toNatClampNeg i2_1))), (3, .int (f1 f (pa (Int32.toNatClampNeg i2_1))))], [.int u108], M101) _
                        exact ml_ret rfl (r_z (z109)) (⟨_, _, _, rfl, hR105, (eqI.rf.tr hI106 (by decide)), (eqR.rf.tr hV107 (by decide)), z109, Or.inl w110⟩)
                  refine ml_if2 (S1 := (299, [(0, .ref m0), (1, .int i2_1), (2, .int (pa (Int32.toNatClampNeg i2_1))), (3, .int (f1 f (pa (Int32.toNatClampNeg i2_1))))], [], M)) (S2 := (283, [(0, .ref m0), (1, .int i2_1), (2, .int (pa (Int32.toNatClampNeg i2_1))), (3, .int (f1 f (pa (Int32.toNatClampNeg i2_1))))], [], M)) rfl rfl rfl (fun c_280 => ?_) (fun c_280 => ?_)
                  · have c_280 : ¬ (f1 f (pa (Int32.toNatClampNeg i2_1))) = 15 := of_decide_eq_true c_280
                    exact J_299 
                  · have c_280 : ¬ (¬ (f1 f (pa (Int32.toNatClampNeg i2_1))) = 15) := of_decide_eq_false c_280
                    refine ml_blk 2 (S' := (285, [(0, .ref m0), (1, .int i2_1), (2, .int (pa (Int32.toNatClampNeg i2_1))), (3, .int (f1 f (pa (Int32.toNatClampNeg i2_1))))], [.int i2_1, .ref m0], M)) rfl ?_
                    refine ml_call (a := [.ref m0, .int i2_1]) (rest := []) rfl (hR.okc rfl rfl rfl) rfl rfl (rm_handleEntry hR (hk9) hF hY hP (htg.trans (Decidable.not_not.mp c_280)) (by have q := hix; rw [show (f1 f (pa (Int32.toNatClampNeg i2_1))) = 15 from Decidable.not_not.mp c_280] at q; exact q) (by omega)) (fun v111 M112 h113 => ?_)
                    obtain ⟨⟨u114, rfl, z115⟩, h113⟩ := h113
                    rw [h113]
                    show ml _ _ _ (288, [(0, .ref m0), (1, .int i2_1), (2, .int (pa (Int32.toNatClampNeg i2_1))), (3, .int (f1 f (pa (Int32.toNatClampNeg i2_1))))], [.int u114], M) _
                    refine ml_if (S1 := (299, [(0, .ref m0), (1, .int i2_1), (2, .int (pa (Int32.toNatClampNeg i2_1))), (3, .int (f1 f (pa (Int32.toNatClampNeg i2_1))))], [], M)) (S2 := (291, [(0, .ref m0), (1, .int i2_1), (2, .int (pa (Int32.toNatClampNeg i2_1))), (3, .int (f1 f (pa (Int32.toNatClampNeg i2_1))))], [], M)) rfl rfl rfl (fun c_288 => ?_) (fun c_288 => ?_)
                    · have c_288 : ¬ u114 = 0 := of_decide_eq_true c_288
                      exact J_299 
                    · have c_288 : ¬ (¬ u114 = 0) := of_decide_eq_false c_288
                      refine ml_blk 3 (S' := (295, [(0, .ref m0), (1, .int i2_1), (2, .int (pa (Int32.toNatClampNeg i2_1))), (3, .int (f1 f (pa (Int32.toNatClampNeg i2_1))))], [.int (pa (Int32.toNatClampNeg i2_1)), .int 13, .ref m0], M)) rfl ?_
                      refine ml_call (a := [.ref m0, .int 13, .int (pa (Int32.toNatClampNeg i2_1))]) (rest := []) rfl (hR.okc rfl rfl rfl) rfl rfl (rm_wrong hR (by omega)) (fun v116 M117 h118 => ?_)
                      obtain ⟨u124, I119, R120, rfl, hR121, hI122, hV123, z125, w126⟩ := h118
                      show ml _ _ _ (298, [(0, .ref m0), (1, .int i2_1), (2, .int (pa (Int32.toNatClampNeg i2_1))), (3, .int (f1 f (pa (Int32.toNatClampNeg i2_1))))], [.int u124], M117) _
                      exact ml_ret rfl (r_z (z125)) (⟨_, _, _, rfl, hR121, (eqI.rf.tr hI122 (by decide)), (eqR.rf.tr hV123 (by decide)), z125, Or.inl w126⟩)
                refine ml_if2 (S1 := (277, [(0, .ref m0), (1, .int i2_1), (2, .int (pa (Int32.toNatClampNeg i2_1))), (3, .int (f1 f (pa (Int32.toNatClampNeg i2_1))))], [], M)) (S2 := (156, [(0, .ref m0), (1, .int i2_1), (2, .int (pa (Int32.toNatClampNeg i2_1))), (3, .int (f1 f (pa (Int32.toNatClampNeg i2_1))))], [], M)) rfl rfl rfl (fun c_153 => ?_) (fun c_153 => ?_)
                · have c_153 : (f1 f (pa (Int32.toNatClampNeg i2_1))) < 9 := of_decide_eq_true c_153
                  exact J_277  (fun h => by have q := i_lt c_153; rcases h with h | h <;> (rw [h] at q; exact absurd q (by decide)))
                · have c_153 : ¬ ((f1 f (pa (Int32.toNatClampNeg i2_1))) < 9) := of_decide_eq_false c_153
                  refine ml_blk 2 (S' := (159, [(0, .ref m0), (1, .int i2_1), (2, .int (pa (Int32.toNatClampNeg i2_1))), (3, .int (f1 f (pa (Int32.toNatClampNeg i2_1))))], [.int 11, .int (f1 f (pa (Int32.toNatClampNeg i2_1)))], M)) rfl ?_
                  refine ml_if2 (S1 := (277, [(0, .ref m0), (1, .int i2_1), (2, .int (pa (Int32.toNatClampNeg i2_1))), (3, .int (f1 f (pa (Int32.toNatClampNeg i2_1))))], [], M)) (S2 := (162, [(0, .ref m0), (1, .int i2_1), (2, .int (pa (Int32.toNatClampNeg i2_1))), (3, .int (f1 f (pa (Int32.toNatClampNeg i2_1))))], [], M)) rfl rfl rfl (fun c_159 => ?_) (fun c_159 => ?_)
                  · have c_159 : 11 < (f1 f (pa (Int32.toNatClampNeg i2_1))) := of_decide_eq_true c_159
                    exact J_277  (fun h => by have q := i_lt c_159; rcases h with h | h <;> (rw [h] at q; exact absurd q (by decide)))
                  · have c_159 : ¬ (11 < (f1 f (pa (Int32.toNatClampNeg i2_1)))) := of_decide_eq_false c_159
                    have h9 := (⟨by have q := i_nlt c_153; have : (9 : Int32).toInt = 9 := rfl; omega, by have q := i_nlt c_159; have : (11 : Int32).toInt = 11 := rfl; omega⟩ : t9 (f1 f (pa (Int32.toNatClampNeg i2_1))))
                    have hi9 := hix.2.2.1 h9
                    have hyA := hP.y hi9.2.2.2.1
                    have hyB := hP.y hi9.2.2.2.2
                    refine ml_blk 3 (S' := (165, [(0, .ref m0), (1, .int i2_1), (2, .int (pa (Int32.toNatClampNeg i2_1))), (3, .int (f1 f (pa (Int32.toNatClampNeg i2_1))))], [.ref m0, .ref m0, .ref m0], M)) rfl ?_
                    refine ml_blk 2 (S' := (167, [(0, .ref m0), (1, .int i2_1), (2, .int (pa (Int32.toNatClampNeg i2_1))), (3, .int (f1 f (pa (Int32.toNatClampNeg i2_1))))], [.int 3, .int i2_1, .ref m0, .ref m0, .ref m0], M)) rfl ?_
                    refine ml_call (a := [.ref m0, .int i2_1, .int 3]) (rest := [.ref m0, .ref m0]) rfl (hR.okc rfl rfl rfl) rfl rfl (rm_index hR hF hP ((hP.tg htg (t9_n0 h9)).1) ((hP.tg htg (t9_n0 h9)).2.1) ((hP.tg htg (t9_n0 h9)).2.2.1) (by decide) (by have q := (hP.tg htg (t9_n0 h9)).2.2.2.2; rw [show esz _ = 5 from esz_9 h9] at q; have : (3 : Int32).toInt = 3 := rfl; omega) (by omega)) (fun v127 M128 h129 => ?_)
                    obtain ⟨rfl, h129⟩ := h129
                    rw [h129]
                    show ml _ _ _ (170, [(0, .ref m0), (1, .int i2_1), (2, .int (pa (Int32.toNatClampNeg i2_1))), (3, .int (f1 f (pa (Int32.toNatClampNeg i2_1))))], [.int (ixf f pa i2_1 3), .ref m0, .ref m0], M) _
                    refine ml_st (S' := (171, [(0, .ref m0), (1, .int i2_1), (2, .int (pa (Int32.toNatClampNeg i2_1))), (3, .int (f1 f (pa (Int32.toNatClampNeg i2_1))))], [.int 1, .int (ixf f pa i2_1 3), .ref m0, .ref m0], M)) rfl rfl rfl ?_
                    refine ml_call (a := [.ref m0, .int (ixf f pa i2_1 3), .int 1]) (rest := [.ref m0]) rfl (hR.okc rfl rfl rfl) rfl rfl (rm_index hR hF hP ((hP.tg hi9.2.2.1 (by decide)).1) ((hP.tg hi9.2.2.1 (by decide)).2.1) ((hP.tg hi9.2.2.1 (by decide)).2.2.1) (by decide) (by have q := (hP.tg hi9.2.2.1 (by decide)).2.2.2.2; rw [show esz _ = 5 from rfl] at q; have : (1 : Int32).toInt = 1 := rfl; omega) (by omega)) (fun v130 M131 h132 => ?_)
                    obtain ⟨rfl, h132⟩ := h132
                    rw [h132]
                    show ml _ _ _ (174, [(0, .ref m0), (1, .int i2_1), (2, .int (pa (Int32.toNatClampNeg i2_1))), (3, .int (f1 f (pa (Int32.toNatClampNeg i2_1))))], [.int (ixf f pa (ixf f pa i2_1 3) 1), .ref m0], M) _
                    refine ml_call (a := [.ref m0, .int (ixf f pa (ixf f pa i2_1 3) 1)]) (rest := []) rfl (hR.okc rfl rfl rfl) rfl rfl (rm_symOf hR hP (hi9.2.2.2.1) (by omega)) (fun v133 M134 h135 => ?_)
                    obtain ⟨rfl, h135⟩ := h135
                    rw [h135]
                    show ml _ _ _ (177, [(0, .ref m0), (1, .int i2_1), (2, .int (pa (Int32.toNatClampNeg i2_1))), (3, .int (f1 f (pa (Int32.toNatClampNeg i2_1))))], [.int (pyf py (ixf f pa (ixf f pa i2_1 3) 1))], M) _
                    refine ml_st (S' := (179, [(4, .int (pyf py (ixf f pa (ixf f pa i2_1 3) 1))), (0, .ref m0), (1, .int i2_1), (2, .int (pa (Int32.toNatClampNeg i2_1))), (3, .int (f1 f (pa (Int32.toNatClampNeg i2_1))))], [], M)) rfl rfl rfl ?_
                    refine ml_blk 3 (S' := (182, [(4, .int (pyf py (ixf f pa (ixf f pa i2_1 3) 1))), (0, .ref m0), (1, .int i2_1), (2, .int (pa (Int32.toNatClampNeg i2_1))), (3, .int (f1 f (pa (Int32.toNatClampNeg i2_1))))], [.ref m0, .ref m0, .ref m0], M)) rfl ?_
                    refine ml_blk 2 (S' := (184, [(4, .int (pyf py (ixf f pa (ixf f pa i2_1 3) 1))), (0, .ref m0), (1, .int i2_1), (2, .int (pa (Int32.toNatClampNeg i2_1))), (3, .int (f1 f (pa (Int32.toNatClampNeg i2_1))))], [.int 3, .int i2_1, .ref m0, .ref m0, .ref m0], M)) rfl ?_
                    refine ml_call (a := [.ref m0, .int i2_1, .int 3]) (rest := [.ref m0, .ref m0]) rfl (hR.okc rfl rfl rfl) rfl rfl (rm_index hR hF hP ((hP.tg htg (t9_n0 h9)).1) ((hP.tg htg (t9_n0 h9)).2.1) ((hP.tg htg (t9_n0 h9)).2.2.1) (by decide) (by have q := (hP.tg htg (t9_n0 h9)).2.2.2.2; rw [show esz _ = 5 from esz_9 h9] at q; have : (3 : Int32).toInt = 3 := rfl; omega) (by omega)) (fun v136 M137 h138 => ?_)
                    obtain ⟨rfl, h138⟩ := h138
                    rw [h138]
                    show ml _ _ _ (187, [(4, .int (pyf py (ixf f pa (ixf f pa i2_1 3) 1))), (0, .ref m0), (1, .int i2_1), (2, .int (pa (Int32.toNatClampNeg i2_1))), (3, .int (f1 f (pa (Int32.toNatClampNeg i2_1))))], [.int (ixf f pa i2_1 3), .ref m0, .ref m0], M) _
                    refine ml_st (S' := (188, [(4, .int (pyf py (ixf f pa (ixf f pa i2_1 3) 1))), (0, .ref m0), (1, .int i2_1), (2, .int (pa (Int32.toNatClampNeg i2_1))), (3, .int (f1 f (pa (Int32.toNatClampNeg i2_1))))], [.int 3, .int (ixf f pa i2_1 3), .ref m0, .ref m0], M)) rfl rfl rfl ?_
                    refine ml_call (a := [.ref m0, .int (ixf f pa i2_1 3), .int 3]) (rest := [.ref m0]) rfl (hR.okc rfl rfl rfl) rfl rfl (rm_index hR hF hP ((hP.tg hi9.2.2.1 (by decide)).1) ((hP.tg hi9.2.2.1 (by decide)).2.1) ((hP.tg hi9.2.2.1 (by decide)).2.2.1) (by decide) (by have q := (hP.tg hi9.2.2.1 (by decide)).2.2.2.2; rw [show esz _ = 5 from rfl] at q; have : (3 : Int32).toInt = 3 := rfl; omega) (by omega)) (fun v139 M140 h141 => ?_)
                    obtain ⟨rfl, h141⟩ := h141
                    rw [h141]
                    show ml _ _ _ (191, [(4, .int (pyf py (ixf f pa (ixf f pa i2_1 3) 1))), (0, .ref m0), (1, .int i2_1), (2, .int (pa (Int32.toNatClampNeg i2_1))), (3, .int (f1 f (pa (Int32.toNatClampNeg i2_1))))], [.int (ixf f pa (ixf f pa i2_1 3) 3), .ref m0], M) _
                    refine ml_call (a := [.ref m0, .int (ixf f pa (ixf f pa i2_1 3) 3)]) (rest := []) rfl (hR.okc rfl rfl rfl) rfl rfl (rm_symOf hR hP (hi9.2.2.2.2) (by omega)) (fun v142 M143 h144 => ?_)
                    obtain ⟨rfl, h144⟩ := h144
                    rw [h144]
                    show ml _ _ _ (194, [(4, .int (pyf py (ixf f pa (ixf f pa i2_1 3) 1))), (0, .ref m0), (1, .int i2_1), (2, .int (pa (Int32.toNatClampNeg i2_1))), (3, .int (f1 f (pa (Int32.toNatClampNeg i2_1))))], [.int (pyf py (ixf f pa (ixf f pa i2_1 3) 3))], M) _
                    refine ml_st (S' := (196, [(5, .int (pyf py (ixf f pa (ixf f pa i2_1 3) 3))), (4, .int (pyf py (ixf f pa (ixf f pa i2_1 3) 1))), (0, .ref m0), (1, .int i2_1), (2, .int (pa (Int32.toNatClampNeg i2_1))), (3, .int (f1 f (pa (Int32.toNatClampNeg i2_1))))], [], M)) rfl rfl rfl ?_
                    refine ml_blk 2 (S' := (199, [(5, .int (pyf py (ixf f pa (ixf f pa i2_1 3) 3))), (4, .int (pyf py (ixf f pa (ixf f pa i2_1 3) 1))), (0, .ref m0), (1, .int i2_1), (2, .int (pa (Int32.toNatClampNeg i2_1))), (3, .int (f1 f (pa (Int32.toNatClampNeg i2_1))))], [.int (pyf py (ixf f pa (ixf f pa i2_1 3) 1)), .ref m0], M)) rfl ?_
                    refine ml_call (a := [.ref m0, .int (pyf py (ixf f pa (ixf f pa i2_1 3) 1))]) (rest := []) rfl (hR.okc rfl rfl rfl) rfl rfl (rm_angles hR hY (hyA.2.2.1) (hyA.2.2.2) (by omega)) (fun v145 M146 h147 => ?_)
                    obtain ⟨⟨u148, rfl, z149⟩, h147⟩ := h147
                    rw [h147]
                    show ml _ _ _ (202, [(5, .int (pyf py (ixf f pa (ixf f pa i2_1 3) 3))), (4, .int (pyf py (ixf f pa (ixf f pa i2_1 3) 1))), (0, .ref m0), (1, .int i2_1), (2, .int (pa (Int32.toNatClampNeg i2_1))), (3, .int (f1 f (pa (Int32.toNatClampNeg i2_1))))], [.int u148], M) _
                    refine ml_st (S' := (204, [(6, .int u148), (5, .int (pyf py (ixf f pa (ixf f pa i2_1 3) 3))), (4, .int (pyf py (ixf f pa (ixf f pa i2_1 3) 1))), (0, .ref m0), (1, .int i2_1), (2, .int (pa (Int32.toNatClampNeg i2_1))), (3, .int (f1 f (pa (Int32.toNatClampNeg i2_1))))], [], M)) rfl rfl rfl ?_
                    refine ml_blk 2 (S' := (207, [(6, .int u148), (5, .int (pyf py (ixf f pa (ixf f pa i2_1 3) 3))), (4, .int (pyf py (ixf f pa (ixf f pa i2_1 3) 1))), (0, .ref m0), (1, .int i2_1), (2, .int (pa (Int32.toNatClampNeg i2_1))), (3, .int (f1 f (pa (Int32.toNatClampNeg i2_1))))], [.int 9, .int (f1 f (pa (Int32.toNatClampNeg i2_1)))], M)) rfl ?_
                    have J_262 : ∀ (s262_0 : Int32), (s262_0 = 0 ∨ ((f1 f (pa (Int32.toNatClampNeg i2_1))) = 10 ∨ (f1 f (pa (Int32.toNatClampNeg i2_1))) = 11 → MTX sa sl ch (pyf py (ixf f pa (ixf f pa i2_1 3) 3)))) → ml (mT g) d (mb_192 g).2 (262, [(0, .ref m0), (1, .int i2_1), (2, .int (pa (Int32.toNatClampNeg i2_1))), (3, .int (f1 f (pa (Int32.toNatClampNeg i2_1))))], [.int s262_0], M) (fun v M' => ∃ (x : Int32) (I' : rI) (R' : rR), v = some (.int x) ∧ RS g m0 q z I' R' M' ∧ eqI [47, 48] I I' ∧ eqR [] R R' ∧ (x = 0 ∨ x = 1) ∧ (x = 0 ∨ EK f cp pa py sa sl ch)) := by
                      intro s262_0 hj_262
                      refine ml_st (S' := (264, [(7, .int s262_0), (0, .ref m0), (1, .int i2_1), (2, .int (pa (Int32.toNatClampNeg i2_1))), (3, .int (f1 f (pa (Int32.toNatClampNeg i2_1))))], [], M)) rfl rfl rfl ?_
                      refine ml_st (S' := (266, [(7, .int s262_0), (0, .ref m0), (1, .int i2_1), (2, .int (pa (Int32.toNatClampNeg i2_1))), (3, .int (f1 f (pa (Int32.toNatClampNeg i2_1))))], [.int s262_0], M)) rfl rfl rfl ?_
                      refine ml_if (S1 := (277, [(0, .ref m0), (1, .int i2_1), (2, .int (pa (Int32.toNatClampNeg i2_1))), (3, .int (f1 f (pa (Int32.toNatClampNeg i2_1))))], [], M)) (S2 := (269, [(7, .int s262_0), (0, .ref m0), (1, .int i2_1), (2, .int (pa (Int32.toNatClampNeg i2_1))), (3, .int (f1 f (pa (Int32.toNatClampNeg i2_1))))], [], M)) rfl rfl rfl (fun c_266 => ?_) (fun c_266 => ?_)
                      · have c_266 : ¬ s262_0 = 0 := of_decide_eq_true c_266
                        exact J_277  (hj_262.resolve_left c_266)
                      · have c_266 : ¬ (¬ s262_0 = 0) := of_decide_eq_false c_266
                        refine ml_blk 3 (S' := (273, [(7, .int s262_0), (0, .ref m0), (1, .int i2_1), (2, .int (pa (Int32.toNatClampNeg i2_1))), (3, .int (f1 f (pa (Int32.toNatClampNeg i2_1))))], [.int (pa (Int32.toNatClampNeg i2_1)), .int 12, .ref m0], M)) rfl ?_
                        refine ml_call (a := [.ref m0, .int 12, .int (pa (Int32.toNatClampNeg i2_1))]) (rest := []) rfl (hR.okc rfl rfl rfl) rfl rfl (rm_wrong hR (by omega)) (fun v150 M151 h152 => ?_)
                        obtain ⟨u158, I153, R154, rfl, hR155, hI156, hV157, z159, w160⟩ := h152
                        show ml _ _ _ (276, [(7, .int s262_0), (0, .ref m0), (1, .int i2_1), (2, .int (pa (Int32.toNatClampNeg i2_1))), (3, .int (f1 f (pa (Int32.toNatClampNeg i2_1))))], [.int u158], M151) _
                        exact ml_ret rfl (r_z (z159)) (⟨_, _, _, rfl, hR155, (eqI.rf.tr hI156 (by decide)), (eqR.rf.tr hV157 (by decide)), z159, Or.inl w160⟩)
                    refine ml_if2 (S1 := (219, [(6, .int u148), (5, .int (pyf py (ixf f pa (ixf f pa i2_1 3) 3))), (4, .int (pyf py (ixf f pa (ixf f pa i2_1 3) 1))), (0, .ref m0), (1, .int i2_1), (2, .int (pa (Int32.toNatClampNeg i2_1))), (3, .int (f1 f (pa (Int32.toNatClampNeg i2_1))))], [], M)) (S2 := (210, [(6, .int u148), (5, .int (pyf py (ixf f pa (ixf f pa i2_1 3) 3))), (4, .int (pyf py (ixf f pa (ixf f pa i2_1 3) 1))), (0, .ref m0), (1, .int i2_1), (2, .int (pa (Int32.toNatClampNeg i2_1))), (3, .int (f1 f (pa (Int32.toNatClampNeg i2_1))))], [], M)) rfl rfl rfl (fun c_207 => ?_) (fun c_207 => ?_)
                    · have c_207 : ¬ (f1 f (pa (Int32.toNatClampNeg i2_1))) = 9 := of_decide_eq_true c_207
                      refine ml_blk 2 (S' := (222, [(6, .int u148), (5, .int (pyf py (ixf f pa (ixf f pa i2_1 3) 3))), (4, .int (pyf py (ixf f pa (ixf f pa i2_1 3) 1))), (0, .ref m0), (1, .int i2_1), (2, .int (pa (Int32.toNatClampNeg i2_1))), (3, .int (f1 f (pa (Int32.toNatClampNeg i2_1))))], [.int (pyf py (ixf f pa (ixf f pa i2_1 3) 3)), .ref m0], M)) rfl ?_
                      refine ml_call (a := [.ref m0, .int (pyf py (ixf f pa (ixf f pa i2_1 3) 3))]) (rest := []) rfl (hR.okc rfl rfl rfl) rfl rfl (rm_isMethod hR hY (hyB.2.2.1) (hyB.2.2.2) (by omega)) (fun v161 M162 h163 => ?_)
                      obtain ⟨⟨u164, rfl, z165, w166⟩, h163⟩ := h163
                      rw [h163]
                      show ml _ _ _ (225, [(6, .int u148), (5, .int (pyf py (ixf f pa (ixf f pa i2_1 3) 3))), (4, .int (pyf py (ixf f pa (ixf f pa i2_1 3) 1))), (0, .ref m0), (1, .int i2_1), (2, .int (pa (Int32.toNatClampNeg i2_1))), (3, .int (f1 f (pa (Int32.toNatClampNeg i2_1))))], [.int u164], M) _
                      refine ml_if (S1 := (261, [(0, .ref m0), (1, .int i2_1), (2, .int (pa (Int32.toNatClampNeg i2_1))), (3, .int (f1 f (pa (Int32.toNatClampNeg i2_1))))], [], M)) (S2 := (228, [(6, .int u148), (5, .int (pyf py (ixf f pa (ixf f pa i2_1 3) 3))), (4, .int (pyf py (ixf f pa (ixf f pa i2_1 3) 1))), (0, .ref m0), (1, .int i2_1), (2, .int (pa (Int32.toNatClampNeg i2_1))), (3, .int (f1 f (pa (Int32.toNatClampNeg i2_1))))], [], M)) rfl rfl rfl (fun c_225 => ?_) (fun c_225 => ?_)
                      · have c_225 : u164 = 0 := of_decide_eq_true c_225
                        refine ml_st (S' := (262, [(0, .ref m0), (1, .int i2_1), (2, .int (pa (Int32.toNatClampNeg i2_1))), (3, .int (f1 f (pa (Int32.toNatClampNeg i2_1))))], [.int 0], M)) rfl rfl rfl ?_
                        exact J_262 0 (Or.inl rfl)
                      · have c_225 : ¬ (u164 = 0) := of_decide_eq_false c_225
                        refine ml_st (S' := (230, [(6, .int u148), (5, .int (pyf py (ixf f pa (ixf f pa i2_1 3) 3))), (4, .int (pyf py (ixf f pa (ixf f pa i2_1 3) 1))), (0, .ref m0), (1, .int i2_1), (2, .int (pa (Int32.toNatClampNeg i2_1))), (3, .int (f1 f (pa (Int32.toNatClampNeg i2_1))))], [.int u148], M)) rfl rfl rfl ?_
                        refine ml_if (S1 := (257, [(0, .ref m0), (1, .int i2_1), (2, .int (pa (Int32.toNatClampNeg i2_1))), (3, .int (f1 f (pa (Int32.toNatClampNeg i2_1))))], [], M)) (S2 := (233, [(6, .int u148), (5, .int (pyf py (ixf f pa (ixf f pa i2_1 3) 3))), (4, .int (pyf py (ixf f pa (ixf f pa i2_1 3) 1))), (0, .ref m0), (1, .int i2_1), (2, .int (pa (Int32.toNatClampNeg i2_1))), (3, .int (f1 f (pa (Int32.toNatClampNeg i2_1))))], [], M)) rfl rfl rfl (fun c_230 => ?_) (fun c_230 => ?_)
                        · have c_230 : u148 = 0 := of_decide_eq_true c_230
                          refine ml_st (S' := (258, [(0, .ref m0), (1, .int i2_1), (2, .int (pa (Int32.toNatClampNeg i2_1))), (3, .int (f1 f (pa (Int32.toNatClampNeg i2_1))))], [.int 1], M)) rfl rfl rfl ?_
                          refine ml_st (S' := (262, [(0, .ref m0), (1, .int i2_1), (2, .int (pa (Int32.toNatClampNeg i2_1))), (3, .int (f1 f (pa (Int32.toNatClampNeg i2_1))))], [.int 1], M)) rfl rfl rfl ?_
                          exact J_262 1 (Or.inr (fun _ => w166.resolve_left c_225))
                        · have c_230 : ¬ (u148 = 0) := of_decide_eq_false c_230
                          refine ml_blk 2 (S' := (236, [(6, .int u148), (5, .int (pyf py (ixf f pa (ixf f pa i2_1 3) 3))), (4, .int (pyf py (ixf f pa (ixf f pa i2_1 3) 1))), (0, .ref m0), (1, .int i2_1), (2, .int (pa (Int32.toNatClampNeg i2_1))), (3, .int (f1 f (pa (Int32.toNatClampNeg i2_1))))], [.int 10, .int (f1 f (pa (Int32.toNatClampNeg i2_1)))], M)) rfl ?_
                          refine ml_if2 (S1 := (261, [(0, .ref m0), (1, .int i2_1), (2, .int (pa (Int32.toNatClampNeg i2_1))), (3, .int (f1 f (pa (Int32.toNatClampNeg i2_1))))], [], M)) (S2 := (239, [(6, .int u148), (5, .int (pyf py (ixf f pa (ixf f pa i2_1 3) 3))), (4, .int (pyf py (ixf f pa (ixf f pa i2_1 3) 1))), (0, .ref m0), (1, .int i2_1), (2, .int (pa (Int32.toNatClampNeg i2_1))), (3, .int (f1 f (pa (Int32.toNatClampNeg i2_1))))], [], M)) rfl rfl rfl (fun c_236 => ?_) (fun c_236 => ?_)
                          · have c_236 : ¬ (f1 f (pa (Int32.toNatClampNeg i2_1))) = 10 := of_decide_eq_true c_236
                            refine ml_st (S' := (262, [(0, .ref m0), (1, .int i2_1), (2, .int (pa (Int32.toNatClampNeg i2_1))), (3, .int (f1 f (pa (Int32.toNatClampNeg i2_1))))], [.int 0], M)) rfl rfl rfl ?_
                            exact J_262 0 (Or.inl rfl)
                          · have c_236 : ¬ (¬ (f1 f (pa (Int32.toNatClampNeg i2_1))) = 10) := of_decide_eq_false c_236
                            refine ml_blk 2 (S' := (242, [(6, .int u148), (5, .int (pyf py (ixf f pa (ixf f pa i2_1 3) 3))), (4, .int (pyf py (ixf f pa (ixf f pa i2_1 3) 1))), (0, .ref m0), (1, .int i2_1), (2, .int (pa (Int32.toNatClampNeg i2_1))), (3, .int (f1 f (pa (Int32.toNatClampNeg i2_1))))], [.ref m0, .int (pyf py (ixf f pa (ixf f pa i2_1 3) 1))], M)) rfl ?_
                            refine rg_int (S' := (245, [(6, .int u148), (5, .int (pyf py (ixf f pa (ixf f pa i2_1 3) 3))), (4, .int (pyf py (ixf f pa (ixf f pa i2_1 3) 1))), (0, .ref m0), (1, .int i2_1), (2, .int (pa (Int32.toNatClampNeg i2_1))), (3, .int (f1 f (pa (Int32.toNatClampNeg i2_1))))], [.int si, .int (pyf py (ixf f pa (ixf f pa i2_1 3) 1))], M)) rfl hR rfl (hk9) rfl ?_
                            refine ml_if2 (S1 := (261, [(0, .ref m0), (1, .int i2_1), (2, .int (pa (Int32.toNatClampNeg i2_1))), (3, .int (f1 f (pa (Int32.toNatClampNeg i2_1))))], [], M)) (S2 := (248, [(6, .int u148), (5, .int (pyf py (ixf f pa (ixf f pa i2_1 3) 3))), (4, .int (pyf py (ixf f pa (ixf f pa i2_1 3) 1))), (0, .ref m0), (1, .int i2_1), (2, .int (pa (Int32.toNatClampNeg i2_1))), (3, .int (f1 f (pa (Int32.toNatClampNeg i2_1))))], [], M)) rfl rfl rfl (fun c_245 => ?_) (fun c_245 => ?_)
                            · have c_245 : ¬ (pyf py (ixf f pa (ixf f pa i2_1 3) 1)) = si := of_decide_eq_true c_245
                              refine ml_st (S' := (262, [(0, .ref m0), (1, .int i2_1), (2, .int (pa (Int32.toNatClampNeg i2_1))), (3, .int (f1 f (pa (Int32.toNatClampNeg i2_1))))], [.int 0], M)) rfl rfl rfl ?_
                              exact J_262 0 (Or.inl rfl)
                            · have c_245 : ¬ (¬ (pyf py (ixf f pa (ixf f pa i2_1 3) 1)) = si) := of_decide_eq_false c_245
                              refine ml_blk 2 (S' := (251, [(6, .int u148), (5, .int (pyf py (ixf f pa (ixf f pa i2_1 3) 3))), (4, .int (pyf py (ixf f pa (ixf f pa i2_1 3) 1))), (0, .ref m0), (1, .int i2_1), (2, .int (pa (Int32.toNatClampNeg i2_1))), (3, .int (f1 f (pa (Int32.toNatClampNeg i2_1))))], [.int (pyf py (ixf f pa (ixf f pa i2_1 3) 3)), .ref m0], M)) rfl ?_
                              refine ml_call (a := [.ref m0, .int (pyf py (ixf f pa (ixf f pa i2_1 3) 3))]) (rest := []) rfl (hR.okc rfl rfl rfl) rfl rfl (rm_endsV hR hY (hyB.2.2.1) (hyB.2.2.2) (by have q := (w166.resolve_left c_225).2; omega) (by omega)) (fun v167 M168 h169 => ?_)
                              obtain ⟨⟨u170, rfl, z171⟩, h169⟩ := h169
                              rw [h169]
                              show ml _ _ _ (254, [(6, .int u148), (5, .int (pyf py (ixf f pa (ixf f pa i2_1 3) 3))), (4, .int (pyf py (ixf f pa (ixf f pa i2_1 3) 1))), (0, .ref m0), (1, .int i2_1), (2, .int (pa (Int32.toNatClampNeg i2_1))), (3, .int (f1 f (pa (Int32.toNatClampNeg i2_1))))], [.int u170], M) _
                              refine ml_if (S1 := (261, [(0, .ref m0), (1, .int i2_1), (2, .int (pa (Int32.toNatClampNeg i2_1))), (3, .int (f1 f (pa (Int32.toNatClampNeg i2_1))))], [], M)) (S2 := (257, [(0, .ref m0), (1, .int i2_1), (2, .int (pa (Int32.toNatClampNeg i2_1))), (3, .int (f1 f (pa (Int32.toNatClampNeg i2_1))))], [], M)) rfl rfl rfl (fun c_254 => ?_) (fun c_254 => ?_)
                              · have c_254 : u170 = 0 := of_decide_eq_true c_254
                                refine ml_st (S' := (262, [(0, .ref m0), (1, .int i2_1), (2, .int (pa (Int32.toNatClampNeg i2_1))), (3, .int (f1 f (pa (Int32.toNatClampNeg i2_1))))], [.int 0], M)) rfl rfl rfl ?_
                                exact J_262 0 (Or.inl rfl)
                              · have c_254 : ¬ (u170 = 0) := of_decide_eq_false c_254
                                refine ml_st (S' := (258, [(0, .ref m0), (1, .int i2_1), (2, .int (pa (Int32.toNatClampNeg i2_1))), (3, .int (f1 f (pa (Int32.toNatClampNeg i2_1))))], [.int 1], M)) rfl rfl rfl ?_
                                refine ml_st (S' := (262, [(0, .ref m0), (1, .int i2_1), (2, .int (pa (Int32.toNatClampNeg i2_1))), (3, .int (f1 f (pa (Int32.toNatClampNeg i2_1))))], [.int 1], M)) rfl rfl rfl ?_
                                exact J_262 1 (Or.inr (fun _ => w166.resolve_left c_225))
                    · have c_207 : ¬ (¬ (f1 f (pa (Int32.toNatClampNeg i2_1))) = 9) := of_decide_eq_false c_207
                      refine ml_blk 2 (S' := (213, [(6, .int u148), (5, .int (pyf py (ixf f pa (ixf f pa i2_1 3) 3))), (4, .int (pyf py (ixf f pa (ixf f pa i2_1 3) 1))), (0, .ref m0), (1, .int i2_1), (2, .int (pa (Int32.toNatClampNeg i2_1))), (3, .int (f1 f (pa (Int32.toNatClampNeg i2_1))))], [.int (pyf py (ixf f pa (ixf f pa i2_1 3) 3)), .ref m0], M)) rfl ?_
                      refine ml_call (a := [.ref m0, .int (pyf py (ixf f pa (ixf f pa i2_1 3) 3))]) (rest := []) rfl (hR.okc rfl rfl rfl) rfl rfl (rm_isField hR hY (hyB.2.2.1) (hyB.2.2.2) (by omega)) (fun v172 M173 h174 => ?_)
                      obtain ⟨⟨u175, rfl, z176, w177⟩, h174⟩ := h174
                      rw [h174]
                      show ml _ _ _ (216, [(6, .int u148), (5, .int (pyf py (ixf f pa (ixf f pa i2_1 3) 3))), (4, .int (pyf py (ixf f pa (ixf f pa i2_1 3) 1))), (0, .ref m0), (1, .int i2_1), (2, .int (pa (Int32.toNatClampNeg i2_1))), (3, .int (f1 f (pa (Int32.toNatClampNeg i2_1))))], [.int u175], M) _
                      refine ml_st (S' := (262, [(0, .ref m0), (1, .int i2_1), (2, .int (pa (Int32.toNatClampNeg i2_1))), (3, .int (f1 f (pa (Int32.toNatClampNeg i2_1))))], [.int u175], M)) rfl rfl rfl ?_
                      exact J_262 u175 (Or.inr (fun h => by rcases h with h | h <;> exact absurd ((Decidable.not_not.mp c_207).symm.trans h) (by decide)))
              refine ml_if2 (S1 := (150, [(0, .ref m0), (1, .int i2_1), (2, .int (pa (Int32.toNatClampNeg i2_1))), (3, .int (f1 f (pa (Int32.toNatClampNeg i2_1))))], [], M)) (S2 := (90, [(0, .ref m0), (1, .int i2_1), (2, .int (pa (Int32.toNatClampNeg i2_1))), (3, .int (f1 f (pa (Int32.toNatClampNeg i2_1))))], [], M)) rfl rfl rfl (fun c_87 => ?_) (fun c_87 => ?_)
              · have c_87 : ¬ (f1 f (pa (Int32.toNatClampNeg i2_1))) = 12 := of_decide_eq_true c_87
                exact J_150 
              · have c_87 : ¬ (¬ (f1 f (pa (Int32.toNatClampNeg i2_1))) = 12) := of_decide_eq_false c_87
                have hi12 := hix.2.1 (Decidable.not_not.mp c_87)
                have hyA := hP.y hi12.1
                have hyB := hP.y hi12.2
                refine ml_blk 3 (S' := (93, [(0, .ref m0), (1, .int i2_1), (2, .int (pa (Int32.toNatClampNeg i2_1))), (3, .int (f1 f (pa (Int32.toNatClampNeg i2_1))))], [.ref m0, .ref m0, .ref m0], M)) rfl ?_
                refine ml_blk 2 (S' := (95, [(0, .ref m0), (1, .int i2_1), (2, .int (pa (Int32.toNatClampNeg i2_1))), (3, .int (f1 f (pa (Int32.toNatClampNeg i2_1))))], [.int 1, .int i2_1, .ref m0, .ref m0, .ref m0], M)) rfl ?_
                refine ml_call (a := [.ref m0, .int i2_1, .int 1]) (rest := [.ref m0, .ref m0]) rfl (hR.okc rfl rfl rfl) rfl rfl (rm_index hR hF hP ((hP.tg (htg.trans (Decidable.not_not.mp c_87)) (by decide)).1) ((hP.tg (htg.trans (Decidable.not_not.mp c_87)) (by decide)).2.1) ((hP.tg (htg.trans (Decidable.not_not.mp c_87)) (by decide)).2.2.1) (by decide) (by have q := (hP.tg (htg.trans (Decidable.not_not.mp c_87)) (by decide)).2.2.2.2; rw [show esz _ = 5 from rfl] at q; have : (1 : Int32).toInt = 1 := rfl; omega) (by omega)) (fun v178 M179 h180 => ?_)
                obtain ⟨rfl, h180⟩ := h180
                rw [h180]
                show ml _ _ _ (98, [(0, .ref m0), (1, .int i2_1), (2, .int (pa (Int32.toNatClampNeg i2_1))), (3, .int (f1 f (pa (Int32.toNatClampNeg i2_1))))], [.int (ixf f pa i2_1 1), .ref m0, .ref m0], M) _
                refine ml_call (a := [.ref m0, .int (ixf f pa i2_1 1)]) (rest := [.ref m0]) rfl (hR.okc rfl rfl rfl) rfl rfl (rm_symOf hR hP (hi12.1) (by omega)) (fun v181 M182 h183 => ?_)
                obtain ⟨rfl, h183⟩ := h183
                rw [h183]
                show ml _ _ _ (101, [(0, .ref m0), (1, .int i2_1), (2, .int (pa (Int32.toNatClampNeg i2_1))), (3, .int (f1 f (pa (Int32.toNatClampNeg i2_1))))], [.int (pyf py (ixf f pa i2_1 1)), .ref m0], M) _
                refine ml_st (S' := (102, [(0, .ref m0), (1, .int i2_1), (2, .int (pa (Int32.toNatClampNeg i2_1))), (3, .int (f1 f (pa (Int32.toNatClampNeg i2_1))))], [.int 1, .int (pyf py (ixf f pa i2_1 1)), .ref m0], M)) rfl rfl rfl ?_
                refine ml_call (a := [.ref m0, .int (pyf py (ixf f pa i2_1 1)), .int 1]) (rest := []) rfl (hR.okc rfl rfl rfl) rfl rfl (rm_unqualified hR hY (hyA.2.2.1) (hyA.2.2.2) (by omega)) (fun v184 M185 h186 => ?_)
                obtain ⟨⟨u187, rfl, z188⟩, h186⟩ := h186
                rw [h186]
                show ml _ _ _ (105, [(0, .ref m0), (1, .int i2_1), (2, .int (pa (Int32.toNatClampNeg i2_1))), (3, .int (f1 f (pa (Int32.toNatClampNeg i2_1))))], [.int u187], M) _
                refine ml_if (S1 := (142, [(0, .ref m0), (2, .int (pa (Int32.toNatClampNeg i2_1)))], [], M)) (S2 := (108, [(0, .ref m0), (1, .int i2_1), (2, .int (pa (Int32.toNatClampNeg i2_1))), (3, .int (f1 f (pa (Int32.toNatClampNeg i2_1))))], [], M)) rfl rfl rfl (fun c_105 => ?_) (fun c_105 => ?_)
                · have c_105 : u187 = 0 := of_decide_eq_true c_105
                  refine ml_blk 3 (S' := (146, [(0, .ref m0), (2, .int (pa (Int32.toNatClampNeg i2_1)))], [.int (pa (Int32.toNatClampNeg i2_1)), .int 11, .ref m0], M)) rfl ?_
                  refine ml_call (a := [.ref m0, .int 11, .int (pa (Int32.toNatClampNeg i2_1))]) (rest := []) rfl (hR.okc rfl rfl rfl) rfl rfl (rm_wrong hR (by omega)) (fun v189 M190 h191 => ?_)
                  obtain ⟨u197, I192, R193, rfl, hR194, hI195, hV196, z198, w199⟩ := h191
                  show ml _ _ _ (149, [(0, .ref m0), (2, .int (pa (Int32.toNatClampNeg i2_1)))], [.int u197], M190) _
                  exact ml_ret rfl (r_z (z198)) (⟨_, _, _, rfl, hR194, (eqI.rf.tr hI195 (by decide)), (eqR.rf.tr hV196 (by decide)), z198, Or.inl w199⟩)
                · have c_105 : ¬ (u187 = 0) := of_decide_eq_false c_105
                  refine ml_blk 3 (S' := (111, [(0, .ref m0), (1, .int i2_1), (2, .int (pa (Int32.toNatClampNeg i2_1))), (3, .int (f1 f (pa (Int32.toNatClampNeg i2_1))))], [.ref m0, .ref m0, .ref m0], M)) rfl ?_
                  refine ml_blk 2 (S' := (113, [(0, .ref m0), (1, .int i2_1), (2, .int (pa (Int32.toNatClampNeg i2_1))), (3, .int (f1 f (pa (Int32.toNatClampNeg i2_1))))], [.int 3, .int i2_1, .ref m0, .ref m0, .ref m0], M)) rfl ?_
                  refine ml_call (a := [.ref m0, .int i2_1, .int 3]) (rest := [.ref m0, .ref m0]) rfl (hR.okc rfl rfl rfl) rfl rfl (rm_index hR hF hP ((hP.tg (htg.trans (Decidable.not_not.mp c_87)) (by decide)).1) ((hP.tg (htg.trans (Decidable.not_not.mp c_87)) (by decide)).2.1) ((hP.tg (htg.trans (Decidable.not_not.mp c_87)) (by decide)).2.2.1) (by decide) (by have q := (hP.tg (htg.trans (Decidable.not_not.mp c_87)) (by decide)).2.2.2.2; rw [show esz _ = 5 from rfl] at q; have : (3 : Int32).toInt = 3 := rfl; omega) (by omega)) (fun v200 M201 h202 => ?_)
                  obtain ⟨rfl, h202⟩ := h202
                  rw [h202]
                  show ml _ _ _ (116, [(0, .ref m0), (1, .int i2_1), (2, .int (pa (Int32.toNatClampNeg i2_1))), (3, .int (f1 f (pa (Int32.toNatClampNeg i2_1))))], [.int (ixf f pa i2_1 3), .ref m0, .ref m0], M) _
                  refine ml_call (a := [.ref m0, .int (ixf f pa i2_1 3)]) (rest := [.ref m0]) rfl (hR.okc rfl rfl rfl) rfl rfl (rm_symOf hR hP (hi12.2) (by omega)) (fun v203 M204 h205 => ?_)
                  obtain ⟨rfl, h205⟩ := h205
                  rw [h205]
                  show ml _ _ _ (119, [(0, .ref m0), (1, .int i2_1), (2, .int (pa (Int32.toNatClampNeg i2_1))), (3, .int (f1 f (pa (Int32.toNatClampNeg i2_1))))], [.int (pyf py (ixf f pa i2_1 3)), .ref m0], M) _
                  refine ml_call (a := [.ref m0, .int (pyf py (ixf f pa i2_1 3))]) (rest := []) rfl (hR.okc rfl rfl rfl) rfl rfl (rm_isField hR hY (hyB.2.2.1) (hyB.2.2.2) (by omega)) (fun v206 M207 h208 => ?_)
                  obtain ⟨⟨u209, rfl, z210, w211⟩, h208⟩ := h208
                  rw [h208]
                  show ml _ _ _ (122, [(0, .ref m0), (1, .int i2_1), (2, .int (pa (Int32.toNatClampNeg i2_1))), (3, .int (f1 f (pa (Int32.toNatClampNeg i2_1))))], [.int u209], M) _
                  refine ml_if (S1 := (150, [(0, .ref m0), (1, .int i2_1), (2, .int (pa (Int32.toNatClampNeg i2_1))), (3, .int (f1 f (pa (Int32.toNatClampNeg i2_1))))], [], M)) (S2 := (125, [(0, .ref m0), (1, .int i2_1), (2, .int (pa (Int32.toNatClampNeg i2_1))), (3, .int (f1 f (pa (Int32.toNatClampNeg i2_1))))], [], M)) rfl rfl rfl (fun c_122 => ?_) (fun c_122 => ?_)
                  · have c_122 : ¬ u209 = 0 := of_decide_eq_true c_122
                    exact J_150 
                  · have c_122 : ¬ (¬ u209 = 0) := of_decide_eq_false c_122
                    refine ml_blk 3 (S' := (128, [(0, .ref m0), (1, .int i2_1), (2, .int (pa (Int32.toNatClampNeg i2_1))), (3, .int (f1 f (pa (Int32.toNatClampNeg i2_1))))], [.ref m0, .ref m0, .ref m0], M)) rfl ?_
                    refine ml_blk 2 (S' := (130, [(0, .ref m0), (1, .int i2_1), (2, .int (pa (Int32.toNatClampNeg i2_1))), (3, .int (f1 f (pa (Int32.toNatClampNeg i2_1))))], [.int 3, .int i2_1, .ref m0, .ref m0, .ref m0], M)) rfl ?_
                    refine ml_call (a := [.ref m0, .int i2_1, .int 3]) (rest := [.ref m0, .ref m0]) rfl (hR.okc rfl rfl rfl) rfl rfl (rm_index hR hF hP ((hP.tg (htg.trans (Decidable.not_not.mp c_87)) (by decide)).1) ((hP.tg (htg.trans (Decidable.not_not.mp c_87)) (by decide)).2.1) ((hP.tg (htg.trans (Decidable.not_not.mp c_87)) (by decide)).2.2.1) (by decide) (by have q := (hP.tg (htg.trans (Decidable.not_not.mp c_87)) (by decide)).2.2.2.2; rw [show esz _ = 5 from rfl] at q; have : (3 : Int32).toInt = 3 := rfl; omega) (by omega)) (fun v212 M213 h214 => ?_)
                    obtain ⟨rfl, h214⟩ := h214
                    rw [h214]
                    show ml _ _ _ (133, [(0, .ref m0), (1, .int i2_1), (2, .int (pa (Int32.toNatClampNeg i2_1))), (3, .int (f1 f (pa (Int32.toNatClampNeg i2_1))))], [.int (ixf f pa i2_1 3), .ref m0, .ref m0], M) _
                    refine ml_call (a := [.ref m0, .int (ixf f pa i2_1 3)]) (rest := [.ref m0]) rfl (hR.okc rfl rfl rfl) rfl rfl (rm_symOf hR hP (hi12.2) (by omega)) (fun v215 M216 h217 => ?_)
                    obtain ⟨rfl, h217⟩ := h217
                    rw [h217]
                    show ml _ _ _ (136, [(0, .ref m0), (1, .int i2_1), (2, .int (pa (Int32.toNatClampNeg i2_1))), (3, .int (f1 f (pa (Int32.toNatClampNeg i2_1))))], [.int (pyf py (ixf f pa i2_1 3)), .ref m0], M) _
                    refine ml_call (a := [.ref m0, .int (pyf py (ixf f pa i2_1 3))]) (rest := []) rfl (hR.okc rfl rfl rfl) rfl rfl (rm_isMethod hR hY (hyB.2.2.1) (hyB.2.2.2) (by omega)) (fun v218 M219 h220 => ?_)
                    obtain ⟨⟨u221, rfl, z222, w223⟩, h220⟩ := h220
                    rw [h220]
                    show ml _ _ _ (139, [(0, .ref m0), (1, .int i2_1), (2, .int (pa (Int32.toNatClampNeg i2_1))), (3, .int (f1 f (pa (Int32.toNatClampNeg i2_1))))], [.int u221], M) _
                    refine ml_if (S1 := (150, [(0, .ref m0), (1, .int i2_1), (2, .int (pa (Int32.toNatClampNeg i2_1))), (3, .int (f1 f (pa (Int32.toNatClampNeg i2_1))))], [], M)) (S2 := (142, [(0, .ref m0), (2, .int (pa (Int32.toNatClampNeg i2_1)))], [], M)) rfl rfl rfl (fun c_139 => ?_) (fun c_139 => ?_)
                    · have c_139 : ¬ u221 = 0 := of_decide_eq_true c_139
                      exact J_150 
                    · have c_139 : ¬ (¬ u221 = 0) := of_decide_eq_false c_139
                      refine ml_blk 3 (S' := (146, [(0, .ref m0), (2, .int (pa (Int32.toNatClampNeg i2_1)))], [.int (pa (Int32.toNatClampNeg i2_1)), .int 11, .ref m0], M)) rfl ?_
                      refine ml_call (a := [.ref m0, .int 11, .int (pa (Int32.toNatClampNeg i2_1))]) (rest := []) rfl (hR.okc rfl rfl rfl) rfl rfl (rm_wrong hR (by omega)) (fun v224 M225 h226 => ?_)
                      obtain ⟨u232, I227, R228, rfl, hR229, hI230, hV231, z233, w234⟩ := h226
                      show ml _ _ _ (149, [(0, .ref m0), (2, .int (pa (Int32.toNatClampNeg i2_1)))], [.int u232], M225) _
                      exact ml_ret rfl (r_z (z233)) (⟨_, _, _, rfl, hR229, (eqI.rf.tr hI230 (by decide)), (eqR.rf.tr hV231 (by decide)), z233, Or.inl w234⟩)
            refine ml_if2 (S1 := (84, [(0, .ref m0), (1, .int i2_1), (2, .int (pa (Int32.toNatClampNeg i2_1))), (3, .int (f1 f (pa (Int32.toNatClampNeg i2_1))))], [], M)) (S2 := (59, [(3, .int (f1 f (pa (Int32.toNatClampNeg i2_1)))), (2, .int (pa (Int32.toNatClampNeg i2_1))), (0, .ref m0), (1, .int i2_1)], [], M)) rfl rfl rfl (fun c_56 => ?_) (fun c_56 => ?_)
            · have c_56 : ¬ (f1 f (pa (Int32.toNatClampNeg i2_1))) = 7 := of_decide_eq_true c_56
              exact J_84  (fun e => absurd e c_56)
            · have c_56 : ¬ (¬ (f1 f (pa (Int32.toNatClampNeg i2_1))) = 7) := of_decide_eq_false c_56
              have hi7 := hix.1 (Or.inl (Decidable.not_not.mp c_56))
              have hy7 := hP.y hi7
              refine ml_blk 3 (S' := (62, [(3, .int (f1 f (pa (Int32.toNatClampNeg i2_1)))), (2, .int (pa (Int32.toNatClampNeg i2_1))), (0, .ref m0), (1, .int i2_1)], [.ref m0, .ref m0, .ref m0], M)) rfl ?_
              refine ml_blk 2 (S' := (64, [(3, .int (f1 f (pa (Int32.toNatClampNeg i2_1)))), (2, .int (pa (Int32.toNatClampNeg i2_1))), (0, .ref m0), (1, .int i2_1)], [.int 1, .int i2_1, .ref m0, .ref m0, .ref m0], M)) rfl ?_
              refine ml_call (a := [.ref m0, .int i2_1, .int 1]) (rest := [.ref m0, .ref m0]) rfl (hR.okc rfl rfl rfl) rfl rfl (rm_index hR hF hP ((hP.tg (htg.trans (Decidable.not_not.mp c_56)) (by decide)).1) ((hP.tg (htg.trans (Decidable.not_not.mp c_56)) (by decide)).2.1) ((hP.tg (htg.trans (Decidable.not_not.mp c_56)) (by decide)).2.2.1) (by decide) (by have q := (hP.tg (htg.trans (Decidable.not_not.mp c_56)) (by decide)).2.2.2.2; rw [show esz _ = 3 from rfl] at q; have : (1 : Int32).toInt = 1 := rfl; omega) (by omega)) (fun v235 M236 h237 => ?_)
              obtain ⟨rfl, h237⟩ := h237
              rw [h237]
              show ml _ _ _ (67, [(3, .int (f1 f (pa (Int32.toNatClampNeg i2_1)))), (2, .int (pa (Int32.toNatClampNeg i2_1))), (0, .ref m0), (1, .int i2_1)], [.int (ixf f pa i2_1 1), .ref m0, .ref m0], M) _
              refine ml_call (a := [.ref m0, .int (ixf f pa i2_1 1)]) (rest := [.ref m0]) rfl (hR.okc rfl rfl rfl) rfl rfl (rm_symOf hR hP (hi7) (by omega)) (fun v238 M239 h240 => ?_)
              obtain ⟨rfl, h240⟩ := h240
              rw [h240]
              show ml _ _ _ (70, [(3, .int (f1 f (pa (Int32.toNatClampNeg i2_1)))), (2, .int (pa (Int32.toNatClampNeg i2_1))), (0, .ref m0), (1, .int i2_1)], [.int (pyf py (ixf f pa i2_1 1)), .ref m0], M) _
              refine ml_call (a := [.ref m0, .int (pyf py (ixf f pa i2_1 1))]) (rest := []) rfl (hR.okc rfl rfl rfl) rfl rfl (rm_classText hR hY (hy7.2.2.1) (hy7.2.2.2) (by omega)) (fun v241 M242 h243 => ?_)
              obtain ⟨⟨u244, rfl, z245, w246⟩, h243⟩ := h243
              rw [h243]
              show ml _ _ _ (73, [(3, .int (f1 f (pa (Int32.toNatClampNeg i2_1)))), (2, .int (pa (Int32.toNatClampNeg i2_1))), (0, .ref m0), (1, .int i2_1)], [.int u244], M) _
              refine ml_if (S1 := (84, [(0, .ref m0), (1, .int i2_1), (2, .int (pa (Int32.toNatClampNeg i2_1))), (3, .int (f1 f (pa (Int32.toNatClampNeg i2_1))))], [], M)) (S2 := (76, [(3, .int (f1 f (pa (Int32.toNatClampNeg i2_1)))), (2, .int (pa (Int32.toNatClampNeg i2_1))), (0, .ref m0), (1, .int i2_1)], [], M)) rfl rfl rfl (fun c_73 => ?_) (fun c_73 => ?_)
              · have c_73 : ¬ u244 = 0 := of_decide_eq_true c_73
                exact J_84  (fun _ => w246.resolve_left c_73)
              · have c_73 : ¬ (¬ u244 = 0) := of_decide_eq_false c_73
                refine ml_blk 3 (S' := (80, [(3, .int (f1 f (pa (Int32.toNatClampNeg i2_1)))), (2, .int (pa (Int32.toNatClampNeg i2_1))), (0, .ref m0), (1, .int i2_1)], [.int (pa (Int32.toNatClampNeg i2_1)), .int 10, .ref m0], M)) rfl ?_
                refine ml_call (a := [.ref m0, .int 10, .int (pa (Int32.toNatClampNeg i2_1))]) (rest := []) rfl (hR.okc rfl rfl rfl) rfl rfl (rm_wrong hR (by omega)) (fun v247 M248 h249 => ?_)
                obtain ⟨u255, I250, R251, rfl, hR252, hI253, hV254, z256, w257⟩ := h249
                show ml _ _ _ (83, [(3, .int (f1 f (pa (Int32.toNatClampNeg i2_1)))), (2, .int (pa (Int32.toNatClampNeg i2_1))), (0, .ref m0), (1, .int i2_1)], [.int u255], M248) _
                exact ml_ret rfl (r_z (z256)) (⟨_, _, _, rfl, hR252, (eqI.rf.tr hI253 (by decide)), (eqR.rf.tr hV254 (by decide)), z256, Or.inl w257⟩)
          · have c_42 : ¬ (¬ u17 = 0) := of_decide_eq_false c_42
            refine ml_blk 3 (S' := (49, [(3, .int (f1 f (pa (Int32.toNatClampNeg i2_1)))), (2, .int (pa (Int32.toNatClampNeg i2_1))), (0, .ref m0), (1, .int i2_1)], [.int (pa (Int32.toNatClampNeg i2_1)), .int 9, .ref m0], M)) rfl ?_
            refine ml_call (a := [.ref m0, .int 9, .int (pa (Int32.toNatClampNeg i2_1))]) (rest := []) rfl (hR.okc rfl rfl rfl) rfl rfl (rm_wrong hR (by omega)) (fun v258 M259 h260 => ?_)
            obtain ⟨u266, I261, R262, rfl, hR263, hI264, hV265, z267, w268⟩ := h260
            show ml _ _ _ (52, [(3, .int (f1 f (pa (Int32.toNatClampNeg i2_1)))), (2, .int (pa (Int32.toNatClampNeg i2_1))), (0, .ref m0), (1, .int i2_1)], [.int u266], M259) _
            exact ml_ret rfl (r_z (z267)) (⟨_, _, _, rfl, hR263, (eqI.rf.tr hI264 (by decide)), (eqR.rf.tr hV265 (by decide)), z267, Or.inl w268⟩)
        · have c_23 : ¬ (0 ≤ (pa (Int32.toNatClampNeg i2_1))) := of_decide_eq_false c_23
          refine ml_st (S' := (420, [(0, .ref m0), (1, .int i2_1)], [], M)) rfl rfl rfl ?_
          exact J_420  (fun h => absurd (show tgf f cp pa i2_1 = 0 by rw [tgf, if_neg (fun q => by have := i_le q; have : (0 : Int32).toInt = 0 := rfl; omega), if_neg c_7, if_pos (Int32.not_le.mp c_23)]) h)
  exact L_2 _ 1 (Nat.le_refl _) (⟨by decide, hP.2.2.2.1.1, fun j h0 h1 => by have : (1 : Int32).toInt = 1 := rfl; omega⟩)
