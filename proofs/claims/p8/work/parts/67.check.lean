section
/-! the reference: the pool is checked (laid by wip/p2/c67.py) -/
set_option maxHeartbeats 2000000 in
theorem rm_plainClass {g : xe_G}  {m0 : Nat} {q : Nat → Nat} {z : Nat × Nat} {I : rI} {R : rR} {M : mi_H} {x1 : Int32} {n : Nat} {f : Nat → Int32} {S cN : Nat} {sa sl ch : Nat → Int32} {cp mj : Int32} {pa py : Nat → Int32}  (hR : RS g m0 q z I R M) (hF : FK n f I R) (hY : SK S cN sa sl ch I R) (hP : PK n f S cp mj pa py I R) (hE : EK f cp pa py sa sl ch) {d : Nat} (hd : 5 ≤ d) : mt (mT g) d 235 [.ref m0, .int x1] M (fun v M' => (∃ x : Int32, v = some (.int x) ∧ (x = 0 ∨ x = 1) ∧ (x = 0 ∨ tgf f cp pa x1 = 7)) ∧ M' = M) := by
  obtain ⟨d, rfl⟩ : ∃ e, d = e + 1 := ⟨d - 1, by omega⟩
  refine mt_in (b := mb_235 g) rfl rfl ?_
  show ml (mT g) d (mb_235 g).2 (0, [(0, .ref m0), (1, .int x1)], [], M) _
  refine ml_blk 2 (S' := (2, [(0, .ref m0), (1, .int x1)], [.int x1, .ref m0], M)) rfl ?_
  refine ml_call (a := [.ref m0, .int x1]) (rest := []) rfl (hR.okc rfl rfl rfl) rfl rfl (rm_tag hR hF hP (by omega)) (fun v11 M12 h13 => ?_)
  obtain ⟨rfl, h13⟩ := h13
  rw [h13]
  show ml _ _ _ (5, [(0, .ref m0), (1, .int x1)], [.int (tgf f cp pa x1)], M) _
  refine ml_st (S' := (7, [(0, .ref m0), (1, .int x1)], [.int 7, .int (tgf f cp pa x1)], M)) rfl rfl rfl ?_
  refine ml_if2 (S1 := (29, [], [], M)) (S2 := (10, [(0, .ref m0), (1, .int x1)], [], M)) rfl rfl rfl (fun c_7 => ?_) (fun c_7 => ?_)
  · have c_7 : ¬ (tgf f cp pa x1) = 7 := of_decide_eq_true c_7
    refine ml_st (S' := (30, [], [.int 0], M)) rfl rfl rfl ?_
    exact ml_ret rfl (r_z (Or.inl rfl)) (⟨⟨_, rfl, Or.inl rfl, Or.inl rfl⟩, rfl⟩)
  · have c_7 : ¬ (¬ (tgf f cp pa x1) = 7) := of_decide_eq_false c_7
    have h7 : tgf f cp pa x1 = 7 := Decidable.not_not.mp c_7
    have he := hE x1 (by rw [h7]; decide)
    have hi7 : ix7 f cp pa x1 := he.1.1 (by rw [h7]; exact Or.inl rfl)
    have hy := hP.y hi7
    refine ml_blk 3 (S' := (13, [(0, .ref m0), (1, .int x1)], [.int x1, .ref m0, .ref m0], M)) rfl ?_
    refine ml_call (a := [.ref m0, .int x1]) (rest := [.ref m0]) rfl (hR.okc rfl rfl rfl) rfl rfl (rm_className hR hF hP (h7) (hi7) (by omega)) (fun v14 M15 h16 => ?_)
    obtain ⟨rfl, h16⟩ := h16
    rw [h16]
    show ml _ _ _ (16, [(0, .ref m0), (1, .int x1)], [.int (pyf py (ixf f pa x1 1)), .ref m0], M) _
    refine ml_st (S' := (17, [(0, .ref m0), (1, .int x1)], [.int 0, .int (pyf py (ixf f pa x1 1)), .ref m0], M)) rfl rfl rfl ?_
    refine ml_call (a := [.ref m0, .int (pyf py (ixf f pa x1 1)), .int 0]) (rest := []) rfl (hR.okc rfl rfl rfl) rfl rfl (rm_at hR hY (hy.2.2.1) (hy.2.2.2) (by decide) (by have q := he.2.1 h7; have : (0 : Int32).toInt = 0 := rfl; omega) (by omega)) (fun v17 M18 h19 => ?_)
    obtain ⟨rfl, h19⟩ := h19
    rw [h19]
    show ml _ _ _ (20, [(0, .ref m0), (1, .int x1)], [.int (tx sa ch (pyf py (ixf f pa x1 1)) 0)], M) _
    refine ml_st (S' := (22, [(0, .ref m0), (1, .int x1)], [.int 91, .int (tx sa ch (pyf py (ixf f pa x1 1)) 0)], M)) rfl rfl rfl ?_
    refine ml_if2 (S1 := (29, [], [], M)) (S2 := (25, [(0, .ref m0), (1, .int x1)], [], M)) rfl rfl rfl (fun c_22 => ?_) (fun c_22 => ?_)
    · have c_22 : (tx sa ch (pyf py (ixf f pa x1 1)) 0) = 91 := of_decide_eq_true c_22
      refine ml_st (S' := (30, [], [.int 0], M)) rfl rfl rfl ?_
      exact ml_ret rfl (r_z (Or.inl rfl)) (⟨⟨_, rfl, Or.inl rfl, Or.inl rfl⟩, rfl⟩)
    · have c_22 : ¬ ((tx sa ch (pyf py (ixf f pa x1 1)) 0) = 91) := of_decide_eq_false c_22
      refine ml_st (S' := (26, [(0, .ref m0), (1, .int x1)], [.int 1], M)) rfl rfl rfl ?_
      refine ml_st (S' := (30, [], [.int 1], M)) rfl rfl rfl ?_
      exact ml_ret rfl (r_z (Or.inr rfl)) (⟨⟨_, rfl, Or.inr rfl, Or.inr h7⟩, rfl⟩)
set_option maxHeartbeats 2000000 in
theorem rm_handleEntry {g : xe_G}  {m0 : Nat} {q : Nat → Nat} {z : Nat × Nat} {I : rI} {R : rR} {M : mi_H} {x1 si : Int32} {n : Nat} {f : Nat → Int32} {S cN : Nat} {sa sl ch : Nat → Int32} {cp mj : Int32} {pa py : Nat → Int32}  (hR : RS g m0 q z I R M) (hk9 : I 9 = some si) (hF : FK n f I R) (hY : SK S cN sa sl ch I R) (hP : PK n f S cp mj pa py I R) (ht : tgf f cp pa x1 = 15) (hix : IXP f cp pa x1 15) {d : Nat} (hd : 4 ≤ d) : mt (mT g) d 212 [.ref m0, .int x1] M (fun v M' => (∃ x : Int32, v = some (.int x) ∧ (x = 0 ∨ x = 1)) ∧ M' = M) := by
  obtain ⟨d, rfl⟩ : ∃ e, d = e + 1 := ⟨d - 1, by omega⟩
  refine mt_in (b := mb_212 g) rfl rfl ?_
  show ml (mT g) d (mb_212 g).2 (0, [(0, .ref m0), (1, .int x1)], [], M) _
  have hn := hF.1
  have h15 := hP.tg ht (by decide)
  have q15 : (pa (Int32.toNatClampNeg x1)).toInt + 4 ≤ n := h15.2.2.2.2
  have ea : (pa (Int32.toNatClampNeg x1) + 1).toInt = (pa (Int32.toNatClampNeg x1)).toInt + 1 := i_add (by have : (1 : Int32).toInt = 1 := rfl; have := h15.2.2.1; omega) (by have : (1 : Int32).toInt = 1 := rfl; omega)
  refine ml_blk 2 (S' := (2, [(0, .ref m0), (1, .int x1)], [.ref m0, .ref m0], M)) rfl ?_
  refine rg_ref (S' := (5, [(0, .ref m0), (1, .int x1)], [.ref (q 21), .ref m0], M)) rfl hR rfl rfl ?_
  refine ml_st (S' := (6, [(0, .ref m0), (1, .int x1)], [.ref m0, .ref (q 21), .ref m0], M)) rfl rfl rfl ?_
  refine rg_int (S' := (9, [(0, .ref m0), (1, .int x1)], [.int 0, .ref (q 21), .ref m0], M)) rfl hR rfl (hP.1) rfl ?_
  refine ml_blk 2 (S' := (11, [(0, .ref m0), (1, .int x1)], [.int (0 + x1), .ref (q 21), .ref m0], M)) rfl ?_
  refine ra_ld (k := 21) (S' := (12, [(0, .ref m0), (1, .int x1)], [.int (pa (Int32.toNatClampNeg x1)), .ref m0], M)) rfl hR rfl ((hP.e h15.1 h15.2.1).2.1) ((hP.e h15.1 h15.2.1).1) rfl ?_
  refine ml_blk 2 (S' := (14, [(0, .ref m0), (1, .int x1)], [.int ((pa (Int32.toNatClampNeg x1)) + 1), .ref m0], M)) rfl ?_
  refine ml_call (a := [.ref m0, .int ((pa (Int32.toNatClampNeg x1)) + 1)]) (rest := []) rfl (hR.okc rfl rfl rfl) rfl rfl (rm_u1 hR hF (by have := h15.2.2.1; omega) (by omega) (by omega)) (fun v11 M12 h13 => ?_)
  obtain ⟨rfl, h13⟩ := h13
  rw [h13]
  show ml _ _ _ (17, [(0, .ref m0), (1, .int x1)], [.int (f1 f ((pa (Int32.toNatClampNeg x1)) + 1))], M) _
  refine ml_st (S' := (18, [(2, .int (f1 f ((pa (Int32.toNatClampNeg x1)) + 1))), (0, .ref m0), (1, .int x1)], [], M)) rfl rfl rfl ?_
  refine ml_blk 3 (S' := (21, [(2, .int (f1 f ((pa (Int32.toNatClampNeg x1)) + 1))), (0, .ref m0), (1, .int x1)], [.int 2, .int x1, .ref m0], M)) rfl ?_
  refine ml_call (a := [.ref m0, .int x1, .int 2]) (rest := []) rfl (hR.okc rfl rfl rfl) rfl rfl (rm_index hR hF hP (h15.1) (h15.2.1) (h15.2.2.1) (by decide) (by have : (2 : Int32).toInt = 2 := rfl; omega) (by omega)) (fun v14 M15 h16 => ?_)
  obtain ⟨rfl, h16⟩ := h16
  rw [h16]
  show ml _ _ _ (24, [(2, .int (f1 f ((pa (Int32.toNatClampNeg x1)) + 1))), (0, .ref m0), (1, .int x1)], [.int (ixf f pa x1 2)], M) _
  refine ml_st (S' := (25, [(3, .int (ixf f pa x1 2)), (2, .int (f1 f ((pa (Int32.toNatClampNeg x1)) + 1))), (0, .ref m0), (1, .int x1)], [], M)) rfl rfl rfl ?_
  refine ml_blk 2 (S' := (27, [(3, .int (ixf f pa x1 2)), (2, .int (f1 f ((pa (Int32.toNatClampNeg x1)) + 1))), (0, .ref m0), (1, .int x1)], [.int (ixf f pa x1 2), .ref m0], M)) rfl ?_
  refine ml_call (a := [.ref m0, .int (ixf f pa x1 2)]) (rest := []) rfl (hR.okc rfl rfl rfl) rfl rfl (rm_tag hR hF hP (by omega)) (fun v17 M18 h19 => ?_)
  obtain ⟨rfl, h19⟩ := h19
  rw [h19]
  show ml _ _ _ (30, [(3, .int (ixf f pa x1 2)), (2, .int (f1 f ((pa (Int32.toNatClampNeg x1)) + 1))), (0, .ref m0), (1, .int x1)], [.int (tgf f cp pa (ixf f pa x1 2))], M) _
  refine ml_st (S' := (32, [(4, .int (tgf f cp pa (ixf f pa x1 2))), (3, .int (ixf f pa x1 2)), (2, .int (f1 f ((pa (Int32.toNatClampNeg x1)) + 1))), (0, .ref m0), (1, .int x1)], [], M)) rfl rfl rfl ?_
  refine ml_blk 2 (S' := (34, [(4, .int (tgf f cp pa (ixf f pa x1 2))), (3, .int (ixf f pa x1 2)), (2, .int (f1 f ((pa (Int32.toNatClampNeg x1)) + 1))), (0, .ref m0), (1, .int x1)], [.int 1, .int (f1 f ((pa (Int32.toNatClampNeg x1)) + 1))], M)) rfl ?_
  refine ml_if2 (S1 := (43, [], [], M)) (S2 := (37, [(4, .int (tgf f cp pa (ixf f pa x1 2))), (3, .int (ixf f pa x1 2)), (2, .int (f1 f ((pa (Int32.toNatClampNeg x1)) + 1))), (0, .ref m0), (1, .int x1)], [], M)) rfl rfl rfl (fun c_34 => ?_) (fun c_34 => ?_)
  · have c_34 : (f1 f ((pa (Int32.toNatClampNeg x1)) + 1)) < 1 := of_decide_eq_true c_34
    refine ml_st (S' := (44, [], [.int 0], M)) rfl rfl rfl ?_
    exact ml_ret rfl (r_z (Or.inl rfl)) (⟨⟨_, rfl, Or.inl rfl⟩, rfl⟩)
  · have c_34 : ¬ ((f1 f ((pa (Int32.toNatClampNeg x1)) + 1)) < 1) := of_decide_eq_false c_34
    refine ml_blk 2 (S' := (40, [(4, .int (tgf f cp pa (ixf f pa x1 2))), (3, .int (ixf f pa x1 2)), (2, .int (f1 f ((pa (Int32.toNatClampNeg x1)) + 1))), (0, .ref m0), (1, .int x1)], [.int 9, .int (f1 f ((pa (Int32.toNatClampNeg x1)) + 1))], M)) rfl ?_
    refine ml_if2 (S1 := (45, [(4, .int (tgf f cp pa (ixf f pa x1 2))), (3, .int (ixf f pa x1 2)), (2, .int (f1 f ((pa (Int32.toNatClampNeg x1)) + 1))), (0, .ref m0), (1, .int x1)], [], M)) (S2 := (43, [], [], M)) rfl rfl rfl (fun c_40 => ?_) (fun c_40 => ?_)
    · have c_40 : (f1 f ((pa (Int32.toNatClampNeg x1)) + 1)) ≤ 9 := of_decide_eq_true c_40
      refine ml_blk 2 (S' := (47, [(4, .int (tgf f cp pa (ixf f pa x1 2))), (3, .int (ixf f pa x1 2)), (2, .int (f1 f ((pa (Int32.toNatClampNeg x1)) + 1))), (0, .ref m0), (1, .int x1)], [.int 4, .int (f1 f ((pa (Int32.toNatClampNeg x1)) + 1))], M)) rfl ?_
      refine ml_if2 (S1 := (63, [(4, .int (tgf f cp pa (ixf f pa x1 2))), (3, .int (ixf f pa x1 2)), (2, .int (f1 f ((pa (Int32.toNatClampNeg x1)) + 1))), (0, .ref m0), (1, .int x1)], [], M)) (S2 := (50, [(4, .int (tgf f cp pa (ixf f pa x1 2))), (3, .int (ixf f pa x1 2)), (2, .int (f1 f ((pa (Int32.toNatClampNeg x1)) + 1))), (0, .ref m0), (1, .int x1)], [], M)) rfl rfl rfl (fun c_47 => ?_) (fun c_47 => ?_)
      · have c_47 : 4 < (f1 f ((pa (Int32.toNatClampNeg x1)) + 1)) := of_decide_eq_true c_47
        refine ml_blk 2 (S' := (65, [(4, .int (tgf f cp pa (ixf f pa x1 2))), (3, .int (ixf f pa x1 2)), (2, .int (f1 f ((pa (Int32.toNatClampNeg x1)) + 1))), (0, .ref m0), (1, .int x1)], [.int 5, .int (f1 f ((pa (Int32.toNatClampNeg x1)) + 1))], M)) rfl ?_
        have J_125 : (tgf f cp pa (ixf f pa x1 2) = 10 ∨ tgf f cp pa (ixf f pa x1 2) = 11) → ml (mT g) d (mb_212 g).2 (125, [(0, .ref m0), (2, .int (f1 f ((pa (Int32.toNatClampNeg x1)) + 1))), (3, .int (ixf f pa x1 2))], [], M) (fun v M' => (∃ x : Int32, v = some (.int x) ∧ (x = 0 ∨ x = 1)) ∧ M' = M) := by
          intro hj_125
          have hr9 : t9 (tgf f cp pa (ixf f pa x1 2)) := t9_of (Or.inr hj_125)
          have hi9 := hix.2.2.2.1 rfl hr9
          refine ml_blk 3 (S' := (128, [(0, .ref m0), (2, .int (f1 f ((pa (Int32.toNatClampNeg x1)) + 1))), (3, .int (ixf f pa x1 2))], [.ref m0, .ref m0, .ref m0], M)) rfl ?_
          refine ml_blk 2 (S' := (130, [(0, .ref m0), (2, .int (f1 f ((pa (Int32.toNatClampNeg x1)) + 1))), (3, .int (ixf f pa x1 2))], [.int 3, .int (ixf f pa x1 2), .ref m0, .ref m0, .ref m0], M)) rfl ?_
          refine ml_call (a := [.ref m0, .int (ixf f pa x1 2), .int 3]) (rest := [.ref m0, .ref m0]) rfl (hR.okc rfl rfl rfl) rfl rfl (rm_index hR hF hP ((hP.tg rfl (t9_n0 hr9)).1) ((hP.tg rfl (t9_n0 hr9)).2.1) ((hP.tg rfl (t9_n0 hr9)).2.2.1) (by decide) (by have q := (hP.tg rfl (t9_n0 hr9)).2.2.2.2; rw [show esz _ = 5 from esz_9 hr9] at q; have : (3 : Int32).toInt = 3 := rfl; omega) (by omega)) (fun v20 M21 h22 => ?_)
          obtain ⟨rfl, h22⟩ := h22
          rw [h22]
          show ml _ _ _ (133, [(0, .ref m0), (2, .int (f1 f ((pa (Int32.toNatClampNeg x1)) + 1))), (3, .int (ixf f pa x1 2))], [.int (ixf f pa (ixf f pa x1 2) 3), .ref m0, .ref m0], M) _
          refine ml_st (S' := (134, [(0, .ref m0), (2, .int (f1 f ((pa (Int32.toNatClampNeg x1)) + 1))), (3, .int (ixf f pa x1 2))], [.int 1, .int (ixf f pa (ixf f pa x1 2) 3), .ref m0, .ref m0], M)) rfl rfl rfl ?_
          refine ml_call (a := [.ref m0, .int (ixf f pa (ixf f pa x1 2) 3), .int 1]) (rest := [.ref m0]) rfl (hR.okc rfl rfl rfl) rfl rfl (rm_index hR hF hP ((hP.tg hi9.2.2.1 (by decide)).1) ((hP.tg hi9.2.2.1 (by decide)).2.1) ((hP.tg hi9.2.2.1 (by decide)).2.2.1) (by decide) (by have q := (hP.tg hi9.2.2.1 (by decide)).2.2.2.2; rw [show esz _ = 5 from rfl] at q; have : (1 : Int32).toInt = 1 := rfl; omega) (by omega)) (fun v23 M24 h25 => ?_)
          obtain ⟨rfl, h25⟩ := h25
          rw [h25]
          show ml _ _ _ (137, [(0, .ref m0), (2, .int (f1 f ((pa (Int32.toNatClampNeg x1)) + 1))), (3, .int (ixf f pa x1 2))], [.int (ixf f pa (ixf f pa (ixf f pa x1 2) 3) 1), .ref m0], M) _
          refine ml_call (a := [.ref m0, .int (ixf f pa (ixf f pa (ixf f pa x1 2) 3) 1)]) (rest := []) rfl (hR.okc rfl rfl rfl) rfl rfl (rm_symOf hR hP (hi9.2.2.2.1) (by omega)) (fun v26 M27 h28 => ?_)
          obtain ⟨rfl, h28⟩ := h28
          rw [h28]
          show ml _ _ _ (140, [(0, .ref m0), (2, .int (f1 f ((pa (Int32.toNatClampNeg x1)) + 1))), (3, .int (ixf f pa x1 2))], [.int (pyf py (ixf f pa (ixf f pa (ixf f pa x1 2) 3) 1))], M) _
          refine ml_st (S' := (142, [(5, .int (pyf py (ixf f pa (ixf f pa (ixf f pa x1 2) 3) 1))), (0, .ref m0), (2, .int (f1 f ((pa (Int32.toNatClampNeg x1)) + 1))), (3, .int (ixf f pa x1 2))], [], M)) rfl rfl rfl ?_
          refine ml_blk 2 (S' := (145, [(5, .int (pyf py (ixf f pa (ixf f pa (ixf f pa x1 2) 3) 1))), (0, .ref m0), (2, .int (f1 f ((pa (Int32.toNatClampNeg x1)) + 1))), (3, .int (ixf f pa x1 2))], [.int 8, .int (f1 f ((pa (Int32.toNatClampNeg x1)) + 1))], M)) rfl ?_
          refine ml_if2 (S1 := (152, [(5, .int (pyf py (ixf f pa (ixf f pa (ixf f pa x1 2) 3) 1))), (0, .ref m0), (2, .int (f1 f ((pa (Int32.toNatClampNeg x1)) + 1))), (3, .int (ixf f pa x1 2))], [], M)) (S2 := (148, [(5, .int (pyf py (ixf f pa (ixf f pa (ixf f pa x1 2) 3) 1))), (0, .ref m0), (2, .int (f1 f ((pa (Int32.toNatClampNeg x1)) + 1))), (3, .int (ixf f pa x1 2))], [], M)) rfl rfl rfl (fun c_145 => ?_) (fun c_145 => ?_)
          · have c_145 : ¬ (f1 f ((pa (Int32.toNatClampNeg x1)) + 1)) = 8 := of_decide_eq_true c_145
            refine ml_st (S' := (153, [(0, .ref m0), (5, .int (pyf py (ixf f pa (ixf f pa (ixf f pa x1 2) 3) 1)))], [.int 0], M)) rfl rfl rfl ?_
            refine ml_blk 2 (S' := (156, [(0, .ref m0), (5, .int (pyf py (ixf f pa (ixf f pa (ixf f pa x1 2) 3) 1)))], [.ref m0, .int (pyf py (ixf f pa (ixf f pa (ixf f pa x1 2) 3) 1)), .int 0], M)) rfl ?_
            refine rg_int (S' := (159, [(0, .ref m0), (5, .int (pyf py (ixf f pa (ixf f pa (ixf f pa x1 2) 3) 1)))], [.int si, .int (pyf py (ixf f pa (ixf f pa (ixf f pa x1 2) 3) 1)), .int 0], M)) rfl hR rfl (hk9) rfl ?_
            refine ml_if2 (S1 := (166, [(0, .ref m0), (5, .int (pyf py (ixf f pa (ixf f pa (ixf f pa x1 2) 3) 1)))], [.int 0], M)) (S2 := (162, [(0, .ref m0), (5, .int (pyf py (ixf f pa (ixf f pa (ixf f pa x1 2) 3) 1)))], [.int 0], M)) rfl rfl rfl (fun c_159 => ?_) (fun c_159 => ?_)
            · have c_159 : ¬ (pyf py (ixf f pa (ixf f pa (ixf f pa x1 2) 3) 1)) = si := of_decide_eq_true c_159
              refine ml_st (S' := (167, [], [.int 0, .int 0], M)) rfl rfl rfl ?_
              refine ml_if2 (S1 := (174, [], [], M)) (S2 := (170, [], [], M)) rfl rfl rfl (fun c_167 => ?_) (fun c_167 => ?_)
              · have c_167 : ¬ 0 = 0 := of_decide_eq_true c_167
                refine ml_st (S' := (175, [], [.int 0], M)) rfl rfl rfl ?_
                exact ml_ret rfl (r_z (Or.inl rfl)) (⟨⟨_, rfl, Or.inl rfl⟩, rfl⟩)
              · have c_167 : ¬ (¬ 0 = 0) := of_decide_eq_false c_167
                refine ml_st (S' := (171, [], [.int 1], M)) rfl rfl rfl ?_
                refine ml_st (S' := (175, [], [.int 1], M)) rfl rfl rfl ?_
                exact ml_ret rfl (r_z (Or.inr rfl)) (⟨⟨_, rfl, Or.inr rfl⟩, rfl⟩)
            · have c_159 : ¬ (¬ (pyf py (ixf f pa (ixf f pa (ixf f pa x1 2) 3) 1)) = si) := of_decide_eq_false c_159
              refine ml_st (S' := (163, [(0, .ref m0), (5, .int (pyf py (ixf f pa (ixf f pa (ixf f pa x1 2) 3) 1)))], [.int 1, .int 0], M)) rfl rfl rfl ?_
              refine ml_st (S' := (167, [], [.int 1, .int 0], M)) rfl rfl rfl ?_
              refine ml_if2 (S1 := (174, [], [], M)) (S2 := (170, [], [], M)) rfl rfl rfl (fun c_167 => ?_) (fun c_167 => ?_)
              · have c_167 : ¬ 0 = 1 := of_decide_eq_true c_167
                refine ml_st (S' := (175, [], [.int 0], M)) rfl rfl rfl ?_
                exact ml_ret rfl (r_z (Or.inl rfl)) (⟨⟨_, rfl, Or.inl rfl⟩, rfl⟩)
              · have c_167 : ¬ (¬ 0 = 1) := of_decide_eq_false c_167
                refine ml_st (S' := (171, [], [.int 1], M)) rfl rfl rfl ?_
                refine ml_st (S' := (175, [], [.int 1], M)) rfl rfl rfl ?_
                exact ml_ret rfl (r_z (Or.inr rfl)) (⟨⟨_, rfl, Or.inr rfl⟩, rfl⟩)
          · have c_145 : ¬ (¬ (f1 f ((pa (Int32.toNatClampNeg x1)) + 1)) = 8) := of_decide_eq_false c_145
            refine ml_st (S' := (149, [(5, .int (pyf py (ixf f pa (ixf f pa (ixf f pa x1 2) 3) 1))), (0, .ref m0), (2, .int (f1 f ((pa (Int32.toNatClampNeg x1)) + 1))), (3, .int (ixf f pa x1 2))], [.int 1], M)) rfl rfl rfl ?_
            refine ml_st (S' := (153, [(0, .ref m0), (5, .int (pyf py (ixf f pa (ixf f pa (ixf f pa x1 2) 3) 1)))], [.int 1], M)) rfl rfl rfl ?_
            refine ml_blk 2 (S' := (156, [(0, .ref m0), (5, .int (pyf py (ixf f pa (ixf f pa (ixf f pa x1 2) 3) 1)))], [.ref m0, .int (pyf py (ixf f pa (ixf f pa (ixf f pa x1 2) 3) 1)), .int 1], M)) rfl ?_
            refine rg_int (S' := (159, [(0, .ref m0), (5, .int (pyf py (ixf f pa (ixf f pa (ixf f pa x1 2) 3) 1)))], [.int si, .int (pyf py (ixf f pa (ixf f pa (ixf f pa x1 2) 3) 1)), .int 1], M)) rfl hR rfl (hk9) rfl ?_
            refine ml_if2 (S1 := (166, [(0, .ref m0), (5, .int (pyf py (ixf f pa (ixf f pa (ixf f pa x1 2) 3) 1)))], [.int 1], M)) (S2 := (162, [(0, .ref m0), (5, .int (pyf py (ixf f pa (ixf f pa (ixf f pa x1 2) 3) 1)))], [.int 1], M)) rfl rfl rfl (fun c_159 => ?_) (fun c_159 => ?_)
            · have c_159 : ¬ (pyf py (ixf f pa (ixf f pa (ixf f pa x1 2) 3) 1)) = si := of_decide_eq_true c_159
              refine ml_st (S' := (167, [], [.int 0, .int 1], M)) rfl rfl rfl ?_
              refine ml_if2 (S1 := (174, [], [], M)) (S2 := (170, [], [], M)) rfl rfl rfl (fun c_167 => ?_) (fun c_167 => ?_)
              · have c_167 : ¬ 1 = 0 := of_decide_eq_true c_167
                refine ml_st (S' := (175, [], [.int 0], M)) rfl rfl rfl ?_
                exact ml_ret rfl (r_z (Or.inl rfl)) (⟨⟨_, rfl, Or.inl rfl⟩, rfl⟩)
              · have c_167 : ¬ (¬ 1 = 0) := of_decide_eq_false c_167
                refine ml_st (S' := (171, [], [.int 1], M)) rfl rfl rfl ?_
                refine ml_st (S' := (175, [], [.int 1], M)) rfl rfl rfl ?_
                exact ml_ret rfl (r_z (Or.inr rfl)) (⟨⟨_, rfl, Or.inr rfl⟩, rfl⟩)
            · have c_159 : ¬ (¬ (pyf py (ixf f pa (ixf f pa (ixf f pa x1 2) 3) 1)) = si) := of_decide_eq_false c_159
              refine ml_st (S' := (163, [(0, .ref m0), (5, .int (pyf py (ixf f pa (ixf f pa (ixf f pa x1 2) 3) 1)))], [.int 1, .int 1], M)) rfl rfl rfl ?_
              refine ml_st (S' := (167, [], [.int 1, .int 1], M)) rfl rfl rfl ?_
              refine ml_if2 (S1 := (174, [], [], M)) (S2 := (170, [], [], M)) rfl rfl rfl (fun c_167 => ?_) (fun c_167 => ?_)
              · have c_167 : ¬ 1 = 1 := of_decide_eq_true c_167
                refine ml_st (S' := (175, [], [.int 0], M)) rfl rfl rfl ?_
                exact ml_ret rfl (r_z (Or.inl rfl)) (⟨⟨_, rfl, Or.inl rfl⟩, rfl⟩)
              · have c_167 : ¬ (¬ 1 = 1) := of_decide_eq_false c_167
                refine ml_st (S' := (171, [], [.int 1], M)) rfl rfl rfl ?_
                refine ml_st (S' := (175, [], [.int 1], M)) rfl rfl rfl ?_
                exact ml_ret rfl (r_z (Or.inr rfl)) (⟨⟨_, rfl, Or.inr rfl⟩, rfl⟩)
        refine ml_if2 (S1 := (74, [(0, .ref m0), (2, .int (f1 f ((pa (Int32.toNatClampNeg x1)) + 1))), (3, .int (ixf f pa x1 2)), (4, .int (tgf f cp pa (ixf f pa x1 2)))], [], M)) (S2 := (68, [(4, .int (tgf f cp pa (ixf f pa x1 2))), (3, .int (ixf f pa x1 2)), (2, .int (f1 f ((pa (Int32.toNatClampNeg x1)) + 1))), (0, .ref m0), (1, .int x1)], [], M)) rfl rfl rfl (fun c_65 => ?_) (fun c_65 => ?_)
        · have c_65 : (f1 f ((pa (Int32.toNatClampNeg x1)) + 1)) = 5 := of_decide_eq_true c_65
          refine ml_blk 2 (S' := (78, [(0, .ref m0), (2, .int (f1 f ((pa (Int32.toNatClampNeg x1)) + 1))), (3, .int (ixf f pa x1 2)), (4, .int (tgf f cp pa (ixf f pa x1 2)))], [.int 10, .int (tgf f cp pa (ixf f pa x1 2))], M)) rfl ?_
          refine ml_if2 (S1 := (123, [], [], M)) (S2 := (81, [(0, .ref m0), (2, .int (f1 f ((pa (Int32.toNatClampNeg x1)) + 1))), (3, .int (ixf f pa x1 2)), (4, .int (tgf f cp pa (ixf f pa x1 2)))], [], M)) rfl rfl rfl (fun c_78 => ?_) (fun c_78 => ?_)
          · have c_78 : ¬ (tgf f cp pa (ixf f pa x1 2)) = 10 := of_decide_eq_true c_78
            refine ml_st (S' := (124, [], [.int 0], M)) rfl rfl rfl ?_
            exact ml_ret rfl (r_z (Or.inl rfl)) (⟨⟨_, rfl, Or.inl rfl⟩, rfl⟩)
          · have c_78 : ¬ (¬ (tgf f cp pa (ixf f pa x1 2)) = 10) := of_decide_eq_false c_78
            refine ml_st (S' := (125, [(0, .ref m0), (2, .int (f1 f ((pa (Int32.toNatClampNeg x1)) + 1))), (3, .int (ixf f pa x1 2))], [], M)) rfl rfl rfl ?_
            exact J_125  (Or.inl (Decidable.not_not.mp c_78))
        · have c_65 : ¬ ((f1 f ((pa (Int32.toNatClampNeg x1)) + 1)) = 5) := of_decide_eq_false c_65
          refine ml_blk 2 (S' := (71, [(4, .int (tgf f cp pa (ixf f pa x1 2))), (3, .int (ixf f pa x1 2)), (2, .int (f1 f ((pa (Int32.toNatClampNeg x1)) + 1))), (0, .ref m0), (1, .int x1)], [.int 8, .int (f1 f ((pa (Int32.toNatClampNeg x1)) + 1))], M)) rfl ?_
          refine ml_if2 (S1 := (84, [(4, .int (tgf f cp pa (ixf f pa x1 2))), (3, .int (ixf f pa x1 2)), (2, .int (f1 f ((pa (Int32.toNatClampNeg x1)) + 1))), (0, .ref m0), (1, .int x1)], [], M)) (S2 := (74, [(0, .ref m0), (2, .int (f1 f ((pa (Int32.toNatClampNeg x1)) + 1))), (3, .int (ixf f pa x1 2)), (4, .int (tgf f cp pa (ixf f pa x1 2)))], [], M)) rfl rfl rfl (fun c_71 => ?_) (fun c_71 => ?_)
          · have c_71 : ¬ (f1 f ((pa (Int32.toNatClampNeg x1)) + 1)) = 8 := of_decide_eq_true c_71
            refine ml_blk 2 (S' := (87, [(4, .int (tgf f cp pa (ixf f pa x1 2))), (3, .int (ixf f pa x1 2)), (2, .int (f1 f ((pa (Int32.toNatClampNeg x1)) + 1))), (0, .ref m0), (1, .int x1)], [.int 9, .int (f1 f ((pa (Int32.toNatClampNeg x1)) + 1))], M)) rfl ?_
            refine ml_if2 (S1 := (100, [(4, .int (tgf f cp pa (ixf f pa x1 2))), (3, .int (ixf f pa x1 2)), (2, .int (f1 f ((pa (Int32.toNatClampNeg x1)) + 1))), (0, .ref m0), (1, .int x1)], [], M)) (S2 := (90, [(4, .int (tgf f cp pa (ixf f pa x1 2))), (3, .int (ixf f pa x1 2)), (2, .int (f1 f ((pa (Int32.toNatClampNeg x1)) + 1))), (0, .ref m0), (1, .int x1)], [], M)) rfl rfl rfl (fun c_87 => ?_) (fun c_87 => ?_)
            · have c_87 : ¬ (f1 f ((pa (Int32.toNatClampNeg x1)) + 1)) = 9 := of_decide_eq_true c_87
              refine ml_blk 2 (S' := (104, [(4, .int (tgf f cp pa (ixf f pa x1 2))), (3, .int (ixf f pa x1 2)), (2, .int (f1 f ((pa (Int32.toNatClampNeg x1)) + 1))), (0, .ref m0), (1, .int x1)], [.int 10, .int (tgf f cp pa (ixf f pa x1 2))], M)) rfl ?_
              refine ml_if2 (S1 := (125, [(0, .ref m0), (2, .int (f1 f ((pa (Int32.toNatClampNeg x1)) + 1))), (3, .int (ixf f pa x1 2))], [], M)) (S2 := (107, [(4, .int (tgf f cp pa (ixf f pa x1 2))), (3, .int (ixf f pa x1 2)), (2, .int (f1 f ((pa (Int32.toNatClampNeg x1)) + 1))), (0, .ref m0), (1, .int x1)], [], M)) rfl rfl rfl (fun c_104 => ?_) (fun c_104 => ?_)
              · have c_104 : (tgf f cp pa (ixf f pa x1 2)) = 10 := of_decide_eq_true c_104
                exact J_125  (Or.inl c_104)
              · have c_104 : ¬ ((tgf f cp pa (ixf f pa x1 2)) = 10) := of_decide_eq_false c_104
                refine ml_blk 2 (S' := (111, [(4, .int (tgf f cp pa (ixf f pa x1 2))), (3, .int (ixf f pa x1 2)), (2, .int (f1 f ((pa (Int32.toNatClampNeg x1)) + 1))), (0, .ref m0), (1, .int x1)], [.int 11, .int (tgf f cp pa (ixf f pa x1 2))], M)) rfl ?_
                refine ml_if2 (S1 := (123, [], [], M)) (S2 := (114, [(4, .int (tgf f cp pa (ixf f pa x1 2))), (3, .int (ixf f pa x1 2)), (2, .int (f1 f ((pa (Int32.toNatClampNeg x1)) + 1))), (0, .ref m0), (1, .int x1)], [], M)) rfl rfl rfl (fun c_111 => ?_) (fun c_111 => ?_)
                · have c_111 : ¬ (tgf f cp pa (ixf f pa x1 2)) = 11 := of_decide_eq_true c_111
                  refine ml_st (S' := (124, [], [.int 0], M)) rfl rfl rfl ?_
                  exact ml_ret rfl (r_z (Or.inl rfl)) (⟨⟨_, rfl, Or.inl rfl⟩, rfl⟩)
                · have c_111 : ¬ (¬ (tgf f cp pa (ixf f pa x1 2)) = 11) := of_decide_eq_false c_111
                  refine ml_st (S' := (115, [(4, .int (tgf f cp pa (ixf f pa x1 2))), (3, .int (ixf f pa x1 2)), (2, .int (f1 f ((pa (Int32.toNatClampNeg x1)) + 1))), (0, .ref m0), (1, .int x1)], [.ref m0], M)) rfl rfl rfl ?_
                  refine rg_int (S' := (118, [(4, .int (tgf f cp pa (ixf f pa x1 2))), (3, .int (ixf f pa x1 2)), (2, .int (f1 f ((pa (Int32.toNatClampNeg x1)) + 1))), (0, .ref m0), (1, .int x1)], [.int mj], M)) rfl hR rfl (hP.2.2.1) rfl ?_
                  refine ml_st (S' := (120, [(4, .int (tgf f cp pa (ixf f pa x1 2))), (3, .int (ixf f pa x1 2)), (2, .int (f1 f ((pa (Int32.toNatClampNeg x1)) + 1))), (0, .ref m0), (1, .int x1)], [.int 52, .int mj], M)) rfl rfl rfl ?_
                  refine ml_if2 (S1 := (125, [(0, .ref m0), (2, .int (f1 f ((pa (Int32.toNatClampNeg x1)) + 1))), (3, .int (ixf f pa x1 2))], [], M)) (S2 := (123, [], [], M)) rfl rfl rfl (fun c_120 => ?_) (fun c_120 => ?_)
                  · have c_120 : 52 ≤ mj := of_decide_eq_true c_120
                    exact J_125  (Or.inr (Decidable.not_not.mp c_111))
                  · have c_120 : ¬ (52 ≤ mj) := of_decide_eq_false c_120
                    refine ml_st (S' := (124, [], [.int 0], M)) rfl rfl rfl ?_
                    exact ml_ret rfl (r_z (Or.inl rfl)) (⟨⟨_, rfl, Or.inl rfl⟩, rfl⟩)
            · have c_87 : ¬ (¬ (f1 f ((pa (Int32.toNatClampNeg x1)) + 1)) = 9) := of_decide_eq_false c_87
              refine ml_blk 2 (S' := (94, [(4, .int (tgf f cp pa (ixf f pa x1 2))), (3, .int (ixf f pa x1 2)), (2, .int (f1 f ((pa (Int32.toNatClampNeg x1)) + 1))), (0, .ref m0), (1, .int x1)], [.int 11, .int (tgf f cp pa (ixf f pa x1 2))], M)) rfl ?_
              refine ml_if2 (S1 := (123, [], [], M)) (S2 := (97, [(4, .int (tgf f cp pa (ixf f pa x1 2))), (3, .int (ixf f pa x1 2)), (2, .int (f1 f ((pa (Int32.toNatClampNeg x1)) + 1))), (0, .ref m0), (1, .int x1)], [], M)) rfl rfl rfl (fun c_94 => ?_) (fun c_94 => ?_)
              · have c_94 : ¬ (tgf f cp pa (ixf f pa x1 2)) = 11 := of_decide_eq_true c_94
                refine ml_st (S' := (124, [], [.int 0], M)) rfl rfl rfl ?_
                exact ml_ret rfl (r_z (Or.inl rfl)) (⟨⟨_, rfl, Or.inl rfl⟩, rfl⟩)
              · have c_94 : ¬ (¬ (tgf f cp pa (ixf f pa x1 2)) = 11) := of_decide_eq_false c_94
                refine ml_st (S' := (125, [(0, .ref m0), (2, .int (f1 f ((pa (Int32.toNatClampNeg x1)) + 1))), (3, .int (ixf f pa x1 2))], [], M)) rfl rfl rfl ?_
                exact J_125  (Or.inr (Decidable.not_not.mp c_94))
          · have c_71 : ¬ (¬ (f1 f ((pa (Int32.toNatClampNeg x1)) + 1)) = 8) := of_decide_eq_false c_71
            refine ml_blk 2 (S' := (78, [(0, .ref m0), (2, .int (f1 f ((pa (Int32.toNatClampNeg x1)) + 1))), (3, .int (ixf f pa x1 2)), (4, .int (tgf f cp pa (ixf f pa x1 2)))], [.int 10, .int (tgf f cp pa (ixf f pa x1 2))], M)) rfl ?_
            refine ml_if2 (S1 := (123, [], [], M)) (S2 := (81, [(0, .ref m0), (2, .int (f1 f ((pa (Int32.toNatClampNeg x1)) + 1))), (3, .int (ixf f pa x1 2)), (4, .int (tgf f cp pa (ixf f pa x1 2)))], [], M)) rfl rfl rfl (fun c_78 => ?_) (fun c_78 => ?_)
            · have c_78 : ¬ (tgf f cp pa (ixf f pa x1 2)) = 10 := of_decide_eq_true c_78
              refine ml_st (S' := (124, [], [.int 0], M)) rfl rfl rfl ?_
              exact ml_ret rfl (r_z (Or.inl rfl)) (⟨⟨_, rfl, Or.inl rfl⟩, rfl⟩)
            · have c_78 : ¬ (¬ (tgf f cp pa (ixf f pa x1 2)) = 10) := of_decide_eq_false c_78
              refine ml_st (S' := (125, [(0, .ref m0), (2, .int (f1 f ((pa (Int32.toNatClampNeg x1)) + 1))), (3, .int (ixf f pa x1 2))], [], M)) rfl rfl rfl ?_
              exact J_125  (Or.inl (Decidable.not_not.mp c_78))
      · have c_47 : ¬ (4 < (f1 f ((pa (Int32.toNatClampNeg x1)) + 1))) := of_decide_eq_false c_47
        refine ml_blk 2 (S' := (54, [(4, .int (tgf f cp pa (ixf f pa x1 2))), (3, .int (ixf f pa x1 2)), (2, .int (f1 f ((pa (Int32.toNatClampNeg x1)) + 1))), (0, .ref m0), (1, .int x1)], [.int 9, .int (tgf f cp pa (ixf f pa x1 2))], M)) rfl ?_
        refine ml_if2 (S1 := (61, [(4, .int (tgf f cp pa (ixf f pa x1 2))), (3, .int (ixf f pa x1 2)), (2, .int (f1 f ((pa (Int32.toNatClampNeg x1)) + 1))), (0, .ref m0), (1, .int x1)], [], M)) (S2 := (57, [(4, .int (tgf f cp pa (ixf f pa x1 2))), (3, .int (ixf f pa x1 2)), (2, .int (f1 f ((pa (Int32.toNatClampNeg x1)) + 1))), (0, .ref m0), (1, .int x1)], [], M)) rfl rfl rfl (fun c_54 => ?_) (fun c_54 => ?_)
        · have c_54 : ¬ (tgf f cp pa (ixf f pa x1 2)) = 9 := of_decide_eq_true c_54
          refine ml_st (S' := (62, [], [.int 0], M)) rfl rfl rfl ?_
          exact ml_ret rfl (r_z (Or.inl rfl)) (⟨⟨_, rfl, Or.inl rfl⟩, rfl⟩)
        · have c_54 : ¬ (¬ (tgf f cp pa (ixf f pa x1 2)) = 9) := of_decide_eq_false c_54
          refine ml_st (S' := (58, [(4, .int (tgf f cp pa (ixf f pa x1 2))), (3, .int (ixf f pa x1 2)), (2, .int (f1 f ((pa (Int32.toNatClampNeg x1)) + 1))), (0, .ref m0), (1, .int x1)], [.int 1], M)) rfl rfl rfl ?_
          refine ml_st (S' := (62, [], [.int 1], M)) rfl rfl rfl ?_
          exact ml_ret rfl (r_z (Or.inr rfl)) (⟨⟨_, rfl, Or.inr rfl⟩, rfl⟩)
    · have c_40 : ¬ ((f1 f ((pa (Int32.toNatClampNeg x1)) + 1)) ≤ 9) := of_decide_eq_false c_40
      refine ml_st (S' := (44, [], [.int 0], M)) rfl rfl rfl ?_
      exact ml_ret rfl (r_z (Or.inl rfl)) (⟨⟨_, rfl, Or.inl rfl⟩, rfl⟩)
set_option maxHeartbeats 2000000 in
theorem rm_checkPool {g : xe_G}  {m0 : Nat} {q : Nat → Nat} {z : Nat × Nat} {I : rI} {R : rR} {M : mi_H} {si : Int32} {n : Nat} {f : Nat → Int32} {S cN : Nat} {sa sl ch : Nat → Int32} {cp mj : Int32} {pa py : Nat → Int32}  (hR : RS g m0 q z I R M) (hk9 : I 9 = some si) (hF : FK n f I R) (hY : SK S cN sa sl ch I R) (hP : PK n f S cp mj pa py I R) {d : Nat} (hd : 7 ≤ d) : mt (mT g) d 192 [.ref m0] M (fun v M' => ∃ (x : Int32) (I' : rI) (R' : rR), v = some (.int x) ∧ RS g m0 q z I' R' M' ∧ eqI [47, 48] I I' ∧ eqR [] R R' ∧ (x = 0 ∨ x = 1) ∧ (x = 0 ∨ EK f cp pa py sa sl ch)) := by
  obtain ⟨d, rfl⟩ : ∃ e, d = e + 1 := ⟨d - 1, by omega⟩
  refine mt_in (b := mb_192 g) rfl rfl ?_
  show ml (mT g) d (mb_192 g).2 (0, [(0, .ref m0)], [], M) _
  have hn := hF.1
  refine ml_st (S' := (1, [(0, .ref m0)], [.int 1], M)) rfl rfl rfl ?_
  refine ml_st (S' := (2, [(0, .ref m0), (1, .int 1)], [], M)) rfl rfl rfl ?_
  have L_2 : ∀ (n_2 : Nat) (i2_1 : Int32), (2147483648 - i2_1.toInt).toNat ≤ n_2 → (1 ≤ i2_1.toInt ∧ i2_1.toInt ≤ cp.toInt ∧ ∀ j : Int32, 0 < j.toInt → j.toInt < i2_1.toInt → tgf f cp pa j ≠ 0 → EOK f cp pa py sa sl ch j) → ml (mT g) d (mb_192 g).2 (2, [(0, .ref m0), (1, .int i2_1)], [], M) (fun v M' => ∃ (x : Int32) (I' : rI) (R' : rR), v = some (.int x) ∧ RS g m0 q z I' R' M' ∧ eqI [47, 48] I I' ∧ eqR [] R R' ∧ (x = 0 ∨ x = 1) ∧ (x = 0 ∨ EK f cp pa py sa sl ch)) := by
    intro n_2
    induction n_2 with
    | zero => intro i2_1 hn; exact (loop_zero hn).elim
    | succ n_2 ih_2 =>
      intro i2_1 hn_2 hi_2
      obtain ⟨hk0, hk1, hall⟩ := hi_2
      refine ml_blk 2 (S' := (4, [(0, .ref m0), (1, .int i2_1)], [.ref m0, .int i2_1], M)) rfl ?_
      refine rg_int (S' := (7, [(0, .ref m0), (1, .int i2_1)], [.int cp, .int i2_1], M)) rfl hR rfl (hP.2.1) rfl ?_
      refine ml_if2 (S1 := (426, [(0, .ref m0), (1, .int i2_1)], [], M)) (S2 := (10, [(0, .ref m0), (1, .int i2_1)], [], M)) rfl rfl rfl (fun c_7 => ?_) (fun c_7 => ?_)
      · have c_7 : cp ≤ i2_1 := of_decide_eq_true c_7
        refine ml_st (S' := (427, [(0, .ref m0), (1, .int i2_1)], [.int 1], M)) rfl rfl rfl ?_
        exact ml_ret rfl (r_z (Or.inr rfl)) (⟨_, _, _, rfl, hR, eqI.rf, eqR.rf, Or.inr rfl, Or.inr (fun j hj => by obtain ⟨a1, a2, -⟩ := tgf_in rfl hj; exact hall j a1 (by have := i_le c_7; omega) hj)⟩)
      · have c_7 : ¬ (cp ≤ i2_1) := of_decide_eq_false c_7
        have hkl := i_nle c_7
        have he0 := hP.e (k := i2_1) (by omega) hkl
        refine ml_st (S' := (11, [(0, .ref m0), (1, .int i2_1)], [.ref m0], M)) rfl rfl rfl ?_
        refine rg_ref (S' := (14, [(0, .ref m0), (1, .int i2_1)], [.ref (q 21)], M)) rfl hR rfl rfl ?_
        refine ml_st (S' := (15, [(0, .ref m0), (1, .int i2_1)], [.ref m0, .ref (q 21)], M)) rfl rfl rfl ?_
        refine rg_int (S' := (18, [(0, .ref m0), (1, .int i2_1)], [.int 0, .ref (q 21)], M)) rfl hR rfl (hP.1) rfl ?_
        refine ml_blk 2 (S' := (20, [(0, .ref m0), (1, .int i2_1)], [.int (0 + i2_1), .ref (q 21)], M)) rfl ?_
        refine ra_ld (k := 21) (S' := (21, [(0, .ref m0), (1, .int i2_1)], [.int (pa (Int32.toNatClampNeg i2_1))], M)) rfl hR rfl (he0.2.1) (he0.1) rfl ?_
        refine ml_st (S' := (22, [(2, .int (pa (Int32.toNatClampNeg i2_1))), (0, .ref m0), (1, .int i2_1)], [], M)) rfl rfl rfl ?_
        refine ml_st (S' := (23, [(2, .int (pa (Int32.toNatClampNeg i2_1))), (0, .ref m0), (1, .int i2_1)], [.int (pa (Int32.toNatClampNeg i2_1))], M)) rfl rfl rfl ?_
        have J_420 : (tgf f cp pa i2_1 ≠ 0 → EOK f cp pa py sa sl ch i2_1) → ml (mT g) d (mb_192 g).2 (420, [(0, .ref m0), (1, .int i2_1)], [], M) (fun v M' => ∃ (x : Int32) (I' : rI) (R' : rR), v = some (.int x) ∧ RS g m0 q z I' R' M' ∧ eqI [47, 48] I I' ∧ eqR [] R R' ∧ (x = 0 ∨ x = 1) ∧ (x = 0 ∨ EK f cp pa py sa sl ch)) := by
          intro hj_420
          refine ml_st (S' := (423, [(1, .int (i2_1 + 1)), (0, .ref m0)], [], M)) rfl rfl rfl ?_
          refine ml_st (S' := (2, [(0, .ref m0), (1, .int (i2_1 + 1))], [], M)) rfl rfl rfl ?_
          exact ih_2 (i2_1 + 1) (loop_inc (Int32.not_le.mp c_7) hn_2) (⟨by rw [inc_lt (Int32.not_le.mp c_7)]; omega, by rw [inc_lt (Int32.not_le.mp c_7)]; omega, fun j h0 h1 h2 => by rw [inc_lt (Int32.not_le.mp c_7)] at h1; by_cases e : j = i2_1; (rw [e] at h2 ⊢; exact hj_420 h2); (exact hall j h0 (by have : j.toInt ≠ i2_1.toInt := fun q => e (Int32.toInt_inj.mp q); omega) h2)⟩)
        refine ml_if (S1 := (29, [(2, .int (pa (Int32.toNatClampNeg i2_1))), (0, .ref m0), (1, .int i2_1)], [], M)) (S2 := (26, [(2, .int (pa (Int32.toNatClampNeg i2_1))), (0, .ref m0), (1, .int i2_1)], [], M)) rfl rfl rfl (fun c_23 => ?_) (fun c_23 => ?_)
        · have c_23 : 0 ≤ (pa (Int32.toNatClampNeg i2_1)) := of_decide_eq_true c_23
          have hp0 : 0 ≤ (pa (Int32.toNatClampNeg i2_1)).toInt := by have q := i_le c_23; have : (0 : Int32).toInt = 0 := rfl; omega
          have hent := he0.2.2.resolve_left (m1_neg hp0)
          have htg : tgf f cp pa i2_1 = (f1 f (pa (Int32.toNatClampNeg i2_1))) := tgf_of (by omega) hkl hp0
          refine ml_blk 2 (S' := (31, [(2, .int (pa (Int32.toNatClampNeg i2_1))), (0, .ref m0), (1, .int i2_1)], [.int (pa (Int32.toNatClampNeg i2_1)), .ref m0], M)) rfl ?_
          refine ml_call (a := [.ref m0, .int (pa (Int32.toNatClampNeg i2_1))]) (rest := []) rfl (hR.okc rfl rfl rfl) rfl rfl (rm_u1 hR hF (hp0) (by have := esz_ge (t := (f1 f (pa (Int32.toNatClampNeg i2_1)))); have := hent.2.1; omega) (by omega)) (fun v11 M12 h13 => ?_)
          obtain ⟨rfl, h13⟩ := h13
          rw [h13]
          show ml _ _ _ (34, [(2, .int (pa (Int32.toNatClampNeg i2_1))), (0, .ref m0), (1, .int i2_1)], [.int (f1 f (pa (Int32.toNatClampNeg i2_1)))], M) _
          refine ml_st (S' := (35, [(3, .int (f1 f (pa (Int32.toNatClampNeg i2_1)))), (2, .int (pa (Int32.toNatClampNeg i2_1))), (0, .ref m0), (1, .int i2_1)], [], M)) rfl rfl rfl ?_
          refine ml_blk 3 (S' := (38, [(3, .int (f1 f (pa (Int32.toNatClampNeg i2_1)))), (2, .int (pa (Int32.toNatClampNeg i2_1))), (0, .ref m0), (1, .int i2_1)], [.int (f1 f (pa (Int32.toNatClampNeg i2_1))), .int i2_1, .ref m0], M)) rfl ?_
          refine ml_st (S' := (39, [(3, .int (f1 f (pa (Int32.toNatClampNeg i2_1)))), (2, .int (pa (Int32.toNatClampNeg i2_1))), (0, .ref m0), (1, .int i2_1)], [.int 1, .int (f1 f (pa (Int32.toNatClampNeg i2_1))), .int i2_1, .ref m0], M)) rfl rfl rfl ?_
          refine ml_call (a := [.ref m0, .int i2_1, .int (f1 f (pa (Int32.toNatClampNeg i2_1))), .int 1]) (rest := []) rfl (hR.okc rfl rfl rfl) rfl rfl (rm_indexes hR hF hP (htg) (by omega)) (fun v14 M15 h16 => ?_)
          obtain ⟨⟨u17, rfl, z18, w19⟩, h16⟩ := h16
          rw [h16]
          show ml _ _ _ (42, [(3, .int (f1 f (pa (Int32.toNatClampNeg i2_1)))), (2, .int (pa (Int32.toNatClampNeg i2_1))), (0, .ref m0), (1, .int i2_1)], [.int u17], M) _
          refine ml_if (S1 := (53, [(3, .int (f1 f (pa (Int32.toNatClampNeg i2_1)))), (2, .int (pa (Int32.toNatClampNeg i2_1))), (0, .ref m0), (1, .int i2_1)], [], M)) (S2 := (45, [(3, .int (f1 f (pa (Int32.toNatClampNeg i2_1)))), (2, .int (pa (Int32.toNatClampNeg i2_1))), (0, .ref m0), (1, .int i2_1)], [], M)) rfl rfl rfl (fun c_42 => ?_) (fun c_42 => ?_)
          · have c_42 : ¬ u17 = 0 := of_decide_eq_true c_42
            have hix := w19.resolve_left c_42
            refine ml_blk 2 (S' := (56, [(3, .int (f1 f (pa (Int32.toNatClampNeg i2_1)))), (2, .int (pa (Int32.toNatClampNeg i2_1))), (0, .ref m0), (1, .int i2_1)], [.int 7, .int (f1 f (pa (Int32.toNatClampNeg i2_1)))], M)) rfl ?_
            have J_84 : ((f1 f (pa (Int32.toNatClampNeg i2_1))) = 7 → 0 < (sL sl (pyf py (ixf f pa i2_1 1))).toInt) → ml (mT g) d (mb_192 g).2 (84, [(0, .ref m0), (1, .int i2_1), (2, .int (pa (Int32.toNatClampNeg i2_1))), (3, .int (f1 f (pa (Int32.toNatClampNeg i2_1))))], [], M) (fun v M' => ∃ (x : Int32) (I' : rI) (R' : rR), v = some (.int x) ∧ RS g m0 q z I' R' M' ∧ eqI [47, 48] I I' ∧ eqR [] R R' ∧ (x = 0 ∨ x = 1) ∧ (x = 0 ∨ EK f cp pa py sa sl ch)) := by
              intro hj_84
              refine ml_blk 2 (S' := (87, [(0, .ref m0), (1, .int i2_1), (2, .int (pa (Int32.toNatClampNeg i2_1))), (3, .int (f1 f (pa (Int32.toNatClampNeg i2_1))))], [.int 12, .int (f1 f (pa (Int32.toNatClampNeg i2_1)))], M)) rfl ?_
              have J_150 : ml (mT g) d (mb_192 g).2 (150, [(0, .ref m0), (1, .int i2_1), (2, .int (pa (Int32.toNatClampNeg i2_1))), (3, .int (f1 f (pa (Int32.toNatClampNeg i2_1))))], [], M) (fun v M' => ∃ (x : Int32) (I' : rI) (R' : rR), v = some (.int x) ∧ RS g m0 q z I' R' M' ∧ eqI [47, 48] I I' ∧ eqR [] R R' ∧ (x = 0 ∨ x = 1) ∧ (x = 0 ∨ EK f cp pa py sa sl ch)) := by
                refine ml_blk 2 (S' := (153, [(0, .ref m0), (1, .int i2_1), (2, .int (pa (Int32.toNatClampNeg i2_1))), (3, .int (f1 f (pa (Int32.toNatClampNeg i2_1))))], [.int 9, .int (f1 f (pa (Int32.toNatClampNeg i2_1)))], M)) rfl ?_
                have J_277 : ((f1 f (pa (Int32.toNatClampNeg i2_1))) = 10 ∨ (f1 f (pa (Int32.toNatClampNeg i2_1))) = 11 → MTX sa sl ch (pyf py (ixf f pa (ixf f pa i2_1 3) 3))) → ml (mT g) d (mb_192 g).2 (277, [(0, .ref m0), (1, .int i2_1), (2, .int (pa (Int32.toNatClampNeg i2_1))), (3, .int (f1 f (pa (Int32.toNatClampNeg i2_1))))], [], M) (fun v M' => ∃ (x : Int32) (I' : rI) (R' : rR), v = some (.int x) ∧ RS g m0 q z I' R' M' ∧ eqI [47, 48] I I' ∧ eqR [] R R' ∧ (x = 0 ∨ x = 1) ∧ (x = 0 ∨ EK f cp pa py sa sl ch)) := by
                  intro hj_277
                  refine ml_blk 2 (S' := (280, [(0, .ref m0), (1, .int i2_1), (2, .int (pa (Int32.toNatClampNeg i2_1))), (3, .int (f1 f (pa (Int32.toNatClampNeg i2_1))))], [.int 15, .int (f1 f (pa (Int32.toNatClampNeg i2_1)))], M)) rfl ?_
                  have J_299 : ml (mT g) d (mb_192 g).2 (299, [(0, .ref m0), (1, .int i2_1), (2, .int (pa (Int32.toNatClampNeg i2_1))), (3, .int (f1 f (pa (Int32.toNatClampNeg i2_1))))], [], M) (fun v M' => ∃ (x : Int32) (I' : rI) (R' : rR), v = some (.int x) ∧ RS g m0 q z I' R' M' ∧ eqI [47, 48] I I' ∧ eqR [] R R' ∧ (x = 0 ∨ x = 1) ∧ (x = 0 ∨ EK f cp pa py sa sl ch)) := by
                    refine ml_blk 2 (S' := (302, [(0, .ref m0), (1, .int i2_1), (2, .int (pa (Int32.toNatClampNeg i2_1))), (3, .int (f1 f (pa (Int32.toNatClampNeg i2_1))))], [.int 16, .int (f1 f (pa (Int32.toNatClampNeg i2_1)))], M)) rfl ?_
                    have J_330 : ml (mT g) d (mb_192 g).2 (330, [(0, .ref m0), (1, .int i2_1), (2, .int (pa (Int32.toNatClampNeg i2_1))), (3, .int (f1 f (pa (Int32.toNatClampNeg i2_1))))], [], M) (fun v M' => ∃ (x : Int32) (I' : rI) (R' : rR), v = some (.int x) ∧ RS g m0 q z I' R' M' ∧ eqI [47, 48] I I' ∧ eqR [] R R' ∧ (x = 0 ∨ x = 1) ∧ (x = 0 ∨ EK f cp pa py sa sl ch)) := by
                      refine ml_blk 2 (S' := (333, [(0, .ref m0), (1, .int i2_1), (2, .int (pa (Int32.toNatClampNeg i2_1))), (3, .int (f1 f (pa (Int32.toNatClampNeg i2_1))))], [.int 17, .int (f1 f (pa (Int32.toNatClampNeg i2_1)))], M)) rfl ?_
                      have J_342 : ((f1 f (pa (Int32.toNatClampNeg i2_1))) = 17 ∨ (f1 f (pa (Int32.toNatClampNeg i2_1))) = 18) → ml (mT g) d (mb_192 g).2 (342, [(0, .ref m0), (1, .int i2_1), (2, .int (pa (Int32.toNatClampNeg i2_1))), (3, .int (f1 f (pa (Int32.toNatClampNeg i2_1))))], [], M) (fun v M' => ∃ (x : Int32) (I' : rI) (R' : rR), v = some (.int x) ∧ RS g m0 q z I' R' M' ∧ eqI [47, 48] I I' ∧ eqR [] R R' ∧ (x = 0 ∨ x = 1) ∧ (x = 0 ∨ EK f cp pa py sa sl ch)) := by
                        intro hj_342
                        have hi17 := hix.2.2.2.2 hj_342
                        have hyA := hP.y hi17.2.1
                        have hyB := hP.y hi17.2.2
                        have hz17 : (f1 f (pa (Int32.toNatClampNeg i2_1))) ≠ 0 := (fun e => by rcases hj_342 with h | h <;> rw [h] at e <;> exact absurd e (by decide))
                        refine ml_blk 3 (S' := (345, [(0, .ref m0), (1, .int i2_1), (2, .int (pa (Int32.toNatClampNeg i2_1))), (3, .int (f1 f (pa (Int32.toNatClampNeg i2_1))))], [.ref m0, .ref m0, .ref m0], M)) rfl ?_
                        refine ml_blk 2 (S' := (347, [(0, .ref m0), (1, .int i2_1), (2, .int (pa (Int32.toNatClampNeg i2_1))), (3, .int (f1 f (pa (Int32.toNatClampNeg i2_1))))], [.int 3, .int i2_1, .ref m0, .ref m0, .ref m0], M)) rfl ?_
                        refine ml_call (a := [.ref m0, .int i2_1, .int 3]) (rest := [.ref m0, .ref m0]) rfl (hR.okc rfl rfl rfl) rfl rfl (rm_index hR hF hP ((hP.tg htg hz17).1) ((hP.tg htg hz17).2.1) ((hP.tg htg hz17).2.2.1) (by decide) (by have q := (hP.tg htg hz17).2.2.2.2; rw [show esz _ = 5 from esz_17 hj_342] at q; have : (3 : Int32).toInt = 3 := rfl; omega) (by omega)) (fun v20 M21 h22 => ?_)
                        obtain ⟨rfl, h22⟩ := h22
                        rw [h22]
                        show ml _ _ _ (350, [(0, .ref m0), (1, .int i2_1), (2, .int (pa (Int32.toNatClampNeg i2_1))), (3, .int (f1 f (pa (Int32.toNatClampNeg i2_1))))], [.int (ixf f pa i2_1 3), .ref m0, .ref m0], M) _
                        refine ml_st (S' := (351, [(0, .ref m0), (1, .int i2_1), (2, .int (pa (Int32.toNatClampNeg i2_1))), (3, .int (f1 f (pa (Int32.toNatClampNeg i2_1))))], [.int 1, .int (ixf f pa i2_1 3), .ref m0, .ref m0], M)) rfl rfl rfl ?_
                        refine ml_call (a := [.ref m0, .int (ixf f pa i2_1 3), .int 1]) (rest := [.ref m0]) rfl (hR.okc rfl rfl rfl) rfl rfl (rm_index hR hF hP ((hP.tg hi17.1 (by decide)).1) ((hP.tg hi17.1 (by decide)).2.1) ((hP.tg hi17.1 (by decide)).2.2.1) (by decide) (by have q := (hP.tg hi17.1 (by decide)).2.2.2.2; rw [show esz _ = 5 from rfl] at q; have : (1 : Int32).toInt = 1 := rfl; omega) (by omega)) (fun v23 M24 h25 => ?_)
                        obtain ⟨rfl, h25⟩ := h25
                        rw [h25]
                        show ml _ _ _ (354, [(0, .ref m0), (1, .int i2_1), (2, .int (pa (Int32.toNatClampNeg i2_1))), (3, .int (f1 f (pa (Int32.toNatClampNeg i2_1))))], [.int (ixf f pa (ixf f pa i2_1 3) 1), .ref m0], M) _
                        refine ml_call (a := [.ref m0, .int (ixf f pa (ixf f pa i2_1 3) 1)]) (rest := []) rfl (hR.okc rfl rfl rfl) rfl rfl (rm_symOf hR hP (hi17.2.1) (by omega)) (fun v26 M27 h28 => ?_)
                        obtain ⟨rfl, h28⟩ := h28
                        rw [h28]
                        show ml _ _ _ (357, [(0, .ref m0), (1, .int i2_1), (2, .int (pa (Int32.toNatClampNeg i2_1))), (3, .int (f1 f (pa (Int32.toNatClampNeg i2_1))))], [.int (pyf py (ixf f pa (ixf f pa i2_1 3) 1))], M) _
                        refine ml_st (S' := (359, [(4, .int (pyf py (ixf f pa (ixf f pa i2_1 3) 1))), (0, .ref m0), (1, .int i2_1), (2, .int (pa (Int32.toNatClampNeg i2_1))), (3, .int (f1 f (pa (Int32.toNatClampNeg i2_1))))], [], M)) rfl rfl rfl ?_
                        refine ml_blk 3 (S' := (362, [(4, .int (pyf py (ixf f pa (ixf f pa i2_1 3) 1))), (0, .ref m0), (1, .int i2_1), (2, .int (pa (Int32.toNatClampNeg i2_1))), (3, .int (f1 f (pa (Int32.toNatClampNeg i2_1))))], [.ref m0, .ref m0, .ref m0], M)) rfl ?_
                        refine ml_blk 2 (S' := (364, [(4, .int (pyf py (ixf f pa (ixf f pa i2_1 3) 1))), (0, .ref m0), (1, .int i2_1), (2, .int (pa (Int32.toNatClampNeg i2_1))), (3, .int (f1 f (pa (Int32.toNatClampNeg i2_1))))], [.int 3, .int i2_1, .ref m0, .ref m0, .ref m0], M)) rfl ?_
                        refine ml_call (a := [.ref m0, .int i2_1, .int 3]) (rest := [.ref m0, .ref m0]) rfl (hR.okc rfl rfl rfl) rfl rfl (rm_index hR hF hP ((hP.tg htg hz17).1) ((hP.tg htg hz17).2.1) ((hP.tg htg hz17).2.2.1) (by decide) (by have q := (hP.tg htg hz17).2.2.2.2; rw [show esz _ = 5 from esz_17 hj_342] at q; have : (3 : Int32).toInt = 3 := rfl; omega) (by omega)) (fun v29 M30 h31 => ?_)
                        obtain ⟨rfl, h31⟩ := h31
                        rw [h31]
                        show ml _ _ _ (367, [(4, .int (pyf py (ixf f pa (ixf f pa i2_1 3) 1))), (0, .ref m0), (1, .int i2_1), (2, .int (pa (Int32.toNatClampNeg i2_1))), (3, .int (f1 f (pa (Int32.toNatClampNeg i2_1))))], [.int (ixf f pa i2_1 3), .ref m0, .ref m0], M) _
                        refine ml_st (S' := (368, [(4, .int (pyf py (ixf f pa (ixf f pa i2_1 3) 1))), (0, .ref m0), (1, .int i2_1), (2, .int (pa (Int32.toNatClampNeg i2_1))), (3, .int (f1 f (pa (Int32.toNatClampNeg i2_1))))], [.int 3, .int (ixf f pa i2_1 3), .ref m0, .ref m0], M)) rfl rfl rfl ?_
                        refine ml_call (a := [.ref m0, .int (ixf f pa i2_1 3), .int 3]) (rest := [.ref m0]) rfl (hR.okc rfl rfl rfl) rfl rfl (rm_index hR hF hP ((hP.tg hi17.1 (by decide)).1) ((hP.tg hi17.1 (by decide)).2.1) ((hP.tg hi17.1 (by decide)).2.2.1) (by decide) (by have q := (hP.tg hi17.1 (by decide)).2.2.2.2; rw [show esz _ = 5 from rfl] at q; have : (3 : Int32).toInt = 3 := rfl; omega) (by omega)) (fun v32 M33 h34 => ?_)
                        obtain ⟨rfl, h34⟩ := h34
                        rw [h34]
                        show ml _ _ _ (371, [(4, .int (pyf py (ixf f pa (ixf f pa i2_1 3) 1))), (0, .ref m0), (1, .int i2_1), (2, .int (pa (Int32.toNatClampNeg i2_1))), (3, .int (f1 f (pa (Int32.toNatClampNeg i2_1))))], [.int (ixf f pa (ixf f pa i2_1 3) 3), .ref m0], M) _
                        refine ml_call (a := [.ref m0, .int (ixf f pa (ixf f pa i2_1 3) 3)]) (rest := []) rfl (hR.okc rfl rfl rfl) rfl rfl (rm_symOf hR hP (hi17.2.2) (by omega)) (fun v35 M36 h37 => ?_)
                        obtain ⟨rfl, h37⟩ := h37
                        rw [h37]
                        show ml _ _ _ (374, [(4, .int (pyf py (ixf f pa (ixf f pa i2_1 3) 1))), (0, .ref m0), (1, .int i2_1), (2, .int (pa (Int32.toNatClampNeg i2_1))), (3, .int (f1 f (pa (Int32.toNatClampNeg i2_1))))], [.int (pyf py (ixf f pa (ixf f pa i2_1 3) 3))], M) _
                        refine ml_st (S' := (376, [(5, .int (pyf py (ixf f pa (ixf f pa i2_1 3) 3))), (4, .int (pyf py (ixf f pa (ixf f pa i2_1 3) 1))), (0, .ref m0), (1, .int i2_1), (2, .int (pa (Int32.toNatClampNeg i2_1))), (3, .int (f1 f (pa (Int32.toNatClampNeg i2_1))))], [], M)) rfl rfl rfl ?_
                        refine ml_blk 2 (S' := (379, [(5, .int (pyf py (ixf f pa (ixf f pa i2_1 3) 3))), (4, .int (pyf py (ixf f pa (ixf f pa i2_1 3) 1))), (0, .ref m0), (1, .int i2_1), (2, .int (pa (Int32.toNatClampNeg i2_1))), (3, .int (f1 f (pa (Int32.toNatClampNeg i2_1))))], [.int (pyf py (ixf f pa (ixf f pa i2_1 3) 1)), .ref m0], M)) rfl ?_
                        refine ml_call (a := [.ref m0, .int (pyf py (ixf f pa (ixf f pa i2_1 3) 1))]) (rest := []) rfl (hR.okc rfl rfl rfl) rfl rfl (rm_angles hR hY (hyA.2.2.1) (hyA.2.2.2) (by omega)) (fun v38 M39 h40 => ?_)
                        obtain ⟨⟨u41, rfl, z42⟩, h40⟩ := h40
                        rw [h40]
                        show ml _ _ _ (382, [(5, .int (pyf py (ixf f pa (ixf f pa i2_1 3) 3))), (4, .int (pyf py (ixf f pa (ixf f pa i2_1 3) 1))), (0, .ref m0), (1, .int i2_1), (2, .int (pa (Int32.toNatClampNeg i2_1))), (3, .int (f1 f (pa (Int32.toNatClampNeg i2_1))))], [.int u41], M) _
                        refine ml_if (S1 := (412, [(0, .ref m0), (2, .int (pa (Int32.toNatClampNeg i2_1)))], [], M)) (S2 := (385, [(5, .int (pyf py (ixf f pa (ixf f pa i2_1 3) 3))), (4, .int (pyf py (ixf f pa (ixf f pa i2_1 3) 1))), (0, .ref m0), (1, .int i2_1), (2, .int (pa (Int32.toNatClampNeg i2_1))), (3, .int (f1 f (pa (Int32.toNatClampNeg i2_1))))], [], M)) rfl rfl rfl (fun c_382 => ?_) (fun c_382 => ?_)
                        · have c_382 : ¬ u41 = 0 := of_decide_eq_true c_382
                          refine ml_blk 3 (S' := (416, [(0, .ref m0), (2, .int (pa (Int32.toNatClampNeg i2_1)))], [.int (pa (Int32.toNatClampNeg i2_1)), .int 14, .ref m0], M)) rfl ?_
                          refine ml_call (a := [.ref m0, .int 14, .int (pa (Int32.toNatClampNeg i2_1))]) (rest := []) rfl (hR.okc rfl rfl rfl) rfl rfl (rm_wrong hR (by omega)) (fun v43 M44 h45 => ?_)
                          obtain ⟨u51, I46, R47, rfl, hR48, hI49, hV50, z52, w53⟩ := h45
                          show ml _ _ _ (419, [(0, .ref m0), (2, .int (pa (Int32.toNatClampNeg i2_1)))], [.int u51], M44) _
                          exact ml_ret rfl (r_z (z52)) (⟨_, _, _, rfl, hR48, (eqI.rf.tr hI49 (by decide)), (eqR.rf.tr hV50 (by decide)), z52, Or.inl w53⟩)
                        · have c_382 : ¬ (¬ u41 = 0) := of_decide_eq_false c_382
                          refine ml_blk 2 (S' := (388, [(5, .int (pyf py (ixf f pa (ixf f pa i2_1 3) 3))), (4, .int (pyf py (ixf f pa (ixf f pa i2_1 3) 1))), (0, .ref m0), (1, .int i2_1), (2, .int (pa (Int32.toNatClampNeg i2_1))), (3, .int (f1 f (pa (Int32.toNatClampNeg i2_1))))], [.int 17, .int (f1 f (pa (Int32.toNatClampNeg i2_1)))], M)) rfl ?_
                          refine ml_if2 (S1 := (403, [(5, .int (pyf py (ixf f pa (ixf f pa i2_1 3) 3))), (4, .int (pyf py (ixf f pa (ixf f pa i2_1 3) 1))), (0, .ref m0), (1, .int i2_1), (2, .int (pa (Int32.toNatClampNeg i2_1))), (3, .int (f1 f (pa (Int32.toNatClampNeg i2_1))))], [], M)) (S2 := (391, [(5, .int (pyf py (ixf f pa (ixf f pa i2_1 3) 3))), (4, .int (pyf py (ixf f pa (ixf f pa i2_1 3) 1))), (0, .ref m0), (1, .int i2_1), (2, .int (pa (Int32.toNatClampNeg i2_1))), (3, .int (f1 f (pa (Int32.toNatClampNeg i2_1))))], [], M)) rfl rfl rfl (fun c_388 => ?_) (fun c_388 => ?_)
                          · have c_388 : ¬ (f1 f (pa (Int32.toNatClampNeg i2_1))) = 17 := of_decide_eq_true c_388
                            refine ml_blk 2 (S' := (406, [(5, .int (pyf py (ixf f pa (ixf f pa i2_1 3) 3))), (4, .int (pyf py (ixf f pa (ixf f pa i2_1 3) 1))), (0, .ref m0), (1, .int i2_1), (2, .int (pa (Int32.toNatClampNeg i2_1))), (3, .int (f1 f (pa (Int32.toNatClampNeg i2_1))))], [.int (pyf py (ixf f pa (ixf f pa i2_1 3) 3)), .ref m0], M)) rfl ?_
                            refine ml_call (a := [.ref m0, .int (pyf py (ixf f pa (ixf f pa i2_1 3) 3))]) (rest := []) rfl (hR.okc rfl rfl rfl) rfl rfl (rm_isMethod hR hY (hyB.2.2.1) (hyB.2.2.2) (by omega)) (fun v54 M55 h56 => ?_)
                            obtain ⟨⟨u57, rfl, z58, w59⟩, h56⟩ := h56
                            rw [h56]
                            show ml _ _ _ (409, [(5, .int (pyf py (ixf f pa (ixf f pa i2_1 3) 3))), (4, .int (pyf py (ixf f pa (ixf f pa i2_1 3) 1))), (0, .ref m0), (1, .int i2_1), (2, .int (pa (Int32.toNatClampNeg i2_1))), (3, .int (f1 f (pa (Int32.toNatClampNeg i2_1))))], [.int u57], M) _
                            refine ml_if (S1 := (420, [(0, .ref m0), (1, .int i2_1)], [], M)) (S2 := (412, [(0, .ref m0), (2, .int (pa (Int32.toNatClampNeg i2_1)))], [], M)) rfl rfl rfl (fun c_409 => ?_) (fun c_409 => ?_)
                            · have c_409 : ¬ u57 = 0 := of_decide_eq_true c_409
                              exact J_420  (fun _ => ⟨by rw [htg]; exact hix, by rw [htg]; exact hj_84, by rw [htg]; exact (fun h => by rcases h with h | h | h; exact hj_277 (Or.inl h); exact hj_277 (Or.inr h); exact w59.resolve_left c_409), by rw [htg]; exact (fun h => absurd h c_388)⟩)
                            · have c_409 : ¬ (¬ u57 = 0) := of_decide_eq_false c_409
                              refine ml_blk 3 (S' := (416, [(0, .ref m0), (2, .int (pa (Int32.toNatClampNeg i2_1)))], [.int (pa (Int32.toNatClampNeg i2_1)), .int 14, .ref m0], M)) rfl ?_
                              refine ml_call (a := [.ref m0, .int 14, .int (pa (Int32.toNatClampNeg i2_1))]) (rest := []) rfl (hR.okc rfl rfl rfl) rfl rfl (rm_wrong hR (by omega)) (fun v60 M61 h62 => ?_)
                              obtain ⟨u68, I63, R64, rfl, hR65, hI66, hV67, z69, w70⟩ := h62
                              show ml _ _ _ (419, [(0, .ref m0), (2, .int (pa (Int32.toNatClampNeg i2_1)))], [.int u68], M61) _
                              exact ml_ret rfl (r_z (z69)) (⟨_, _, _, rfl, hR65, (eqI.rf.tr hI66 (by decide)), (eqR.rf.tr hV67 (by decide)), z69, Or.inl w70⟩)
                          · have c_388 : ¬ (¬ (f1 f (pa (Int32.toNatClampNeg i2_1))) = 17) := of_decide_eq_false c_388
                            refine ml_blk 2 (S' := (394, [(5, .int (pyf py (ixf f pa (ixf f pa i2_1 3) 3))), (4, .int (pyf py (ixf f pa (ixf f pa i2_1 3) 1))), (0, .ref m0), (1, .int i2_1), (2, .int (pa (Int32.toNatClampNeg i2_1))), (3, .int (f1 f (pa (Int32.toNatClampNeg i2_1))))], [.int (pyf py (ixf f pa (ixf f pa i2_1 3) 3)), .ref m0], M)) rfl ?_
                            refine ml_call (a := [.ref m0, .int (pyf py (ixf f pa (ixf f pa i2_1 3) 3))]) (rest := []) rfl (hR.okc rfl rfl rfl) rfl rfl (rm_isField hR hY (hyB.2.2.1) (hyB.2.2.2) (by omega)) (fun v71 M72 h73 => ?_)
                            obtain ⟨⟨u74, rfl, z75, w76⟩, h73⟩ := h73
                            rw [h73]
                            show ml _ _ _ (397, [(5, .int (pyf py (ixf f pa (ixf f pa i2_1 3) 3))), (4, .int (pyf py (ixf f pa (ixf f pa i2_1 3) 1))), (0, .ref m0), (1, .int i2_1), (2, .int (pa (Int32.toNatClampNeg i2_1))), (3, .int (f1 f (pa (Int32.toNatClampNeg i2_1))))], [.int u74], M) _
                            refine ml_if (S1 := (412, [(0, .ref m0), (2, .int (pa (Int32.toNatClampNeg i2_1)))], [], M)) (S2 := (400, [(5, .int (pyf py (ixf f pa (ixf f pa i2_1 3) 3))), (4, .int (pyf py (ixf f pa (ixf f pa i2_1 3) 1))), (0, .ref m0), (1, .int i2_1), (2, .int (pa (Int32.toNatClampNeg i2_1))), (3, .int (f1 f (pa (Int32.toNatClampNeg i2_1))))], [], M)) rfl rfl rfl (fun c_397 => ?_) (fun c_397 => ?_)
                            · have c_397 : u74 = 0 := of_decide_eq_true c_397
                              refine ml_blk 3 (S' := (416, [(0, .ref m0), (2, .int (pa (Int32.toNatClampNeg i2_1)))], [.int (pa (Int32.toNatClampNeg i2_1)), .int 14, .ref m0], M)) rfl ?_
                              refine ml_call (a := [.ref m0, .int 14, .int (pa (Int32.toNatClampNeg i2_1))]) (rest := []) rfl (hR.okc rfl rfl rfl) rfl rfl (rm_wrong hR (by omega)) (fun v77 M78 h79 => ?_)
                              obtain ⟨u85, I80, R81, rfl, hR82, hI83, hV84, z86, w87⟩ := h79
                              show ml _ _ _ (419, [(0, .ref m0), (2, .int (pa (Int32.toNatClampNeg i2_1)))], [.int u85], M78) _
                              exact ml_ret rfl (r_z (z86)) (⟨_, _, _, rfl, hR82, (eqI.rf.tr hI83 (by decide)), (eqR.rf.tr hV84 (by decide)), z86, Or.inl w87⟩)
                            · have c_397 : ¬ (u74 = 0) := of_decide_eq_false c_397
                              refine ml_st (S' := (420, [(0, .ref m0), (1, .int i2_1)], [], M)) rfl rfl rfl ?_
                              exact J_420  (fun _ => ⟨by rw [htg]; exact hix, by rw [htg]; exact hj_84, by rw [htg]; exact (fun h => by rcases h with h | h | h; exact hj_277 (Or.inl h); exact hj_277 (Or.inr h); exact absurd ((Decidable.not_not.mp c_388).symm.trans h) (by decide)), by rw [htg]; exact (fun h => w76.resolve_left c_397)⟩)
                      refine ml_if2 (S1 := (342, [(0, .ref m0), (1, .int i2_1), (2, .int (pa (Int32.toNatClampNeg i2_1))), (3, .int (f1 f (pa (Int32.toNatClampNeg i2_1))))], [], M)) (S2 := (336, [(0, .ref m0), (1, .int i2_1), (2, .int (pa (Int32.toNatClampNeg i2_1))), (3, .int (f1 f (pa (Int32.toNatClampNeg i2_1))))], [], M)) rfl rfl rfl (fun c_333 => ?_) (fun c_333 => ?_)
                      · have c_333 : (f1 f (pa (Int32.toNatClampNeg i2_1))) = 17 := of_decide_eq_true c_333
                        exact J_342  (Or.inl c_333)
                      · have c_333 : ¬ ((f1 f (pa (Int32.toNatClampNeg i2_1))) = 17) := of_decide_eq_false c_333
                        refine ml_blk 2 (S' := (339, [(0, .ref m0), (1, .int i2_1), (2, .int (pa (Int32.toNatClampNeg i2_1))), (3, .int (f1 f (pa (Int32.toNatClampNeg i2_1))))], [.int 18, .int (f1 f (pa (Int32.toNatClampNeg i2_1)))], M)) rfl ?_
                        refine ml_if2 (S1 := (420, [(0, .ref m0), (1, .int i2_1)], [], M)) (S2 := (342, [(0, .ref m0), (1, .int i2_1), (2, .int (pa (Int32.toNatClampNeg i2_1))), (3, .int (f1 f (pa (Int32.toNatClampNeg i2_1))))], [], M)) rfl rfl rfl (fun c_339 => ?_) (fun c_339 => ?_)
                        · have c_339 : ¬ (f1 f (pa (Int32.toNatClampNeg i2_1))) = 18 := of_decide_eq_true c_339
                          exact J_420  (fun _ => ⟨by rw [htg]; exact hix, by rw [htg]; exact hj_84, by rw [htg]; exact (fun h => by rcases h with h | h | h; exact hj_277 (Or.inl h); exact hj_277 (Or.inr h); exact absurd h c_339), by rw [htg]; exact (fun h => absurd h c_333)⟩)
                        · have c_339 : ¬ (¬ (f1 f (pa (Int32.toNatClampNeg i2_1))) = 18) := of_decide_eq_false c_339
                          exact J_342  (Or.inr (Decidable.not_not.mp c_339))
                    refine ml_if2 (S1 := (330, [(0, .ref m0), (1, .int i2_1), (2, .int (pa (Int32.toNatClampNeg i2_1))), (3, .int (f1 f (pa (Int32.toNatClampNeg i2_1))))], [], M)) (S2 := (305, [(0, .ref m0), (1, .int i2_1), (2, .int (pa (Int32.toNatClampNeg i2_1))), (3, .int (f1 f (pa (Int32.toNatClampNeg i2_1))))], [], M)) rfl rfl rfl (fun c_302 => ?_) (fun c_302 => ?_)
                    · have c_302 : ¬ (f1 f (pa (Int32.toNatClampNeg i2_1))) = 16 := of_decide_eq_true c_302
                      exact J_330 
                    · have c_302 : ¬ (¬ (f1 f (pa (Int32.toNatClampNeg i2_1))) = 16) := of_decide_eq_false c_302
                      have hi7 := hix.1 (Or.inr (Or.inr (Or.inl (Decidable.not_not.mp c_302))))
                      have hy7 := hP.y hi7
                      refine ml_blk 3 (S' := (308, [(0, .ref m0), (1, .int i2_1), (2, .int (pa (Int32.toNatClampNeg i2_1))), (3, .int (f1 f (pa (Int32.toNatClampNeg i2_1))))], [.ref m0, .ref m0, .ref m0], M)) rfl ?_
                      refine ml_blk 2 (S' := (310, [(0, .ref m0), (1, .int i2_1), (2, .int (pa (Int32.toNatClampNeg i2_1))), (3, .int (f1 f (pa (Int32.toNatClampNeg i2_1))))], [.int 1, .int i2_1, .ref m0, .ref m0, .ref m0], M)) rfl ?_
                      refine ml_call (a := [.ref m0, .int i2_1, .int 1]) (rest := [.ref m0, .ref m0]) rfl (hR.okc rfl rfl rfl) rfl rfl (rm_index hR hF hP ((hP.tg (htg.trans (Decidable.not_not.mp c_302)) (by decide)).1) ((hP.tg (htg.trans (Decidable.not_not.mp c_302)) (by decide)).2.1) ((hP.tg (htg.trans (Decidable.not_not.mp c_302)) (by decide)).2.2.1) (by decide) (by have q := (hP.tg (htg.trans (Decidable.not_not.mp c_302)) (by decide)).2.2.2.2; rw [show esz _ = 3 from rfl] at q; have : (1 : Int32).toInt = 1 := rfl; omega) (by omega)) (fun v88 M89 h90 => ?_)
                      obtain ⟨rfl, h90⟩ := h90
                      rw [h90]
                      show ml _ _ _ (313, [(0, .ref m0), (1, .int i2_1), (2, .int (pa (Int32.toNatClampNeg i2_1))), (3, .int (f1 f (pa (Int32.toNatClampNeg i2_1))))], [.int (ixf f pa i2_1 1), .ref m0, .ref m0], M) _
                      refine ml_call (a := [.ref m0, .int (ixf f pa i2_1 1)]) (rest := [.ref m0]) rfl (hR.okc rfl rfl rfl) rfl rfl (rm_symOf hR hP (hi7) (by omega)) (fun v91 M92 h93 => ?_)
                      obtain ⟨rfl, h93⟩ := h93
                      rw [h93]
                      show ml _ _ _ (316, [(0, .ref m0), (1, .int i2_1), (2, .int (pa (Int32.toNatClampNeg i2_1))), (3, .int (f1 f (pa (Int32.toNatClampNeg i2_1))))], [.int (pyf py (ixf f pa i2_1 1)), .ref m0], M) _
                      refine ml_call (a := [.ref m0, .int (pyf py (ixf f pa i2_1 1))]) (rest := []) rfl (hR.okc rfl rfl rfl) rfl rfl (rm_isMethod hR hY (hy7.2.2.1) (hy7.2.2.2) (by omega)) (fun v94 M95 h96 => ?_)
                      obtain ⟨⟨u97, rfl, z98, w99⟩, h96⟩ := h96
                      rw [h96]
                      show ml _ _ _ (319, [(0, .ref m0), (1, .int i2_1), (2, .int (pa (Int32.toNatClampNeg i2_1))), (3, .int (f1 f (pa (Int32.toNatClampNeg i2_1))))], [.int u97], M) _
                      refine ml_if (S1 := (330, [(0, .ref m0), (1, .int i2_1), (2, .int (pa (Int32.toNatClampNeg i2_1))), (3, .int (f1 f (pa (Int32.toNatClampNeg i2_1))))], [], M)) (S2 := (322, [(0, .ref m0), (1, .int i2_1), (2, .int (pa (Int32.toNatClampNeg i2_1))), (3, .int (f1 f (pa (Int32.toNatClampNeg i2_1))))], [], M)) rfl rfl rfl (fun c_319 => ?_) (fun c_319 => ?_)
                      · have c_319 : ¬ u97 = 0 := of_decide_eq_true c_319
                        exact J_330 
                      · have c_319 : ¬ (¬ u97 = 0) := of_decide_eq_false c_319
                        refine ml_blk 3 (S' := (326, [(0, .ref m0), (1, .int i2_1), (2, .int (pa (Int32.toNatClampNeg i2_1))), (3, .int (f1 f (pa (Int32.toNatClampNeg i2_1))))], [.int (pa (Int32.toNatClampNeg i2_1)), .int 14, .ref m0], M)) rfl ?_
                        refine ml_call (a := [.ref m0, .int 14, .int (pa (Int32.toNatClampNeg i2_1))]) (rest := []) rfl (hR.okc rfl rfl rfl) rfl rfl (rm_wrong hR (by omega)) (fun v100 M101 h102 => ?_)
                        obtain ⟨u108, I103, R104, rfl, hR105, hI106, hV107, z109, w110⟩ := h102
                        show ml _ _ _ (329, [(0, .ref m0), (1, .int i2_1), (2, .int (pa (Int32.toNatClampNeg i2_1))), (3, .int (f1 f (pa (Int32.toNatClampNeg i2_1))))], [.int u108], M101) _
                        exact ml_ret rfl (r_z (z109)) (⟨_, _, _, rfl, hR105, (eqI.rf.tr hI106 (by decide)), (eqR.rf.tr hV107 (by decide)), z109, Or.inl w110⟩)
                  refine ml_if2 (S1 := (299, [(0, .ref m0), (1, .int i2_1), (2, .int (pa (Int32.toNatClampNeg i2_1))), (3, .int (f1 f (pa (Int32.toNatClampNeg i2_1))))], [], M)) (S2 := (283, [(0, .ref m0), (1, .int i2_1), (2, .int (pa (Int32.toNatClampNeg i2_1))), (3, .int (f1 f (pa (Int32.toNatClampNeg i2_1))))], [], M)) rfl rfl rfl (fun c_280 => ?_) (fun c_280 => ?_)
                  · have c_280 : ¬ (f1 f (pa (Int32.toNatClampNeg i2_1))) = 15 := of_decide_eq_true c_280
                    exact J_299 
                  · have c_280 : ¬ (¬ (f1 f (pa (Int32.toNatClampNeg i2_1))) = 15) := of_decide_eq_false c_280
                    refine ml_blk 2 (S' := (285, [(0, .ref m0), (1, .int i2_1), (2, .int (pa (Int32.toNatClampNeg i2_1))), (3, .int (f1 f (pa (Int32.toNatClampNeg i2_1))))], [.int i2_1, .ref m0], M)) rfl ?_
                    refine ml_call (a := [.ref m0, .int i2_1]) (rest := []) rfl (hR.okc rfl rfl rfl) rfl rfl (rm_handleEntry hR (hk9) hF hY hP (htg.trans (Decidable.not_not.mp c_280)) (by have q := hix; rw [show (f1 f (pa (Int32.toNatClampNeg i2_1))) = 15 from Decidable.not_not.mp c_280] at q; exact q) (by omega)) (fun v111 M112 h113 => ?_)
                    obtain ⟨⟨u114, rfl, z115⟩, h113⟩ := h113
                    rw [h113]
                    show ml _ _ _ (288, [(0, .ref m0), (1, .int i2_1), (2, .int (pa (Int32.toNatClampNeg i2_1))), (3, .int (f1 f (pa (Int32.toNatClampNeg i2_1))))], [.int u114], M) _
                    refine ml_if (S1 := (299, [(0, .ref m0), (1, .int i2_1), (2, .int (pa (Int32.toNatClampNeg i2_1))), (3, .int (f1 f (pa (Int32.toNatClampNeg i2_1))))], [], M)) (S2 := (291, [(0, .ref m0), (1, .int i2_1), (2, .int (pa (Int32.toNatClampNeg i2_1))), (3, .int (f1 f (pa (Int32.toNatClampNeg i2_1))))], [], M)) rfl rfl rfl (fun c_288 => ?_) (fun c_288 => ?_)
                    · have c_288 : ¬ u114 = 0 := of_decide_eq_true c_288
                      exact J_299 
                    · have c_288 : ¬ (¬ u114 = 0) := of_decide_eq_false c_288
                      refine ml_blk 3 (S' := (295, [(0, .ref m0), (1, .int i2_1), (2, .int (pa (Int32.toNatClampNeg i2_1))), (3, .int (f1 f (pa (Int32.toNatClampNeg i2_1))))], [.int (pa (Int32.toNatClampNeg i2_1)), .int 13, .ref m0], M)) rfl ?_
                      refine ml_call (a := [.ref m0, .int 13, .int (pa (Int32.toNatClampNeg i2_1))]) (rest := []) rfl (hR.okc rfl rfl rfl) rfl rfl (rm_wrong hR (by omega)) (fun v116 M117 h118 => ?_)
                      obtain ⟨u124, I119, R120, rfl, hR121, hI122, hV123, z125, w126⟩ := h118
                      show ml _ _ _ (298, [(0, .ref m0), (1, .int i2_1), (2, .int (pa (Int32.toNatClampNeg i2_1))), (3, .int (f1 f (pa (Int32.toNatClampNeg i2_1))))], [.int u124], M117) _
                      exact ml_ret rfl (r_z (z125)) (⟨_, _, _, rfl, hR121, (eqI.rf.tr hI122 (by decide)), (eqR.rf.tr hV123 (by decide)), z125, Or.inl w126⟩)
                refine ml_if2 (S1 := (277, [(0, .ref m0), (1, .int i2_1), (2, .int (pa (Int32.toNatClampNeg i2_1))), (3, .int (f1 f (pa (Int32.toNatClampNeg i2_1))))], [], M)) (S2 := (156, [(0, .ref m0), (1, .int i2_1), (2, .int (pa (Int32.toNatClampNeg i2_1))), (3, .int (f1 f (pa (Int32.toNatClampNeg i2_1))))], [], M)) rfl rfl rfl (fun c_153 => ?_) (fun c_153 => ?_)
                · have c_153 : (f1 f (pa (Int32.toNatClampNeg i2_1))) < 9 := of_decide_eq_true c_153
                  exact J_277  (fun h => by have q := i_lt c_153; rcases h with h | h <;> (rw [h] at q; exact absurd q (by decide)))
                · have c_153 : ¬ ((f1 f (pa (Int32.toNatClampNeg i2_1))) < 9) := of_decide_eq_false c_153
                  refine ml_blk 2 (S' := (159, [(0, .ref m0), (1, .int i2_1), (2, .int (pa (Int32.toNatClampNeg i2_1))), (3, .int (f1 f (pa (Int32.toNatClampNeg i2_1))))], [.int 11, .int (f1 f (pa (Int32.toNatClampNeg i2_1)))], M)) rfl ?_
                  refine ml_if2 (S1 := (277, [(0, .ref m0), (1, .int i2_1), (2, .int (pa (Int32.toNatClampNeg i2_1))), (3, .int (f1 f (pa (Int32.toNatClampNeg i2_1))))], [], M)) (S2 := (162, [(0, .ref m0), (1, .int i2_1), (2, .int (pa (Int32.toNatClampNeg i2_1))), (3, .int (f1 f (pa (Int32.toNatClampNeg i2_1))))], [], M)) rfl rfl rfl (fun c_159 => ?_) (fun c_159 => ?_)
                  · have c_159 : 11 < (f1 f (pa (Int32.toNatClampNeg i2_1))) := of_decide_eq_true c_159
                    exact J_277  (fun h => by have q := i_lt c_159; rcases h with h | h <;> (rw [h] at q; exact absurd q (by decide)))
                  · have c_159 : ¬ (11 < (f1 f (pa (Int32.toNatClampNeg i2_1)))) := of_decide_eq_false c_159
                    have h9 := (⟨by have q := i_nlt c_153; have : (9 : Int32).toInt = 9 := rfl; omega, by have q := i_nlt c_159; have : (11 : Int32).toInt = 11 := rfl; omega⟩ : t9 (f1 f (pa (Int32.toNatClampNeg i2_1))))
                    have hi9 := hix.2.2.1 h9
                    have hyA := hP.y hi9.2.2.2.1
                    have hyB := hP.y hi9.2.2.2.2
                    refine ml_blk 3 (S' := (165, [(0, .ref m0), (1, .int i2_1), (2, .int (pa (Int32.toNatClampNeg i2_1))), (3, .int (f1 f (pa (Int32.toNatClampNeg i2_1))))], [.ref m0, .ref m0, .ref m0], M)) rfl ?_
                    refine ml_blk 2 (S' := (167, [(0, .ref m0), (1, .int i2_1), (2, .int (pa (Int32.toNatClampNeg i2_1))), (3, .int (f1 f (pa (Int32.toNatClampNeg i2_1))))], [.int 3, .int i2_1, .ref m0, .ref m0, .ref m0], M)) rfl ?_
                    refine ml_call (a := [.ref m0, .int i2_1, .int 3]) (rest := [.ref m0, .ref m0]) rfl (hR.okc rfl rfl rfl) rfl rfl (rm_index hR hF hP ((hP.tg htg (t9_n0 h9)).1) ((hP.tg htg (t9_n0 h9)).2.1) ((hP.tg htg (t9_n0 h9)).2.2.1) (by decide) (by have q := (hP.tg htg (t9_n0 h9)).2.2.2.2; rw [show esz _ = 5 from esz_9 h9] at q; have : (3 : Int32).toInt = 3 := rfl; omega) (by omega)) (fun v127 M128 h129 => ?_)
                    obtain ⟨rfl, h129⟩ := h129
                    rw [h129]
                    show ml _ _ _ (170, [(0, .ref m0), (1, .int i2_1), (2, .int (pa (Int32.toNatClampNeg i2_1))), (3, .int (f1 f (pa (Int32.toNatClampNeg i2_1))))], [.int (ixf f pa i2_1 3), .ref m0, .ref m0], M) _
                    refine ml_st (S' := (171, [(0, .ref m0), (1, .int i2_1), (2, .int (pa (Int32.toNatClampNeg i2_1))), (3, .int (f1 f (pa (Int32.toNatClampNeg i2_1))))], [.int 1, .int (ixf f pa i2_1 3), .ref m0, .ref m0], M)) rfl rfl rfl ?_
                    refine ml_call (a := [.ref m0, .int (ixf f pa i2_1 3), .int 1]) (rest := [.ref m0]) rfl (hR.okc rfl rfl rfl) rfl rfl (rm_index hR hF hP ((hP.tg hi9.2.2.1 (by decide)).1) ((hP.tg hi9.2.2.1 (by decide)).2.1) ((hP.tg hi9.2.2.1 (by decide)).2.2.1) (by decide) (by have q := (hP.tg hi9.2.2.1 (by decide)).2.2.2.2; rw [show esz _ = 5 from rfl] at q; have : (1 : Int32).toInt = 1 := rfl; omega) (by omega)) (fun v130 M131 h132 => ?_)
                    obtain ⟨rfl, h132⟩ := h132
                    rw [h132]
                    show ml _ _ _ (174, [(0, .ref m0), (1, .int i2_1), (2, .int (pa (Int32.toNatClampNeg i2_1))), (3, .int (f1 f (pa (Int32.toNatClampNeg i2_1))))], [.int (ixf f pa (ixf f pa i2_1 3) 1), .ref m0], M) _
                    refine ml_call (a := [.ref m0, .int (ixf f pa (ixf f pa i2_1 3) 1)]) (rest := []) rfl (hR.okc rfl rfl rfl) rfl rfl (rm_symOf hR hP (hi9.2.2.2.1) (by omega)) (fun v133 M134 h135 => ?_)
                    obtain ⟨rfl, h135⟩ := h135
                    rw [h135]
                    show ml _ _ _ (177, [(0, .ref m0), (1, .int i2_1), (2, .int (pa (Int32.toNatClampNeg i2_1))), (3, .int (f1 f (pa (Int32.toNatClampNeg i2_1))))], [.int (pyf py (ixf f pa (ixf f pa i2_1 3) 1))], M) _
                    refine ml_st (S' := (179, [(4, .int (pyf py (ixf f pa (ixf f pa i2_1 3) 1))), (0, .ref m0), (1, .int i2_1), (2, .int (pa (Int32.toNatClampNeg i2_1))), (3, .int (f1 f (pa (Int32.toNatClampNeg i2_1))))], [], M)) rfl rfl rfl ?_
                    refine ml_blk 3 (S' := (182, [(4, .int (pyf py (ixf f pa (ixf f pa i2_1 3) 1))), (0, .ref m0), (1, .int i2_1), (2, .int (pa (Int32.toNatClampNeg i2_1))), (3, .int (f1 f (pa (Int32.toNatClampNeg i2_1))))], [.ref m0, .ref m0, .ref m0], M)) rfl ?_
                    refine ml_blk 2 (S' := (184, [(4, .int (pyf py (ixf f pa (ixf f pa i2_1 3) 1))), (0, .ref m0), (1, .int i2_1), (2, .int (pa (Int32.toNatClampNeg i2_1))), (3, .int (f1 f (pa (Int32.toNatClampNeg i2_1))))], [.int 3, .int i2_1, .ref m0, .ref m0, .ref m0], M)) rfl ?_
                    refine ml_call (a := [.ref m0, .int i2_1, .int 3]) (rest := [.ref m0, .ref m0]) rfl (hR.okc rfl rfl rfl) rfl rfl (rm_index hR hF hP ((hP.tg htg (t9_n0 h9)).1) ((hP.tg htg (t9_n0 h9)).2.1) ((hP.tg htg (t9_n0 h9)).2.2.1) (by decide) (by have q := (hP.tg htg (t9_n0 h9)).2.2.2.2; rw [show esz _ = 5 from esz_9 h9] at q; have : (3 : Int32).toInt = 3 := rfl; omega) (by omega)) (fun v136 M137 h138 => ?_)
                    obtain ⟨rfl, h138⟩ := h138
                    rw [h138]
                    show ml _ _ _ (187, [(4, .int (pyf py (ixf f pa (ixf f pa i2_1 3) 1))), (0, .ref m0), (1, .int i2_1), (2, .int (pa (Int32.toNatClampNeg i2_1))), (3, .int (f1 f (pa (Int32.toNatClampNeg i2_1))))], [.int (ixf f pa i2_1 3), .ref m0, .ref m0], M) _
                    refine ml_st (S' := (188, [(4, .int (pyf py (ixf f pa (ixf f pa i2_1 3) 1))), (0, .ref m0), (1, .int i2_1), (2, .int (pa (Int32.toNatClampNeg i2_1))), (3, .int (f1 f (pa (Int32.toNatClampNeg i2_1))))], [.int 3, .int (ixf f pa i2_1 3), .ref m0, .ref m0], M)) rfl rfl rfl ?_
                    refine ml_call (a := [.ref m0, .int (ixf f pa i2_1 3), .int 3]) (rest := [.ref m0]) rfl (hR.okc rfl rfl rfl) rfl rfl (rm_index hR hF hP ((hP.tg hi9.2.2.1 (by decide)).1) ((hP.tg hi9.2.2.1 (by decide)).2.1) ((hP.tg hi9.2.2.1 (by decide)).2.2.1) (by decide) (by have q := (hP.tg hi9.2.2.1 (by decide)).2.2.2.2; rw [show esz _ = 5 from rfl] at q; have : (3 : Int32).toInt = 3 := rfl; omega) (by omega)) (fun v139 M140 h141 => ?_)
                    obtain ⟨rfl, h141⟩ := h141
                    rw [h141]
                    show ml _ _ _ (191, [(4, .int (pyf py (ixf f pa (ixf f pa i2_1 3) 1))), (0, .ref m0), (1, .int i2_1), (2, .int (pa (Int32.toNatClampNeg i2_1))), (3, .int (f1 f (pa (Int32.toNatClampNeg i2_1))))], [.int (ixf f pa (ixf f pa i2_1 3) 3), .ref m0], M) _
                    refine ml_call (a := [.ref m0, .int (ixf f pa (ixf f pa i2_1 3) 3)]) (rest := []) rfl (hR.okc rfl rfl rfl) rfl rfl (rm_symOf hR hP (hi9.2.2.2.2) (by omega)) (fun v142 M143 h144 => ?_)
                    obtain ⟨rfl, h144⟩ := h144
                    rw [h144]
                    show ml _ _ _ (194, [(4, .int (pyf py (ixf f pa (ixf f pa i2_1 3) 1))), (0, .ref m0), (1, .int i2_1), (2, .int (pa (Int32.toNatClampNeg i2_1))), (3, .int (f1 f (pa (Int32.toNatClampNeg i2_1))))], [.int (pyf py (ixf f pa (ixf f pa i2_1 3) 3))], M) _
                    refine ml_st (S' := (196, [(5, .int (pyf py (ixf f pa (ixf f pa i2_1 3) 3))), (4, .int (pyf py (ixf f pa (ixf f pa i2_1 3) 1))), (0, .ref m0), (1, .int i2_1), (2, .int (pa (Int32.toNatClampNeg i2_1))), (3, .int (f1 f (pa (Int32.toNatClampNeg i2_1))))], [], M)) rfl rfl rfl ?_
                    refine ml_blk 2 (S' := (199, [(5, .int (pyf py (ixf f pa (ixf f pa i2_1 3) 3))), (4, .int (pyf py (ixf f pa (ixf f pa i2_1 3) 1))), (0, .ref m0), (1, .int i2_1), (2, .int (pa (Int32.toNatClampNeg i2_1))), (3, .int (f1 f (pa (Int32.toNatClampNeg i2_1))))], [.int (pyf py (ixf f pa (ixf f pa i2_1 3) 1)), .ref m0], M)) rfl ?_
                    refine ml_call (a := [.ref m0, .int (pyf py (ixf f pa (ixf f pa i2_1 3) 1))]) (rest := []) rfl (hR.okc rfl rfl rfl) rfl rfl (rm_angles hR hY (hyA.2.2.1) (hyA.2.2.2) (by omega)) (fun v145 M146 h147 => ?_)
                    obtain ⟨⟨u148, rfl, z149⟩, h147⟩ := h147
                    rw [h147]
                    show ml _ _ _ (202, [(5, .int (pyf py (ixf f pa (ixf f pa i2_1 3) 3))), (4, .int (pyf py (ixf f pa (ixf f pa i2_1 3) 1))), (0, .ref m0), (1, .int i2_1), (2, .int (pa (Int32.toNatClampNeg i2_1))), (3, .int (f1 f (pa (Int32.toNatClampNeg i2_1))))], [.int u148], M) _
                    refine ml_st (S' := (204, [(6, .int u148), (5, .int (pyf py (ixf f pa (ixf f pa i2_1 3) 3))), (4, .int (pyf py (ixf f pa (ixf f pa i2_1 3) 1))), (0, .ref m0), (1, .int i2_1), (2, .int (pa (Int32.toNatClampNeg i2_1))), (3, .int (f1 f (pa (Int32.toNatClampNeg i2_1))))], [], M)) rfl rfl rfl ?_
                    refine ml_blk 2 (S' := (207, [(6, .int u148), (5, .int (pyf py (ixf f pa (ixf f pa i2_1 3) 3))), (4, .int (pyf py (ixf f pa (ixf f pa i2_1 3) 1))), (0, .ref m0), (1, .int i2_1), (2, .int (pa (Int32.toNatClampNeg i2_1))), (3, .int (f1 f (pa (Int32.toNatClampNeg i2_1))))], [.int 9, .int (f1 f (pa (Int32.toNatClampNeg i2_1)))], M)) rfl ?_
                    have J_262 : ∀ (s262_0 : Int32), (s262_0 = 0 ∨ ((f1 f (pa (Int32.toNatClampNeg i2_1))) = 10 ∨ (f1 f (pa (Int32.toNatClampNeg i2_1))) = 11 → MTX sa sl ch (pyf py (ixf f pa (ixf f pa i2_1 3) 3)))) → ml (mT g) d (mb_192 g).2 (262, [(0, .ref m0), (1, .int i2_1), (2, .int (pa (Int32.toNatClampNeg i2_1))), (3, .int (f1 f (pa (Int32.toNatClampNeg i2_1))))], [.int s262_0], M) (fun v M' => ∃ (x : Int32) (I' : rI) (R' : rR), v = some (.int x) ∧ RS g m0 q z I' R' M' ∧ eqI [47, 48] I I' ∧ eqR [] R R' ∧ (x = 0 ∨ x = 1) ∧ (x = 0 ∨ EK f cp pa py sa sl ch)) := by
                      intro s262_0 hj_262
                      refine ml_st (S' := (264, [(7, .int s262_0), (0, .ref m0), (1, .int i2_1), (2, .int (pa (Int32.toNatClampNeg i2_1))), (3, .int (f1 f (pa (Int32.toNatClampNeg i2_1))))], [], M)) rfl rfl rfl ?_
                      refine ml_st (S' := (266, [(7, .int s262_0), (0, .ref m0), (1, .int i2_1), (2, .int (pa (Int32.toNatClampNeg i2_1))), (3, .int (f1 f (pa (Int32.toNatClampNeg i2_1))))], [.int s262_0], M)) rfl rfl rfl ?_
                      refine ml_if (S1 := (277, [(0, .ref m0), (1, .int i2_1), (2, .int (pa (Int32.toNatClampNeg i2_1))), (3, .int (f1 f (pa (Int32.toNatClampNeg i2_1))))], [], M)) (S2 := (269, [(7, .int s262_0), (0, .ref m0), (1, .int i2_1), (2, .int (pa (Int32.toNatClampNeg i2_1))), (3, .int (f1 f (pa (Int32.toNatClampNeg i2_1))))], [], M)) rfl rfl rfl (fun c_266 => ?_) (fun c_266 => ?_)
                      · have c_266 : ¬ s262_0 = 0 := of_decide_eq_true c_266
                        exact J_277  (hj_262.resolve_left c_266)
                      · have c_266 : ¬ (¬ s262_0 = 0) := of_decide_eq_false c_266
                        refine ml_blk 3 (S' := (273, [(7, .int s262_0), (0, .ref m0), (1, .int i2_1), (2, .int (pa (Int32.toNatClampNeg i2_1))), (3, .int (f1 f (pa (Int32.toNatClampNeg i2_1))))], [.int (pa (Int32.toNatClampNeg i2_1)), .int 12, .ref m0], M)) rfl ?_
                        refine ml_call (a := [.ref m0, .int 12, .int (pa (Int32.toNatClampNeg i2_1))]) (rest := []) rfl (hR.okc rfl rfl rfl) rfl rfl (rm_wrong hR (by omega)) (fun v150 M151 h152 => ?_)
                        obtain ⟨u158, I153, R154, rfl, hR155, hI156, hV157, z159, w160⟩ := h152
                        show ml _ _ _ (276, [(7, .int s262_0), (0, .ref m0), (1, .int i2_1), (2, .int (pa (Int32.toNatClampNeg i2_1))), (3, .int (f1 f (pa (Int32.toNatClampNeg i2_1))))], [.int u158], M151) _
                        exact ml_ret rfl (r_z (z159)) (⟨_, _, _, rfl, hR155, (eqI.rf.tr hI156 (by decide)), (eqR.rf.tr hV157 (by decide)), z159, Or.inl w160⟩)
                    refine ml_if2 (S1 := (219, [(6, .int u148), (5, .int (pyf py (ixf f pa (ixf f pa i2_1 3) 3))), (4, .int (pyf py (ixf f pa (ixf f pa i2_1 3) 1))), (0, .ref m0), (1, .int i2_1), (2, .int (pa (Int32.toNatClampNeg i2_1))), (3, .int (f1 f (pa (Int32.toNatClampNeg i2_1))))], [], M)) (S2 := (210, [(6, .int u148), (5, .int (pyf py (ixf f pa (ixf f pa i2_1 3) 3))), (4, .int (pyf py (ixf f pa (ixf f pa i2_1 3) 1))), (0, .ref m0), (1, .int i2_1), (2, .int (pa (Int32.toNatClampNeg i2_1))), (3, .int (f1 f (pa (Int32.toNatClampNeg i2_1))))], [], M)) rfl rfl rfl (fun c_207 => ?_) (fun c_207 => ?_)
                    · have c_207 : ¬ (f1 f (pa (Int32.toNatClampNeg i2_1))) = 9 := of_decide_eq_true c_207
                      refine ml_blk 2 (S' := (222, [(6, .int u148), (5, .int (pyf py (ixf f pa (ixf f pa i2_1 3) 3))), (4, .int (pyf py (ixf f pa (ixf f pa i2_1 3) 1))), (0, .ref m0), (1, .int i2_1), (2, .int (pa (Int32.toNatClampNeg i2_1))), (3, .int (f1 f (pa (Int32.toNatClampNeg i2_1))))], [.int (pyf py (ixf f pa (ixf f pa i2_1 3) 3)), .ref m0], M)) rfl ?_
                      refine ml_call (a := [.ref m0, .int (pyf py (ixf f pa (ixf f pa i2_1 3) 3))]) (rest := []) rfl (hR.okc rfl rfl rfl) rfl rfl (rm_isMethod hR hY (hyB.2.2.1) (hyB.2.2.2) (by omega)) (fun v161 M162 h163 => ?_)
                      obtain ⟨⟨u164, rfl, z165, w166⟩, h163⟩ := h163
                      rw [h163]
                      show ml _ _ _ (225, [(6, .int u148), (5, .int (pyf py (ixf f pa (ixf f pa i2_1 3) 3))), (4, .int (pyf py (ixf f pa (ixf f pa i2_1 3) 1))), (0, .ref m0), (1, .int i2_1), (2, .int (pa (Int32.toNatClampNeg i2_1))), (3, .int (f1 f (pa (Int32.toNatClampNeg i2_1))))], [.int u164], M) _
                      refine ml_if (S1 := (261, [(0, .ref m0), (1, .int i2_1), (2, .int (pa (Int32.toNatClampNeg i2_1))), (3, .int (f1 f (pa (Int32.toNatClampNeg i2_1))))], [], M)) (S2 := (228, [(6, .int u148), (5, .int (pyf py (ixf f pa (ixf f pa i2_1 3) 3))), (4, .int (pyf py (ixf f pa (ixf f pa i2_1 3) 1))), (0, .ref m0), (1, .int i2_1), (2, .int (pa (Int32.toNatClampNeg i2_1))), (3, .int (f1 f (pa (Int32.toNatClampNeg i2_1))))], [], M)) rfl rfl rfl (fun c_225 => ?_) (fun c_225 => ?_)
                      · have c_225 : u164 = 0 := of_decide_eq_true c_225
                        refine ml_st (S' := (262, [(0, .ref m0), (1, .int i2_1), (2, .int (pa (Int32.toNatClampNeg i2_1))), (3, .int (f1 f (pa (Int32.toNatClampNeg i2_1))))], [.int 0], M)) rfl rfl rfl ?_
                        exact J_262 0 (Or.inl rfl)
                      · have c_225 : ¬ (u164 = 0) := of_decide_eq_false c_225
                        refine ml_st (S' := (230, [(6, .int u148), (5, .int (pyf py (ixf f pa (ixf f pa i2_1 3) 3))), (4, .int (pyf py (ixf f pa (ixf f pa i2_1 3) 1))), (0, .ref m0), (1, .int i2_1), (2, .int (pa (Int32.toNatClampNeg i2_1))), (3, .int (f1 f (pa (Int32.toNatClampNeg i2_1))))], [.int u148], M)) rfl rfl rfl ?_
                        refine ml_if (S1 := (257, [(0, .ref m0), (1, .int i2_1), (2, .int (pa (Int32.toNatClampNeg i2_1))), (3, .int (f1 f (pa (Int32.toNatClampNeg i2_1))))], [], M)) (S2 := (233, [(6, .int u148), (5, .int (pyf py (ixf f pa (ixf f pa i2_1 3) 3))), (4, .int (pyf py (ixf f pa (ixf f pa i2_1 3) 1))), (0, .ref m0), (1, .int i2_1), (2, .int (pa (Int32.toNatClampNeg i2_1))), (3, .int (f1 f (pa (Int32.toNatClampNeg i2_1))))], [], M)) rfl rfl rfl (fun c_230 => ?_) (fun c_230 => ?_)
                        · have c_230 : u148 = 0 := of_decide_eq_true c_230
                          refine ml_st (S' := (258, [(0, .ref m0), (1, .int i2_1), (2, .int (pa (Int32.toNatClampNeg i2_1))), (3, .int (f1 f (pa (Int32.toNatClampNeg i2_1))))], [.int 1], M)) rfl rfl rfl ?_
                          refine ml_st (S' := (262, [(0, .ref m0), (1, .int i2_1), (2, .int (pa (Int32.toNatClampNeg i2_1))), (3, .int (f1 f (pa (Int32.toNatClampNeg i2_1))))], [.int 1], M)) rfl rfl rfl ?_
                          exact J_262 1 (Or.inr (fun _ => w166.resolve_left c_225))
                        · have c_230 : ¬ (u148 = 0) := of_decide_eq_false c_230
                          refine ml_blk 2 (S' := (236, [(6, .int u148), (5, .int (pyf py (ixf f pa (ixf f pa i2_1 3) 3))), (4, .int (pyf py (ixf f pa (ixf f pa i2_1 3) 1))), (0, .ref m0), (1, .int i2_1), (2, .int (pa (Int32.toNatClampNeg i2_1))), (3, .int (f1 f (pa (Int32.toNatClampNeg i2_1))))], [.int 10, .int (f1 f (pa (Int32.toNatClampNeg i2_1)))], M)) rfl ?_
                          refine ml_if2 (S1 := (261, [(0, .ref m0), (1, .int i2_1), (2, .int (pa (Int32.toNatClampNeg i2_1))), (3, .int (f1 f (pa (Int32.toNatClampNeg i2_1))))], [], M)) (S2 := (239, [(6, .int u148), (5, .int (pyf py (ixf f pa (ixf f pa i2_1 3) 3))), (4, .int (pyf py (ixf f pa (ixf f pa i2_1 3) 1))), (0, .ref m0), (1, .int i2_1), (2, .int (pa (Int32.toNatClampNeg i2_1))), (3, .int (f1 f (pa (Int32.toNatClampNeg i2_1))))], [], M)) rfl rfl rfl (fun c_236 => ?_) (fun c_236 => ?_)
                          · have c_236 : ¬ (f1 f (pa (Int32.toNatClampNeg i2_1))) = 10 := of_decide_eq_true c_236
                            refine ml_st (S' := (262, [(0, .ref m0), (1, .int i2_1), (2, .int (pa (Int32.toNatClampNeg i2_1))), (3, .int (f1 f (pa (Int32.toNatClampNeg i2_1))))], [.int 0], M)) rfl rfl rfl ?_
                            exact J_262 0 (Or.inl rfl)
                          · have c_236 : ¬ (¬ (f1 f (pa (Int32.toNatClampNeg i2_1))) = 10) := of_decide_eq_false c_236
                            refine ml_blk 2 (S' := (242, [(6, .int u148), (5, .int (pyf py (ixf f pa (ixf f pa i2_1 3) 3))), (4, .int (pyf py (ixf f pa (ixf f pa i2_1 3) 1))), (0, .ref m0), (1, .int i2_1), (2, .int (pa (Int32.toNatClampNeg i2_1))), (3, .int (f1 f (pa (Int32.toNatClampNeg i2_1))))], [.ref m0, .int (pyf py (ixf f pa (ixf f pa i2_1 3) 1))], M)) rfl ?_
                            refine rg_int (S' := (245, [(6, .int u148), (5, .int (pyf py (ixf f pa (ixf f pa i2_1 3) 3))), (4, .int (pyf py (ixf f pa (ixf f pa i2_1 3) 1))), (0, .ref m0), (1, .int i2_1), (2, .int (pa (Int32.toNatClampNeg i2_1))), (3, .int (f1 f (pa (Int32.toNatClampNeg i2_1))))], [.int si, .int (pyf py (ixf f pa (ixf f pa i2_1 3) 1))], M)) rfl hR rfl (hk9) rfl ?_
                            refine ml_if2 (S1 := (261, [(0, .ref m0), (1, .int i2_1), (2, .int (pa (Int32.toNatClampNeg i2_1))), (3, .int (f1 f (pa (Int32.toNatClampNeg i2_1))))], [], M)) (S2 := (248, [(6, .int u148), (5, .int (pyf py (ixf f pa (ixf f pa i2_1 3) 3))), (4, .int (pyf py (ixf f pa (ixf f pa i2_1 3) 1))), (0, .ref m0), (1, .int i2_1), (2, .int (pa (Int32.toNatClampNeg i2_1))), (3, .int (f1 f (pa (Int32.toNatClampNeg i2_1))))], [], M)) rfl rfl rfl (fun c_245 => ?_) (fun c_245 => ?_)
                            · have c_245 : ¬ (pyf py (ixf f pa (ixf f pa i2_1 3) 1)) = si := of_decide_eq_true c_245
                              refine ml_st (S' := (262, [(0, .ref m0), (1, .int i2_1), (2, .int (pa (Int32.toNatClampNeg i2_1))), (3, .int (f1 f (pa (Int32.toNatClampNeg i2_1))))], [.int 0], M)) rfl rfl rfl ?_
                              exact J_262 0 (Or.inl rfl)
                            · have c_245 : ¬ (¬ (pyf py (ixf f pa (ixf f pa i2_1 3) 1)) = si) := of_decide_eq_false c_245
                              refine ml_blk 2 (S' := (251, [(6, .int u148), (5, .int (pyf py (ixf f pa (ixf f pa i2_1 3) 3))), (4, .int (pyf py (ixf f pa (ixf f pa i2_1 3) 1))), (0, .ref m0), (1, .int i2_1), (2, .int (pa (Int32.toNatClampNeg i2_1))), (3, .int (f1 f (pa (Int32.toNatClampNeg i2_1))))], [.int (pyf py (ixf f pa (ixf f pa i2_1 3) 3)), .ref m0], M)) rfl ?_
                              refine ml_call (a := [.ref m0, .int (pyf py (ixf f pa (ixf f pa i2_1 3) 3))]) (rest := []) rfl (hR.okc rfl rfl rfl) rfl rfl (rm_endsV hR hY (hyB.2.2.1) (hyB.2.2.2) (by have q := (w166.resolve_left c_225).2; omega) (by omega)) (fun v167 M168 h169 => ?_)
                              obtain ⟨⟨u170, rfl, z171⟩, h169⟩ := h169
                              rw [h169]
                              show ml _ _ _ (254, [(6, .int u148), (5, .int (pyf py (ixf f pa (ixf f pa i2_1 3) 3))), (4, .int (pyf py (ixf f pa (ixf f pa i2_1 3) 1))), (0, .ref m0), (1, .int i2_1), (2, .int (pa (Int32.toNatClampNeg i2_1))), (3, .int (f1 f (pa (Int32.toNatClampNeg i2_1))))], [.int u170], M) _
                              refine ml_if (S1 := (261, [(0, .ref m0), (1, .int i2_1), (2, .int (pa (Int32.toNatClampNeg i2_1))), (3, .int (f1 f (pa (Int32.toNatClampNeg i2_1))))], [], M)) (S2 := (257, [(0, .ref m0), (1, .int i2_1), (2, .int (pa (Int32.toNatClampNeg i2_1))), (3, .int (f1 f (pa (Int32.toNatClampNeg i2_1))))], [], M)) rfl rfl rfl (fun c_254 => ?_) (fun c_254 => ?_)
                              · have c_254 : u170 = 0 := of_decide_eq_true c_254
                                refine ml_st (S' := (262, [(0, .ref m0), (1, .int i2_1), (2, .int (pa (Int32.toNatClampNeg i2_1))), (3, .int (f1 f (pa (Int32.toNatClampNeg i2_1))))], [.int 0], M)) rfl rfl rfl ?_
                                exact J_262 0 (Or.inl rfl)
                              · have c_254 : ¬ (u170 = 0) := of_decide_eq_false c_254
                                refine ml_st (S' := (258, [(0, .ref m0), (1, .int i2_1), (2, .int (pa (Int32.toNatClampNeg i2_1))), (3, .int (f1 f (pa (Int32.toNatClampNeg i2_1))))], [.int 1], M)) rfl rfl rfl ?_
                                refine ml_st (S' := (262, [(0, .ref m0), (1, .int i2_1), (2, .int (pa (Int32.toNatClampNeg i2_1))), (3, .int (f1 f (pa (Int32.toNatClampNeg i2_1))))], [.int 1], M)) rfl rfl rfl ?_
                                exact J_262 1 (Or.inr (fun _ => w166.resolve_left c_225))
                    · have c_207 : ¬ (¬ (f1 f (pa (Int32.toNatClampNeg i2_1))) = 9) := of_decide_eq_false c_207
                      refine ml_blk 2 (S' := (213, [(6, .int u148), (5, .int (pyf py (ixf f pa (ixf f pa i2_1 3) 3))), (4, .int (pyf py (ixf f pa (ixf f pa i2_1 3) 1))), (0, .ref m0), (1, .int i2_1), (2, .int (pa (Int32.toNatClampNeg i2_1))), (3, .int (f1 f (pa (Int32.toNatClampNeg i2_1))))], [.int (pyf py (ixf f pa (ixf f pa i2_1 3) 3)), .ref m0], M)) rfl ?_
                      refine ml_call (a := [.ref m0, .int (pyf py (ixf f pa (ixf f pa i2_1 3) 3))]) (rest := []) rfl (hR.okc rfl rfl rfl) rfl rfl (rm_isField hR hY (hyB.2.2.1) (hyB.2.2.2) (by omega)) (fun v172 M173 h174 => ?_)
                      obtain ⟨⟨u175, rfl, z176, w177⟩, h174⟩ := h174
                      rw [h174]
                      show ml _ _ _ (216, [(6, .int u148), (5, .int (pyf py (ixf f pa (ixf f pa i2_1 3) 3))), (4, .int (pyf py (ixf f pa (ixf f pa i2_1 3) 1))), (0, .ref m0), (1, .int i2_1), (2, .int (pa (Int32.toNatClampNeg i2_1))), (3, .int (f1 f (pa (Int32.toNatClampNeg i2_1))))], [.int u175], M) _
                      refine ml_st (S' := (262, [(0, .ref m0), (1, .int i2_1), (2, .int (pa (Int32.toNatClampNeg i2_1))), (3, .int (f1 f (pa (Int32.toNatClampNeg i2_1))))], [.int u175], M)) rfl rfl rfl ?_
                      exact J_262 u175 (Or.inr (fun h => by rcases h with h | h <;> exact absurd ((Decidable.not_not.mp c_207).symm.trans h) (by decide)))
              refine ml_if2 (S1 := (150, [(0, .ref m0), (1, .int i2_1), (2, .int (pa (Int32.toNatClampNeg i2_1))), (3, .int (f1 f (pa (Int32.toNatClampNeg i2_1))))], [], M)) (S2 := (90, [(0, .ref m0), (1, .int i2_1), (2, .int (pa (Int32.toNatClampNeg i2_1))), (3, .int (f1 f (pa (Int32.toNatClampNeg i2_1))))], [], M)) rfl rfl rfl (fun c_87 => ?_) (fun c_87 => ?_)
              · have c_87 : ¬ (f1 f (pa (Int32.toNatClampNeg i2_1))) = 12 := of_decide_eq_true c_87
                exact J_150 
              · have c_87 : ¬ (¬ (f1 f (pa (Int32.toNatClampNeg i2_1))) = 12) := of_decide_eq_false c_87
                have hi12 := hix.2.1 (Decidable.not_not.mp c_87)
                have hyA := hP.y hi12.1
                have hyB := hP.y hi12.2
                refine ml_blk 3 (S' := (93, [(0, .ref m0), (1, .int i2_1), (2, .int (pa (Int32.toNatClampNeg i2_1))), (3, .int (f1 f (pa (Int32.toNatClampNeg i2_1))))], [.ref m0, .ref m0, .ref m0], M)) rfl ?_
                refine ml_blk 2 (S' := (95, [(0, .ref m0), (1, .int i2_1), (2, .int (pa (Int32.toNatClampNeg i2_1))), (3, .int (f1 f (pa (Int32.toNatClampNeg i2_1))))], [.int 1, .int i2_1, .ref m0, .ref m0, .ref m0], M)) rfl ?_
                refine ml_call (a := [.ref m0, .int i2_1, .int 1]) (rest := [.ref m0, .ref m0]) rfl (hR.okc rfl rfl rfl) rfl rfl (rm_index hR hF hP ((hP.tg (htg.trans (Decidable.not_not.mp c_87)) (by decide)).1) ((hP.tg (htg.trans (Decidable.not_not.mp c_87)) (by decide)).2.1) ((hP.tg (htg.trans (Decidable.not_not.mp c_87)) (by decide)).2.2.1) (by decide) (by have q := (hP.tg (htg.trans (Decidable.not_not.mp c_87)) (by decide)).2.2.2.2; rw [show esz _ = 5 from rfl] at q; have : (1 : Int32).toInt = 1 := rfl; omega) (by omega)) (fun v178 M179 h180 => ?_)
                obtain ⟨rfl, h180⟩ := h180
                rw [h180]
                show ml _ _ _ (98, [(0, .ref m0), (1, .int i2_1), (2, .int (pa (Int32.toNatClampNeg i2_1))), (3, .int (f1 f (pa (Int32.toNatClampNeg i2_1))))], [.int (ixf f pa i2_1 1), .ref m0, .ref m0], M) _
                refine ml_call (a := [.ref m0, .int (ixf f pa i2_1 1)]) (rest := [.ref m0]) rfl (hR.okc rfl rfl rfl) rfl rfl (rm_symOf hR hP (hi12.1) (by omega)) (fun v181 M182 h183 => ?_)
                obtain ⟨rfl, h183⟩ := h183
                rw [h183]
                show ml _ _ _ (101, [(0, .ref m0), (1, .int i2_1), (2, .int (pa (Int32.toNatClampNeg i2_1))), (3, .int (f1 f (pa (Int32.toNatClampNeg i2_1))))], [.int (pyf py (ixf f pa i2_1 1)), .ref m0], M) _
                refine ml_st (S' := (102, [(0, .ref m0), (1, .int i2_1), (2, .int (pa (Int32.toNatClampNeg i2_1))), (3, .int (f1 f (pa (Int32.toNatClampNeg i2_1))))], [.int 1, .int (pyf py (ixf f pa i2_1 1)), .ref m0], M)) rfl rfl rfl ?_
                refine ml_call (a := [.ref m0, .int (pyf py (ixf f pa i2_1 1)), .int 1]) (rest := []) rfl (hR.okc rfl rfl rfl) rfl rfl (rm_unqualified hR hY (hyA.2.2.1) (hyA.2.2.2) (by omega)) (fun v184 M185 h186 => ?_)
                obtain ⟨⟨u187, rfl, z188⟩, h186⟩ := h186
                rw [h186]
                show ml _ _ _ (105, [(0, .ref m0), (1, .int i2_1), (2, .int (pa (Int32.toNatClampNeg i2_1))), (3, .int (f1 f (pa (Int32.toNatClampNeg i2_1))))], [.int u187], M) _
                refine ml_if (S1 := (142, [(0, .ref m0), (2, .int (pa (Int32.toNatClampNeg i2_1)))], [], M)) (S2 := (108, [(0, .ref m0), (1, .int i2_1), (2, .int (pa (Int32.toNatClampNeg i2_1))), (3, .int (f1 f (pa (Int32.toNatClampNeg i2_1))))], [], M)) rfl rfl rfl (fun c_105 => ?_) (fun c_105 => ?_)
                · have c_105 : u187 = 0 := of_decide_eq_true c_105
                  refine ml_blk 3 (S' := (146, [(0, .ref m0), (2, .int (pa (Int32.toNatClampNeg i2_1)))], [.int (pa (Int32.toNatClampNeg i2_1)), .int 11, .ref m0], M)) rfl ?_
                  refine ml_call (a := [.ref m0, .int 11, .int (pa (Int32.toNatClampNeg i2_1))]) (rest := []) rfl (hR.okc rfl rfl rfl) rfl rfl (rm_wrong hR (by omega)) (fun v189 M190 h191 => ?_)
                  obtain ⟨u197, I192, R193, rfl, hR194, hI195, hV196, z198, w199⟩ := h191
                  show ml _ _ _ (149, [(0, .ref m0), (2, .int (pa (Int32.toNatClampNeg i2_1)))], [.int u197], M190) _
                  exact ml_ret rfl (r_z (z198)) (⟨_, _, _, rfl, hR194, (eqI.rf.tr hI195 (by decide)), (eqR.rf.tr hV196 (by decide)), z198, Or.inl w199⟩)
                · have c_105 : ¬ (u187 = 0) := of_decide_eq_false c_105
                  refine ml_blk 3 (S' := (111, [(0, .ref m0), (1, .int i2_1), (2, .int (pa (Int32.toNatClampNeg i2_1))), (3, .int (f1 f (pa (Int32.toNatClampNeg i2_1))))], [.ref m0, .ref m0, .ref m0], M)) rfl ?_
                  refine ml_blk 2 (S' := (113, [(0, .ref m0), (1, .int i2_1), (2, .int (pa (Int32.toNatClampNeg i2_1))), (3, .int (f1 f (pa (Int32.toNatClampNeg i2_1))))], [.int 3, .int i2_1, .ref m0, .ref m0, .ref m0], M)) rfl ?_
                  refine ml_call (a := [.ref m0, .int i2_1, .int 3]) (rest := [.ref m0, .ref m0]) rfl (hR.okc rfl rfl rfl) rfl rfl (rm_index hR hF hP ((hP.tg (htg.trans (Decidable.not_not.mp c_87)) (by decide)).1) ((hP.tg (htg.trans (Decidable.not_not.mp c_87)) (by decide)).2.1) ((hP.tg (htg.trans (Decidable.not_not.mp c_87)) (by decide)).2.2.1) (by decide) (by have q := (hP.tg (htg.trans (Decidable.not_not.mp c_87)) (by decide)).2.2.2.2; rw [show esz _ = 5 from rfl] at q; have : (3 : Int32).toInt = 3 := rfl; omega) (by omega)) (fun v200 M201 h202 => ?_)
                  obtain ⟨rfl, h202⟩ := h202
                  rw [h202]
                  show ml _ _ _ (116, [(0, .ref m0), (1, .int i2_1), (2, .int (pa (Int32.toNatClampNeg i2_1))), (3, .int (f1 f (pa (Int32.toNatClampNeg i2_1))))], [.int (ixf f pa i2_1 3), .ref m0, .ref m0], M) _
                  refine ml_call (a := [.ref m0, .int (ixf f pa i2_1 3)]) (rest := [.ref m0]) rfl (hR.okc rfl rfl rfl) rfl rfl (rm_symOf hR hP (hi12.2) (by omega)) (fun v203 M204 h205 => ?_)
                  obtain ⟨rfl, h205⟩ := h205
                  rw [h205]
                  show ml _ _ _ (119, [(0, .ref m0), (1, .int i2_1), (2, .int (pa (Int32.toNatClampNeg i2_1))), (3, .int (f1 f (pa (Int32.toNatClampNeg i2_1))))], [.int (pyf py (ixf f pa i2_1 3)), .ref m0], M) _
                  refine ml_call (a := [.ref m0, .int (pyf py (ixf f pa i2_1 3))]) (rest := []) rfl (hR.okc rfl rfl rfl) rfl rfl (rm_isField hR hY (hyB.2.2.1) (hyB.2.2.2) (by omega)) (fun v206 M207 h208 => ?_)
                  obtain ⟨⟨u209, rfl, z210, w211⟩, h208⟩ := h208
                  rw [h208]
                  show ml _ _ _ (122, [(0, .ref m0), (1, .int i2_1), (2, .int (pa (Int32.toNatClampNeg i2_1))), (3, .int (f1 f (pa (Int32.toNatClampNeg i2_1))))], [.int u209], M) _
                  refine ml_if (S1 := (150, [(0, .ref m0), (1, .int i2_1), (2, .int (pa (Int32.toNatClampNeg i2_1))), (3, .int (f1 f (pa (Int32.toNatClampNeg i2_1))))], [], M)) (S2 := (125, [(0, .ref m0), (1, .int i2_1), (2, .int (pa (Int32.toNatClampNeg i2_1))), (3, .int (f1 f (pa (Int32.toNatClampNeg i2_1))))], [], M)) rfl rfl rfl (fun c_122 => ?_) (fun c_122 => ?_)
                  · have c_122 : ¬ u209 = 0 := of_decide_eq_true c_122
                    exact J_150 
                  · have c_122 : ¬ (¬ u209 = 0) := of_decide_eq_false c_122
                    refine ml_blk 3 (S' := (128, [(0, .ref m0), (1, .int i2_1), (2, .int (pa (Int32.toNatClampNeg i2_1))), (3, .int (f1 f (pa (Int32.toNatClampNeg i2_1))))], [.ref m0, .ref m0, .ref m0], M)) rfl ?_
                    refine ml_blk 2 (S' := (130, [(0, .ref m0), (1, .int i2_1), (2, .int (pa (Int32.toNatClampNeg i2_1))), (3, .int (f1 f (pa (Int32.toNatClampNeg i2_1))))], [.int 3, .int i2_1, .ref m0, .ref m0, .ref m0], M)) rfl ?_
                    refine ml_call (a := [.ref m0, .int i2_1, .int 3]) (rest := [.ref m0, .ref m0]) rfl (hR.okc rfl rfl rfl) rfl rfl (rm_index hR hF hP ((hP.tg (htg.trans (Decidable.not_not.mp c_87)) (by decide)).1) ((hP.tg (htg.trans (Decidable.not_not.mp c_87)) (by decide)).2.1) ((hP.tg (htg.trans (Decidable.not_not.mp c_87)) (by decide)).2.2.1) (by decide) (by have q := (hP.tg (htg.trans (Decidable.not_not.mp c_87)) (by decide)).2.2.2.2; rw [show esz _ = 5 from rfl] at q; have : (3 : Int32).toInt = 3 := rfl; omega) (by omega)) (fun v212 M213 h214 => ?_)
                    obtain ⟨rfl, h214⟩ := h214
                    rw [h214]
                    show ml _ _ _ (133, [(0, .ref m0), (1, .int i2_1), (2, .int (pa (Int32.toNatClampNeg i2_1))), (3, .int (f1 f (pa (Int32.toNatClampNeg i2_1))))], [.int (ixf f pa i2_1 3), .ref m0, .ref m0], M) _
                    refine ml_call (a := [.ref m0, .int (ixf f pa i2_1 3)]) (rest := [.ref m0]) rfl (hR.okc rfl rfl rfl) rfl rfl (rm_symOf hR hP (hi12.2) (by omega)) (fun v215 M216 h217 => ?_)
                    obtain ⟨rfl, h217⟩ := h217
                    rw [h217]
                    show ml _ _ _ (136, [(0, .ref m0), (1, .int i2_1), (2, .int (pa (Int32.toNatClampNeg i2_1))), (3, .int (f1 f (pa (Int32.toNatClampNeg i2_1))))], [.int (pyf py (ixf f pa i2_1 3)), .ref m0], M) _
                    refine ml_call (a := [.ref m0, .int (pyf py (ixf f pa i2_1 3))]) (rest := []) rfl (hR.okc rfl rfl rfl) rfl rfl (rm_isMethod hR hY (hyB.2.2.1) (hyB.2.2.2) (by omega)) (fun v218 M219 h220 => ?_)
                    obtain ⟨⟨u221, rfl, z222, w223⟩, h220⟩ := h220
                    rw [h220]
                    show ml _ _ _ (139, [(0, .ref m0), (1, .int i2_1), (2, .int (pa (Int32.toNatClampNeg i2_1))), (3, .int (f1 f (pa (Int32.toNatClampNeg i2_1))))], [.int u221], M) _
                    refine ml_if (S1 := (150, [(0, .ref m0), (1, .int i2_1), (2, .int (pa (Int32.toNatClampNeg i2_1))), (3, .int (f1 f (pa (Int32.toNatClampNeg i2_1))))], [], M)) (S2 := (142, [(0, .ref m0), (2, .int (pa (Int32.toNatClampNeg i2_1)))], [], M)) rfl rfl rfl (fun c_139 => ?_) (fun c_139 => ?_)
                    · have c_139 : ¬ u221 = 0 := of_decide_eq_true c_139
                      exact J_150 
                    · have c_139 : ¬ (¬ u221 = 0) := of_decide_eq_false c_139
                      refine ml_blk 3 (S' := (146, [(0, .ref m0), (2, .int (pa (Int32.toNatClampNeg i2_1)))], [.int (pa (Int32.toNatClampNeg i2_1)), .int 11, .ref m0], M)) rfl ?_
                      refine ml_call (a := [.ref m0, .int 11, .int (pa (Int32.toNatClampNeg i2_1))]) (rest := []) rfl (hR.okc rfl rfl rfl) rfl rfl (rm_wrong hR (by omega)) (fun v224 M225 h226 => ?_)
                      obtain ⟨u232, I227, R228, rfl, hR229, hI230, hV231, z233, w234⟩ := h226
                      show ml _ _ _ (149, [(0, .ref m0), (2, .int (pa (Int32.toNatClampNeg i2_1)))], [.int u232], M225) _
                      exact ml_ret rfl (r_z (z233)) (⟨_, _, _, rfl, hR229, (eqI.rf.tr hI230 (by decide)), (eqR.rf.tr hV231 (by decide)), z233, Or.inl w234⟩)
            refine ml_if2 (S1 := (84, [(0, .ref m0), (1, .int i2_1), (2, .int (pa (Int32.toNatClampNeg i2_1))), (3, .int (f1 f (pa (Int32.toNatClampNeg i2_1))))], [], M)) (S2 := (59, [(3, .int (f1 f (pa (Int32.toNatClampNeg i2_1)))), (2, .int (pa (Int32.toNatClampNeg i2_1))), (0, .ref m0), (1, .int i2_1)], [], M)) rfl rfl rfl (fun c_56 => ?_) (fun c_56 => ?_)
            · have c_56 : ¬ (f1 f (pa (Int32.toNatClampNeg i2_1))) = 7 := of_decide_eq_true c_56
              exact J_84  (fun e => absurd e c_56)
            · have c_56 : ¬ (¬ (f1 f (pa (Int32.toNatClampNeg i2_1))) = 7) := of_decide_eq_false c_56
              have hi7 := hix.1 (Or.inl (Decidable.not_not.mp c_56))
              have hy7 := hP.y hi7
              refine ml_blk 3 (S' := (62, [(3, .int (f1 f (pa (Int32.toNatClampNeg i2_1)))), (2, .int (pa (Int32.toNatClampNeg i2_1))), (0, .ref m0), (1, .int i2_1)], [.ref m0, .ref m0, .ref m0], M)) rfl ?_
              refine ml_blk 2 (S' := (64, [(3, .int (f1 f (pa (Int32.toNatClampNeg i2_1)))), (2, .int (pa (Int32.toNatClampNeg i2_1))), (0, .ref m0), (1, .int i2_1)], [.int 1, .int i2_1, .ref m0, .ref m0, .ref m0], M)) rfl ?_
              refine ml_call (a := [.ref m0, .int i2_1, .int 1]) (rest := [.ref m0, .ref m0]) rfl (hR.okc rfl rfl rfl) rfl rfl (rm_index hR hF hP ((hP.tg (htg.trans (Decidable.not_not.mp c_56)) (by decide)).1) ((hP.tg (htg.trans (Decidable.not_not.mp c_56)) (by decide)).2.1) ((hP.tg (htg.trans (Decidable.not_not.mp c_56)) (by decide)).2.2.1) (by decide) (by have q := (hP.tg (htg.trans (Decidable.not_not.mp c_56)) (by decide)).2.2.2.2; rw [show esz _ = 3 from rfl] at q; have : (1 : Int32).toInt = 1 := rfl; omega) (by omega)) (fun v235 M236 h237 => ?_)
              obtain ⟨rfl, h237⟩ := h237
              rw [h237]
              show ml _ _ _ (67, [(3, .int (f1 f (pa (Int32.toNatClampNeg i2_1)))), (2, .int (pa (Int32.toNatClampNeg i2_1))), (0, .ref m0), (1, .int i2_1)], [.int (ixf f pa i2_1 1), .ref m0, .ref m0], M) _
              refine ml_call (a := [.ref m0, .int (ixf f pa i2_1 1)]) (rest := [.ref m0]) rfl (hR.okc rfl rfl rfl) rfl rfl (rm_symOf hR hP (hi7) (by omega)) (fun v238 M239 h240 => ?_)
              obtain ⟨rfl, h240⟩ := h240
              rw [h240]
              show ml _ _ _ (70, [(3, .int (f1 f (pa (Int32.toNatClampNeg i2_1)))), (2, .int (pa (Int32.toNatClampNeg i2_1))), (0, .ref m0), (1, .int i2_1)], [.int (pyf py (ixf f pa i2_1 1)), .ref m0], M) _
              refine ml_call (a := [.ref m0, .int (pyf py (ixf f pa i2_1 1))]) (rest := []) rfl (hR.okc rfl rfl rfl) rfl rfl (rm_classText hR hY (hy7.2.2.1) (hy7.2.2.2) (by omega)) (fun v241 M242 h243 => ?_)
              obtain ⟨⟨u244, rfl, z245, w246⟩, h243⟩ := h243
              rw [h243]
              show ml _ _ _ (73, [(3, .int (f1 f (pa (Int32.toNatClampNeg i2_1)))), (2, .int (pa (Int32.toNatClampNeg i2_1))), (0, .ref m0), (1, .int i2_1)], [.int u244], M) _
              refine ml_if (S1 := (84, [(0, .ref m0), (1, .int i2_1), (2, .int (pa (Int32.toNatClampNeg i2_1))), (3, .int (f1 f (pa (Int32.toNatClampNeg i2_1))))], [], M)) (S2 := (76, [(3, .int (f1 f (pa (Int32.toNatClampNeg i2_1)))), (2, .int (pa (Int32.toNatClampNeg i2_1))), (0, .ref m0), (1, .int i2_1)], [], M)) rfl rfl rfl (fun c_73 => ?_) (fun c_73 => ?_)
              · have c_73 : ¬ u244 = 0 := of_decide_eq_true c_73
                exact J_84  (fun _ => w246.resolve_left c_73)
              · have c_73 : ¬ (¬ u244 = 0) := of_decide_eq_false c_73
                refine ml_blk 3 (S' := (80, [(3, .int (f1 f (pa (Int32.toNatClampNeg i2_1)))), (2, .int (pa (Int32.toNatClampNeg i2_1))), (0, .ref m0), (1, .int i2_1)], [.int (pa (Int32.toNatClampNeg i2_1)), .int 10, .ref m0], M)) rfl ?_
                refine ml_call (a := [.ref m0, .int 10, .int (pa (Int32.toNatClampNeg i2_1))]) (rest := []) rfl (hR.okc rfl rfl rfl) rfl rfl (rm_wrong hR (by omega)) (fun v247 M248 h249 => ?_)
                obtain ⟨u255, I250, R251, rfl, hR252, hI253, hV254, z256, w257⟩ := h249
                show ml _ _ _ (83, [(3, .int (f1 f (pa (Int32.toNatClampNeg i2_1)))), (2, .int (pa (Int32.toNatClampNeg i2_1))), (0, .ref m0), (1, .int i2_1)], [.int u255], M248) _
                exact ml_ret rfl (r_z (z256)) (⟨_, _, _, rfl, hR252, (eqI.rf.tr hI253 (by decide)), (eqR.rf.tr hV254 (by decide)), z256, Or.inl w257⟩)
          · have c_42 : ¬ (¬ u17 = 0) := of_decide_eq_false c_42
            refine ml_blk 3 (S' := (49, [(3, .int (f1 f (pa (Int32.toNatClampNeg i2_1)))), (2, .int (pa (Int32.toNatClampNeg i2_1))), (0, .ref m0), (1, .int i2_1)], [.int (pa (Int32.toNatClampNeg i2_1)), .int 9, .ref m0], M)) rfl ?_
            refine ml_call (a := [.ref m0, .int 9, .int (pa (Int32.toNatClampNeg i2_1))]) (rest := []) rfl (hR.okc rfl rfl rfl) rfl rfl (rm_wrong hR (by omega)) (fun v258 M259 h260 => ?_)
            obtain ⟨u266, I261, R262, rfl, hR263, hI264, hV265, z267, w268⟩ := h260
            show ml _ _ _ (52, [(3, .int (f1 f (pa (Int32.toNatClampNeg i2_1)))), (2, .int (pa (Int32.toNatClampNeg i2_1))), (0, .ref m0), (1, .int i2_1)], [.int u266], M259) _
            exact ml_ret rfl (r_z (z267)) (⟨_, _, _, rfl, hR263, (eqI.rf.tr hI264 (by decide)), (eqR.rf.tr hV265 (by decide)), z267, Or.inl w268⟩)
        · have c_23 : ¬ (0 ≤ (pa (Int32.toNatClampNeg i2_1))) := of_decide_eq_false c_23
          refine ml_st (S' := (420, [(0, .ref m0), (1, .int i2_1)], [], M)) rfl rfl rfl ?_
          exact J_420  (fun h => absurd (show tgf f cp pa i2_1 = 0 by rw [tgf, if_neg (fun q => by have := i_le q; have : (0 : Int32).toInt = 0 := rfl; omega), if_neg c_7, if_pos (Int32.not_le.mp c_23)]) h)
  exact L_2 _ 1 (Nat.le_refl _) (⟨by decide, hP.2.2.2.1.1, fun j h0 h1 => by have : (1 : Int32).toInt = 1 := rfl; omega⟩)
end
section
/-! the reference: attributes (my own text) -/
section MIO
def BS1 (f : Nat → Int32) (n : Nat) (a b : Int32) : Prop := 0 ≤ a.toInt ∧ a.toInt + 4 ≤ n ∧ a.toInt + 4 + 2 * (f2 f (a + 2)).toInt ≤ n ∧ b.toInt = a.toInt + 4 + 2 * (f2 f (a + 2)).toInt
def BSW (f : Nat → Int32) (n : Nat) (b c : Int32) : Prop := 0 ≤ b.toInt ∧ b.toInt + 2 ≤ n ∧ ∃ e, itr (BS1 f n) c.toInt.toNat (b + 2) e ∧ e.toInt ≤ n
def CM1 (f : Nat → Int32) (n : Nat) (a b : Int32) : Prop := 0 ≤ a.toInt ∧ a.toInt + 6 ≤ n ∧ itr (RA1 f n) (f2 f (a + 4)).toInt.toNat (a + 6) b
variable {f : Nat → Int32} {n : Nat} {a b k c N : Int32} {P : Int32 → Int32 → Prop}
theorem bs_of (hn : n ≤ 65540) (h0 : 0 ≤ a.toInt) (h1 : a.toInt + 4 ≤ n) : (a + (4 + 2 * f2 f (a + 2))).toInt = a.toInt + 4 + 2 * (f2 f (a + 2)).toInt ∧ (a + 4 + 2 * f2 f (a + 2)).toInt = a.toInt + 4 + 2 * (f2 f (a + 2)).toInt := by
  have hp := f2_pos (f := f) (x := a + 2)
  have hl := f2_le (f := f) (x := a + 2)
  have e2 : (2 : Int32).toInt = 2 := rfl
  have e4 : (4 : Int32).toInt = 4 := rfl
  have d2 : (2 * f2 f (a + 2)).toInt = 2 * (f2 f (a + 2)).toInt := by rw [i_mul (by rw [e2]; omega) (by rw [e2]; omega), e2]
  have d3 : (4 + 2 * f2 f (a + 2)).toInt = 4 + 2 * (f2 f (a + 2)).toInt := by rw [i_add (by omega) (by omega), d2, e4]
  have d4 : (a + 4).toInt = a.toInt + 4 := by rw [i_add (by omega) (by omega), e4]
  exact ⟨by rw [i_add (by omega) (by omega), d3]; omega, by rw [i_add (by omega) (by omega), d4, d2]⟩
theorem ra_of (hn : n ≤ 65540) (h0 : 0 ≤ a.toInt) (h1 : a.toInt + 6 + (f4 f (a + 2)).toInt ≤ n) : (a + (6 + Int64.toInt32 (f4 f (a + 2)))).toInt = a.toInt + 6 + (f4 f (a + 2)).toInt := by
  have hp := f4_pos (f := f) (x := a + 2)
  have e6 : (6 : Int32).toInt = 6 := rfl
  have di : (Int64.toInt32 (f4 f (a + 2))).toInt = (f4 f (a + 2)).toInt := i_of (by omega) (by omega)
  have d3 : (6 + Int64.toInt32 (f4 f (a + 2))).toInt = 6 + (f4 f (a + 2)).toInt := by rw [i_add (by omega) (by omega), di, e6]
  rw [i_add (by omega) (by omega), d3]
  omega
theorem itr_next {e : Int32} (h : itr P (N.toInt - k.toInt).toNat a e) (hk : ¬ N ≤ k) : ∃ c, P a c ∧ itr P (N.toInt - (k + 1).toInt).toNat c e := by
  have h1 := i_nle hk
  have h2 := inc_lt (Int32.not_le.mp hk)
  rw [show (N.toInt - k.toInt).toNat = (N.toInt - (k + 1).toInt).toNat + 1 by omega] at h
  exact h.front
theorem RA1.eq {b' : Int32} (h : RA1 f n a b) (h' : b'.toInt = a.toInt + 6 + (f4 f (a + 2)).toInt) : b = b' := Int32.toInt_inj.mp (h.2.2.2.trans h'.symm)
theorem BS1.eq {b' : Int32} (h : BS1 f n a b) (h' : b'.toInt = a.toInt + 4 + 2 * (f2 f (a + 2)).toInt) : b = b' := Int32.toInt_inj.mp (h.2.2.2.trans h'.symm)
theorem itr_one {m : Nat} {e : Int32} (h : itr P m a e) (hm : m = 0) : e = a := by
  subst hm
  exact h
theorem two_k {k : Int32} (h0 : 0 ≤ k.toInt) (h1 : k.toInt ≤ 1000000) : (2 * k).toInt = 2 * k.toInt := by
  have e2 : (2 : Int32).toInt = 2 := rfl
  rw [i_mul (by rw [e2]; omega) (by rw [e2]; omega), e2]
theorem eight_k {k : Int32} (h0 : 0 ≤ k.toInt) (h1 : k.toInt ≤ 1000000) : (8 * k).toInt = 8 * k.toInt := by
  have e8 : (8 : Int32).toInt = 8 := rfl
  rw [i_mul (by rw [e8]; omega) (by rw [e8]; omega), e8]
/-- rows are written at one place alone -/
def pw (o : Nat) (R R' : rR) : Prop := ∀ k b, b ≠ o → R' k b = R k b
theorem pw.rf {o : Nat} {R : rR} : pw o R R := fun _ _ _ => rfl
theorem pw.tr {o : Nat} {R R1 R2 : rR} (h : pw o R R1) (h' : pw o R1 R2) : pw o R R2 := fun k b hb => (h' k b hb).trans (h k b hb)
theorem pw.eq {o : Nat} {R R1 R2 : rR} (h : pw o R R1) (h' : eqR [] R1 R2) : pw o R R2 := fun k b hb => (congrFun (h' k (by simp)) b).trans (h k b hb)
theorem pw.st {o j : Nat} {R R1 R2 : rR} {k : Nat} (h : pw o R R1) (g : ∀ b, b ≠ j → R2 k b = R1 k b) (f : ∀ a, a ≠ k → R2 a = R1 a) (hj : j = o) : pw o R R2 := by
  subst hj
  intro a b hb
  by_cases e : a = k
  · subst e
    exact (g b hb).trans (h a b hb)
  · rw [f a e]
    exact h a b hb
/-- these rows are known at a place -/
def kn (ks : List Nat) (o : Nat) (R : rR) : Prop := ∀ k, k ∈ ks → ∃ v, R k o = some v
theorem kn.eq {ks V : List Nat} {o : Nat} {R R' : rR} (h : kn ks o R) (h' : eqR V R R') (hd : ∀ k, k ∈ ks → k ∉ V) : kn ks o R' := fun k hk => by
  rw [h' k (hd k hk)]
  exact h k hk
theorem kn.st {ks : List Nat} {o j : Nat} {R R' : rR} {k : Nat} {v : Int32} (h : kn ks o R) (e : R' k j = some v) (g : ∀ b, b ≠ j → R' k b = R k b) (f : ∀ a, a ≠ k → R' a = R a) : kn ks o R' := by
  intro a ha
  by_cases e1 : a = k
  · subst e1
    by_cases e2 : o = j
    · subst e2
      exact ⟨v, e⟩
    · rw [g o e2]
      exact h a ha
  · rw [f a e1]
    exact h a ha
/-- a method's code, where it has one, lies in the file -/
def MCD (f : Nat → Int32) (n : Nat) (o : Nat) (R : rR) : Prop := ∃ c, R 37 o = some c ∧ (c.toInt < 0 ∨ ∃ l r m s t : Int32, R 38 o = some l ∧ R 41 o = some r ∧ R 42 o = some m ∧ R 39 o = some s ∧ R 40 o = some t ∧ 0 ≤ l.toInt ∧ c.toInt + l.toInt ≤ n ∧ 0 ≤ r.toInt ∧ 0 ≤ m.toInt ∧ r.toInt + 8 * m.toInt ≤ n)
theorem MCD.fr {o : Nat} {R R' : rR} (h : MCD f n o R) (h' : ∀ k, k ∈ [37, 38, 39, 40, 41, 42] → R' k o = R k o) : MCD f n o R' := by
  unfold MCD at h ⊢
  rw [h' 37 (by decide), h' 38 (by decide), h' 39 (by decide), h' 40 (by decide), h' 41 (by decide), h' 42 (by decide)]
  exact h
/-- the known names: where each belongs, from when on -/
def kin (k : Int32) : Int32 := if k = 0 then 1 else if k = 1 ∨ k = 2 then 2 else if k = 3 then 3 else 4
def KW (I : rI) (R : rR) : Prop := (∀ k : Int32, 0 ≤ k.toInt → k.toInt < 10 → R 63 k.toNatClampNeg = some (kin k)) ∧ ∀ k : Int32, 0 ≤ k.toInt → k.toInt < 10 → ∃ v, R 64 k.toNatClampNeg = some v
theorem KW.mono {I I' : rI} {R R' : rR} (h : KW I R) (hI : ∀ k, k ∈ ([] : List Nat) → I' k = I k) (hR : ∀ k, k ∈ [63, 64] → R' k = R k) : KW I' R' := by
  unfold KW
  rw [hR 63 (by decide), hR 64 (by decide)]
  exact h
theorem ra_kn {g : xe_G} {m0 : Nat} {q : Nat → Nat} {z : Nat × Nat} {I : rI} {R : rR} {M : mi_H} {T : Nat → Option (Nat × mi_B)} {d pc : Nat} {tb : mi_B} {lv : List (Nat × Value)} {s0 : List Value} {Q : Option Value → mi_H → Prop} {i : Int32} {S' : mi_S} (h1 : tb.1 pc = some (.inl (o_ald (.object "java/lang/String")))) (hR : RS g m0 q z I R M) (h0 : 0 ≤ i.toInt) (h10 : i.toInt < 10) (e1 : mi_nk tb.2 (pc + 1, lv, .ref (g.2.1 (15 + i.toNatClampNeg)) :: s0, M) = S') (kk : ml T d tb S' Q) : ml T d tb (pc, lv, .int i :: .ref (q 62) :: s0, M) Q := by
  have hg : mi_ga M (q 62) (.object "java/lang/String") = some (10, fun i => (knl[i]?).map (fun j => Value.ref (g.2.1 j))) := by
    unfold mi_ga
    rw [hR.2.2.1]
    simp
  refine ml_ald h1 hg (vin_lt h0 (by omega)) ?_ e1 kk
  have hi : i.toNatClampNeg < 10 := by show i.toInt.toNat < 10; omega
  generalize i.toNatClampNeg = j at hi
  have : j = 0 ∨ j = 1 ∨ j = 2 ∨ j = 3 ∨ j = 4 ∨ j = 5 ∨ j = 6 ∨ j = 7 ∨ j = 8 ∨ j = 9 := by omega
  rcases this with rfl | rfl | rfl | rfl | rfl | rfl | rfl | rfl | rfl | rfl <;> rfl
theorem rl_kn {g : xe_G} {m0 : Nat} {q : Nat → Nat} {z : Nat × Nat} {I : rI} {R : rR} {M : mi_H} {T : Nat → Option (Nat × mi_B)} {d pc : Nat} {tb : mi_B} {lv : List (Nat × Value)} {s0 : List Value} {Q : Option Value → mi_H → Prop} {S' : mi_S} (h1 : tb.1 pc = some (.inl (o_alen (.object "java/lang/String")))) (hR : RS g m0 q z I R M) (e1 : mi_nk tb.2 (pc + 1, lv, .int (nI 10) :: s0, M) = S') (kk : ml T d tb S' Q) : ml T d tb (pc, lv, .ref (q 62) :: s0, M) Q := by
  have hg : mi_ga M (q 62) (.object "java/lang/String") = some (10, fun i => (knl[i]?).map (fun j => Value.ref (g.2.1 j))) := by
    unfold mi_ga
    rw [hR.2.2.1]
    simp
  exact ml_alen h1 hg e1 kk
def NW (f : Nat → Int32) (n : Nat) (I : rI) : Prop := (∀ k, k ∈ [65, 66, 67, 68, 69, 72] → ∃ v, I k = some v) ∧ ∃ b c : Int32, I 70 = some b ∧ I 71 = some c ∧ 0 ≤ c.toInt ∧ (c.toInt = 0 ∨ BSW f n b c)
theorem NW.fr {I I' : rI} (h : NW f n I) (h' : ∀ k, k ∈ [65, 66, 67, 68, 69, 70, 71, 72] → I' k = I k) : NW f n I' := by
  obtain ⟨h1, b, c, h2, h3, h4⟩ := h
  refine ⟨fun k hk => ?_, b, c, (h' 70 (by decide)).trans h2, (h' 71 (by decide)).trans h3, h4⟩
  rw [h' k (by simp only [List.mem_cons, List.not_mem_nil, or_false] at hk ⊢; omega)]
  exact h1 k hk
theorem NW.put {I I' : rI} {j : Nat} {v : Int32} (h : NW f n I) (hj : j ∈ [65, 66, 67, 68, 69, 72]) (e : I' j = some v) (g : ∀ k, k ≠ j → I' k = I k) : NW f n I' := by
  obtain ⟨h1, b, c, h2, h3, h4⟩ := h
  have e70 : (70 : Nat) ≠ j := by simp only [List.mem_cons, List.not_mem_nil, or_false] at hj; omega
  have e71 : (71 : Nat) ≠ j := by simp only [List.mem_cons, List.not_mem_nil, or_false] at hj; omega
  refine ⟨fun k hk => ?_, b, c, (g 70 e70).trans h2, (g 71 e71).trans h3, h4⟩
  by_cases q : k = j
  · subst q
    exact ⟨v, e⟩
  · rw [g k q]
    exact h1 k hk
end MIO
section MIO2
variable {w : Int32}
theorem kin_1 (h : kin w = 1) : w = 0 := by
  unfold kin at h
  split at h
  · assumption
  · split at h
    · exact absurd h (by decide)
    · split at h <;> exact absurd h (by decide)
theorem kin_2 (h : kin w = 2) : w = 1 ∨ w = 2 := by
  unfold kin at h
  split at h
  · exact absurd h (by decide)
  · split at h
    · assumption
    · split at h <;> exact absurd h (by decide)
theorem kin_3 (h : kin w = 3) : w = 3 := by
  unfold kin at h
  split at h
  · exact absurd h (by decide)
  · split at h
    · exact absurd h (by decide)
    · split at h
      · assumption
      · exact absurd h (by decide)
theorem kin_4 (h0 : 0 ≤ w.toInt) (h1 : w.toInt < 10) (h : kin w = 4) : 4 ≤ w.toInt ∧ w.toInt ≤ 9 := by
  unfold kin at h
  split at h
  · exact absurd h (by decide)
  · split at h
    · exact absurd h (by decide)
    · split at h
      · exact absurd h (by decide)
      · rename_i a b c
        have a1 : w.toInt ≠ 0 := fun e => a (Int32.toInt_inj.mp e)
        have b1 : w.toInt ≠ 1 := fun e => b (Or.inl (Int32.toInt_inj.mp e))
        have b2 : w.toInt ≠ 2 := fun e => b (Or.inr (Int32.toInt_inj.mp e))
        have c1 : w.toInt ≠ 3 := fun e => c (Int32.toInt_inj.mp e)
        omega
end MIO2
section MIO3
variable {f : Nat → Int32} {n : Nat} {I I' : rI} {x a : Int32}
theorem w49 (h : 4 ≤ x.toInt ∧ x.toInt ≤ 9) : x = 4 ∨ x = 5 ∨ x = 6 ∨ x = 7 ∨ x = 8 ∨ x = 9 := by
  have : x.toInt = 4 ∨ x.toInt = 5 ∨ x.toInt = 6 ∨ x.toInt = 7 ∨ x.toInt = 8 ∨ x.toInt = 9 := by omega
  rcases this with e | e | e | e | e | e
  · exact Or.inl (i_ofInt 4 (by omega) e)
  · exact Or.inr (Or.inl (i_ofInt 5 (by omega) e))
  · exact Or.inr (Or.inr (Or.inl (i_ofInt 6 (by omega) e)))
  · exact Or.inr (Or.inr (Or.inr (Or.inl (i_ofInt 7 (by omega) e))))
  · exact Or.inr (Or.inr (Or.inr (Or.inr (Or.inl (i_ofInt 8 (by omega) e)))))
  · exact Or.inr (Or.inr (Or.inr (Or.inr (Or.inr (i_ofInt 9 (by omega) e)))))
theorem nw_boot (h : NW f n I) (hI : eqI [70, 71] I I') (w : x ≠ 0 ∧ I' = I ∨ x = 0 ∧ I' 70 = some a ∧ I' 71 = some (f2 f a) ∧ BSW f n a (f2 f a)) : NW f n I' := by
  rcases w with ⟨-, e⟩ | ⟨-, h1, h2, h3⟩
  · rw [e]
    exact h
  · refine ⟨fun k hk => ?_, a, _, h1, h2, f2_pos, Or.inr h3⟩
    rw [hI k (by simp only [List.mem_cons, List.not_mem_nil, or_false] at hk ⊢; omega)]
    exact h.1 k hk
theorem nw_comp (h : NW f n I) (hI : eqI [47, 48, 72] I I') (w : x = 0 ∧ I' 72 = some a ∨ x ≠ 0 ∧ I' 72 = I 72) : NW f n I' := by
  obtain ⟨h1, b, c, h2, h3, h4⟩ := h
  refine ⟨fun k hk => ?_, b, c, (hI 70 (by decide)).trans h2, (hI 71 (by decide)).trans h3, h4⟩
  by_cases e : k = 72
  · subst e
    rcases w with ⟨-, w⟩ | ⟨-, w⟩
    · exact ⟨_, w⟩
    · rw [w]
      exact h1 72 (by decide)
  · rw [hI k (by simp only [List.mem_cons, List.not_mem_nil, or_false] at hk ⊢; omega)]
    exact h1 k hk
end MIO3
end
section
/-! the reference: the class, bootstraps, components (laid by wip/p2/c68.py) -/
theorem at_k {hA k : Int32} {n : Nat} (hn : n ≤ 65540) (h0 : 0 ≤ hA.toInt) (h1 : hA.toInt ≤ n) (k0 : 0 ≤ k.toInt) (k1 : k.toInt ≤ 65535) : (hA + 8 + 2 * k).toInt = hA.toInt + 8 + 2 * k.toInt := by
  have e8 : (8 : Int32).toInt = 8 := rfl
  have d8 : (hA + 8).toInt = hA.toInt + 8 := by rw [i_add (by omega) (by omega), e8]
  rw [i_add (by rw [two_k k0 (by omega)]; omega) (by rw [two_k k0 (by omega)]; omega), two_k k0 (by omega), d8]

set_option maxHeartbeats 2000000 in
theorem rm_checkClass {g : xe_G}  {m0 : Nat} {q : Nat → Nat} {z : Nat × Nat} {I : rI} {R : rR} {M : mi_H} {hA so : Int32} {n : Nat} {f : Nat → Int32} {S cN : Nat} {sa sl ch : Nat → Int32} {cp mj : Int32} {pa py : Nat → Int32}  (hR : RS g m0 q z I R M) (hk54 : I 54 = some hA) (hk11 : I 11 = some so) (hF : FK n f I R) (hY : SK S cN sa sl ch I R) (hP : PK n f S cp mj pa py I R) (hE : EK f cp pa py sa sl ch) (h0 : 0 ≤ hA.toInt) (h1 : hA.toInt + 8 + 2 * (f2 f (hA + 6)).toInt ≤ n) {d : Nat} (hd : 6 ≤ d) : mt (mT g) d 188 [.ref m0] M (fun v M' => ∃ (x : Int32) (I' : rI) (R' : rR), v = some (.int x) ∧ RS g m0 q z I' R' M' ∧ eqI [47, 48, 58, 59, 60, 61] I I' ∧ eqR [] R R' ∧ (x = 0 ∨ x = 1) ∧ (x = 0 ∨ (∃ v, I' 58 = some v) ∧ ∃ v, I' 61 = some v)) := by
  obtain ⟨d, rfl⟩ : ∃ e, d = e + 1 := ⟨d - 1, by omega⟩
  refine mt_in (b := mb_188 g) rfl rfl ?_
  show ml (mT g) d (mb_188 g).2 (0, [(0, .ref m0)], [], M) _
  have hn := hF.1
  have hc0 := f2_pos (f := f) (x := hA + 6)
  have hc1 := f2_le (f := f) (x := hA + 6)
  have a2 : (hA + 2).toInt = hA.toInt + 2 := i_add (by have : (2 : Int32).toInt = 2 := rfl; omega) (by have : (2 : Int32).toInt = 2 := rfl; omega)
  have a4 : (hA + 4).toInt = hA.toInt + 4 := i_add (by have : (4 : Int32).toInt = 4 := rfl; omega) (by have : (4 : Int32).toInt = 4 := rfl; omega)
  have a6 : (hA + 6).toInt = hA.toInt + 6 := i_add (by have : (6 : Int32).toInt = 6 := rfl; omega) (by have : (6 : Int32).toInt = 6 := rfl; omega)
  have a8 : (hA + 8).toInt = hA.toInt + 8 := i_add (by have : (8 : Int32).toInt = 8 := rfl; omega) (by have : (8 : Int32).toInt = 8 := rfl; omega)
  refine ml_blk 2 (S' := (2, [(0, .ref m0)], [.ref m0, .ref m0], M)) rfl ?_
  refine rg_int (S' := (5, [(0, .ref m0)], [.int hA, .ref m0], M)) rfl hR rfl (hk54) rfl ?_
  refine ml_call (a := [.ref m0, .int hA]) (rest := []) rfl (hR.okc rfl rfl rfl) rfl rfl (rm_u2 hR hF (by omega) (by omega) (by omega)) (fun v11 M12 h13 => ?_)
  obtain ⟨rfl, h13⟩ := h13
  rw [h13]
  show ml _ _ _ (8, [(0, .ref m0)], [.int (f2 f hA)], M) _
  refine ml_st (S' := (9, [(1, .int (f2 f hA)), (0, .ref m0)], [], M)) rfl rfl rfl ?_
  refine ml_blk 2 (S' := (11, [(1, .int (f2 f hA)), (0, .ref m0)], [.int (f2 f hA), .ref m0], M)) rfl ?_
  refine rp_int rfl hR rfl (fun M14 I15 hR16 e17 f18 => ?_)
  show ml _ _ _ (14, [(1, .int (f2 f hA)), (0, .ref m0)], [], M14) _
  refine ml_blk 3 (S' := (19, [(1, .int (f2 f hA)), (0, .ref m0)], [.int ((f2 f hA) &&& 512)], M14)) rfl ?_
  have J_27 : ∀ (s27_0 : Int32), ml (mT g) d (mb_188 g).2 (27, [(0, .ref m0), (1, .int (f2 f hA))], [.int s27_0], M14) (fun v M' => ∃ (x : Int32) (I' : rI) (R' : rR), v = some (.int x) ∧ RS g m0 q z I' R' M' ∧ eqI [47, 48, 58, 59, 60, 61] I I' ∧ eqR [] R R' ∧ (x = 0 ∨ x = 1) ∧ (x = 0 ∨ (∃ v, I' 58 = some v) ∧ ∃ v, I' 61 = some v)) := by
    intro s27_0
    refine ml_st (S' := (28, [(2, .int s27_0), (0, .ref m0), (1, .int (f2 f hA))], [], M14)) rfl rfl rfl ?_
    refine ml_blk 3 (S' := (33, [(2, .int s27_0), (0, .ref m0), (1, .int (f2 f hA))], [.int ((f2 f hA) &&& 32768)], M14)) rfl ?_
    have J_82 : ml (mT g) d (mb_188 g).2 (82, [(0, .ref m0), (1, .int (f2 f hA)), (2, .int s27_0)], [], M14) (fun v M' => ∃ (x : Int32) (I' : rI) (R' : rR), v = some (.int x) ∧ RS g m0 q z I' R' M' ∧ eqI [47, 48, 58, 59, 60, 61] I I' ∧ eqR [] R R' ∧ (x = 0 ∨ x = 1) ∧ (x = 0 ∨ (∃ v, I' 58 = some v) ∧ ∃ v, I' 61 = some v)) := by
      refine ml_st (S' := (83, [(0, .ref m0), (1, .int (f2 f hA)), (2, .int s27_0)], [.int s27_0], M14)) rfl rfl rfl ?_
      have J_110 : ml (mT g) d (mb_188 g).2 (110, [(0, .ref m0)], [], M14) (fun v M' => ∃ (x : Int32) (I' : rI) (R' : rR), v = some (.int x) ∧ RS g m0 q z I' R' M' ∧ eqI [47, 48, 58, 59, 60, 61] I I' ∧ eqR [] R R' ∧ (x = 0 ∨ x = 1) ∧ (x = 0 ∨ (∃ v, I' 58 = some v) ∧ ∃ v, I' 61 = some v)) := by
        refine ml_blk 3 (S' := (114, [(0, .ref m0)], [.ref m0, .int 15, .ref m0], M14)) rfl ?_
        refine rg_int (S' := (117, [(0, .ref m0)], [.int hA, .int 15, .ref m0], M14)) rfl hR16 rfl ((f18 54 (by decide)).trans (hk54)) rfl ?_
        refine ml_call (a := [.ref m0, .int 15, .int hA]) (rest := []) rfl (hR16.okc rfl rfl rfl) rfl rfl (rm_wrong hR16 (by omega)) (fun v19 M20 h21 => ?_)
        obtain ⟨u27, I22, R23, rfl, hR24, hI25, hV26, z28, w29⟩ := h21
        show ml _ _ _ (120, [(0, .ref m0)], [.int u27], M20) _
        exact ml_ret rfl (r_z (z28)) (⟨_, _, _, rfl, hR24, ((eqI.rf.put f18 (by decide)).tr hI25 (by decide)), (eqR.rf.tr hV26 (by decide)), z28, Or.inl w29⟩)
      refine ml_if (S1 := (110, [(0, .ref m0)], [], M14)) (S2 := (86, [(0, .ref m0), (1, .int (f2 f hA)), (2, .int s27_0)], [], M14)) rfl rfl rfl (fun c_83 => ?_) (fun c_83 => ?_)
      · have c_83 : s27_0 = 0 := of_decide_eq_true c_83
        exact J_110 
      · have c_83 : ¬ (s27_0 = 0) := of_decide_eq_false c_83
        refine ml_blk 3 (S' := (91, [(0, .ref m0), (1, .int (f2 f hA)), (2, .int s27_0)], [.int ((f2 f hA) &&& 32768)], M14)) rfl ?_
        refine ml_if (S1 := (110, [(0, .ref m0)], [], M14)) (S2 := (94, [(0, .ref m0), (1, .int (f2 f hA)), (2, .int s27_0)], [], M14)) rfl rfl rfl (fun c_91 => ?_) (fun c_91 => ?_)
        · have c_91 : ¬ ((f2 f hA) &&& 32768) = 0 := of_decide_eq_true c_91
          exact J_110 
        · have c_91 : ¬ (¬ ((f2 f hA) &&& 32768) = 0) := of_decide_eq_false c_91
          refine ml_blk 3 (S' := (99, [(0, .ref m0), (1, .int (f2 f hA)), (2, .int s27_0)], [.int ((f2 f hA) &&& 1024)], M14)) rfl ?_
          refine ml_if (S1 := (110, [(0, .ref m0)], [], M14)) (S2 := (102, [(0, .ref m0), (1, .int (f2 f hA)), (2, .int s27_0)], [], M14)) rfl rfl rfl (fun c_99 => ?_) (fun c_99 => ?_)
          · have c_99 : ((f2 f hA) &&& 1024) = 0 := of_decide_eq_true c_99
            exact J_110 
          · have c_99 : ¬ (((f2 f hA) &&& 1024) = 0) := of_decide_eq_false c_99
            refine ml_blk 3 (S' := (107, [(0, .ref m0), (1, .int (f2 f hA)), (2, .int s27_0)], [.int ((f2 f hA) &&& 16400)], M14)) rfl ?_
            refine ml_if (S1 := (110, [(0, .ref m0)], [], M14)) (S2 := (110, [(0, .ref m0)], [], M14)) rfl rfl rfl (fun c_107 => ?_) (fun c_107 => ?_)
            · have c_107 : ¬ ((f2 f hA) &&& 16400) = 0 := of_decide_eq_true c_107
              exact J_110 
            · have c_107 : ¬ (¬ ((f2 f hA) &&& 16400) = 0) := of_decide_eq_false c_107
              exact J_110 
    refine ml_if (S1 := (82, [(0, .ref m0), (1, .int (f2 f hA)), (2, .int s27_0)], [], M14)) (S2 := (36, [(2, .int s27_0), (0, .ref m0), (1, .int (f2 f hA))], [], M14)) rfl rfl rfl (fun c_33 => ?_) (fun c_33 => ?_)
    · have c_33 : ¬ ((f2 f hA) &&& 32768) = 0 := of_decide_eq_true c_33
      exact J_82 
    · have c_33 : ¬ (¬ ((f2 f hA) &&& 32768) = 0) := of_decide_eq_false c_33
      refine ml_st (S' := (37, [(2, .int s27_0), (0, .ref m0), (1, .int (f2 f hA))], [.int s27_0], M14)) rfl rfl rfl ?_
      have J_121 : ml (mT g) d (mb_188 g).2 (121, [(0, .ref m0), (2, .int s27_0)], [], M14) (fun v M' => ∃ (x : Int32) (I' : rI) (R' : rR), v = some (.int x) ∧ RS g m0 q z I' R' M' ∧ eqI [47, 48, 58, 59, 60, 61] I I' ∧ eqR [] R R' ∧ (x = 0 ∨ x = 1) ∧ (x = 0 ∨ (∃ v, I' 58 = some v) ∧ ∃ v, I' 61 = some v)) := by
        refine ml_blk 3 (S' := (124, [(0, .ref m0), (2, .int s27_0)], [.ref m0, .ref m0, .ref m0], M14)) rfl ?_
        refine rg_int (S' := (127, [(0, .ref m0), (2, .int s27_0)], [.int hA, .ref m0, .ref m0], M14)) rfl hR16 rfl ((f18 54 (by decide)).trans (hk54)) rfl ?_
        refine ml_blk 2 (S' := (129, [(0, .ref m0), (2, .int s27_0)], [.int (hA + 2), .ref m0, .ref m0], M14)) rfl ?_
        have hF30 : FK n f I15 R := (hF.mono (pIx f18 (by decide)) (fun _ _ => rfl))
        refine ml_call (a := [.ref m0, .int (hA + 2)]) (rest := [.ref m0]) rfl (hR16.okc rfl rfl rfl) rfl rfl (rm_u2 hR16 hF30 (by omega) (by omega) (by omega)) (fun v31 M32 h33 => ?_)
        obtain ⟨rfl, h33⟩ := h33
        rw [h33]
        show ml _ _ _ (132, [(0, .ref m0), (2, .int s27_0)], [.int (f2 f (hA + 2)), .ref m0], M14) _
        have hY34 : SK S cN sa sl ch I15 R := (hY.mono (pIx f18 (by decide)) (fun _ _ => rfl))
        have hP35 : PK n f S cp mj pa py I15 R := (hP.mono (pIx f18 (by decide)) (fun _ _ => rfl))
        refine ml_call (a := [.ref m0, .int (f2 f (hA + 2))]) (rest := []) rfl (hR16.okc rfl rfl rfl) rfl rfl (rm_plainClass hR16 hF30 hY34 hP35 hE (by omega)) (fun v36 M37 h38 => ?_)
        obtain ⟨⟨u39, rfl, z40, w41⟩, h38⟩ := h38
        rw [h38]
        show ml _ _ _ (135, [(0, .ref m0), (2, .int s27_0)], [.int u39], M14) _
        refine ml_if (S1 := (151, [(0, .ref m0), (2, .int s27_0)], [], M14)) (S2 := (138, [(0, .ref m0), (2, .int s27_0)], [], M14)) rfl rfl rfl (fun c_135 => ?_) (fun c_135 => ?_)
        · have c_135 : ¬ u39 = 0 := of_decide_eq_true c_135
          have hA7 := w41.resolve_left c_135
          refine ml_blk 3 (S' := (154, [(0, .ref m0), (2, .int s27_0)], [.ref m0, .ref m0, .ref m0], M14)) rfl ?_
          refine ml_st (S' := (155, [(0, .ref m0), (2, .int s27_0)], [.ref m0, .ref m0, .ref m0, .ref m0], M14)) rfl rfl rfl ?_
          refine rg_int (S' := (158, [(0, .ref m0), (2, .int s27_0)], [.int hA, .ref m0, .ref m0, .ref m0], M14)) rfl hR16 rfl ((f18 54 (by decide)).trans (hk54)) rfl ?_
          refine ml_blk 2 (S' := (160, [(0, .ref m0), (2, .int s27_0)], [.int (hA + 2), .ref m0, .ref m0, .ref m0], M14)) rfl ?_
          refine ml_call (a := [.ref m0, .int (hA + 2)]) (rest := [.ref m0, .ref m0]) rfl (hR16.okc rfl rfl rfl) rfl rfl (rm_u2 hR16 hF30 (by omega) (by omega) (by omega)) (fun v42 M43 h44 => ?_)
          obtain ⟨rfl, h44⟩ := h44
          rw [h44]
          show ml _ _ _ (163, [(0, .ref m0), (2, .int s27_0)], [.int (f2 f (hA + 2)), .ref m0, .ref m0], M14) _
          refine ml_call (a := [.ref m0, .int (f2 f (hA + 2))]) (rest := [.ref m0]) rfl (hR16.okc rfl rfl rfl) rfl rfl (rm_className hR16 hF30 hP35 (hA7) ((hE _ (by rw [hA7]; decide)).1.1 (by rw [hA7]; exact Or.inl rfl)) (by omega)) (fun v45 M46 h47 => ?_)
          obtain ⟨rfl, h47⟩ := h47
          rw [h47]
          show ml _ _ _ (166, [(0, .ref m0), (2, .int s27_0)], [.int (pyf py (ixf f pa (f2 f (hA + 2)) 1)), .ref m0], M14) _
          refine rp_int rfl hR16 rfl (fun M48 I49 hR50 e51 f52 => ?_)
          show ml _ _ _ (169, [(0, .ref m0), (2, .int s27_0)], [], M48) _
          refine ml_blk 2 (S' := (171, [(0, .ref m0), (2, .int s27_0)], [.ref m0, .ref m0], M48)) rfl ?_
          refine rg_int (S' := (174, [(0, .ref m0), (2, .int s27_0)], [.int hA, .ref m0], M48)) rfl hR50 rfl ((f52 54 (by decide)).trans ((f18 54 (by decide)).trans (hk54))) rfl ?_
          refine ml_blk 2 (S' := (176, [(0, .ref m0), (2, .int s27_0)], [.int (hA + 4), .ref m0], M48)) rfl ?_
          have hF53 : FK n f I49 R := (hF30.mono (pIx f52 (by decide)) (fun _ _ => rfl))
          refine ml_call (a := [.ref m0, .int (hA + 4)]) (rest := []) rfl (hR50.okc rfl rfl rfl) rfl rfl (rm_u2 hR50 hF53 (by omega) (by omega) (by omega)) (fun v54 M55 h56 => ?_)
          obtain ⟨rfl, h56⟩ := h56
          rw [h56]
          show ml _ _ _ (179, [(0, .ref m0), (2, .int s27_0)], [.int (f2 f (hA + 4))], M48) _
          refine ml_st (S' := (180, [(3, .int (f2 f (hA + 4))), (0, .ref m0), (2, .int s27_0)], [], M48)) rfl rfl rfl ?_
          refine ml_blk 2 (S' := (182, [(3, .int (f2 f (hA + 4))), (0, .ref m0), (2, .int s27_0)], [.int (f2 f (hA + 4)), .ref m0], M48)) rfl ?_
          have hY57 : SK S cN sa sl ch I49 R := (hY34.mono (pIx f52 (by decide)) (fun _ _ => rfl))
          have hP58 : PK n f S cp mj pa py I49 R := (hP35.mono (pIx f52 (by decide)) (fun _ _ => rfl))
          refine ml_call (a := [.ref m0, .int (f2 f (hA + 4))]) (rest := []) rfl (hR50.okc rfl rfl rfl) rfl rfl (rm_plainClass hR50 hF53 hY57 hP58 hE (by omega)) (fun v59 M60 h61 => ?_)
          obtain ⟨⟨u62, rfl, z63, w64⟩, h61⟩ := h61
          rw [h61]
          show ml _ _ _ (185, [(3, .int (f2 f (hA + 4))), (0, .ref m0), (2, .int s27_0)], [.int u62], M48) _
          refine ml_if (S1 := (204, [(0, .ref m0)], [], M48)) (S2 := (188, [(3, .int (f2 f (hA + 4))), (0, .ref m0), (2, .int s27_0)], [], M48)) rfl rfl rfl (fun c_185 => ?_) (fun c_185 => ?_)
          · have c_185 : u62 = 0 := of_decide_eq_true c_185
            refine ml_blk 3 (S' := (208, [(0, .ref m0)], [.ref m0, .int 17, .ref m0], M48)) rfl ?_
            refine rg_int (S' := (211, [(0, .ref m0)], [.int hA, .int 17, .ref m0], M48)) rfl hR50 rfl ((f52 54 (by decide)).trans ((f18 54 (by decide)).trans (hk54))) rfl ?_
            refine ml_blk 2 (S' := (213, [(0, .ref m0)], [.int (hA + 4), .int 17, .ref m0], M48)) rfl ?_
            refine ml_call (a := [.ref m0, .int 17, .int (hA + 4)]) (rest := []) rfl (hR50.okc rfl rfl rfl) rfl rfl (rm_wrong hR50 (by omega)) (fun v65 M66 h67 => ?_)
            obtain ⟨u73, I68, R69, rfl, hR70, hI71, hV72, z74, w75⟩ := h67
            show ml _ _ _ (216, [(0, .ref m0)], [.int u73], M66) _
            exact ml_ret rfl (r_z (z74)) (⟨_, _, _, rfl, hR70, (((eqI.rf.put f18 (by decide)).put f52 (by decide)).tr hI71 (by decide)), (eqR.rf.tr hV72 (by decide)), z74, Or.inl w75⟩)
          · have c_185 : ¬ (u62 = 0) := of_decide_eq_false c_185
            have hB7 := w64.resolve_left c_185
            refine ml_st (S' := (189, [(3, .int (f2 f (hA + 4))), (0, .ref m0), (2, .int s27_0)], [.int s27_0], M48)) rfl rfl rfl ?_
            have J_217 : (tgf f cp pa (f2 f (hA + 4)) = 7) → ml (mT g) d (mb_188 g).2 (217, [(0, .ref m0), (3, .int (f2 f (hA + 4)))], [], M48) (fun v M' => ∃ (x : Int32) (I' : rI) (R' : rR), v = some (.int x) ∧ RS g m0 q z I' R' M' ∧ eqI [47, 48, 58, 59, 60, 61] I I' ∧ eqR [] R R' ∧ (x = 0 ∨ x = 1) ∧ (x = 0 ∨ (∃ v, I' 58 = some v) ∧ ∃ v, I' 61 = some v)) := by
              intro hj_217
              refine ml_blk 3 (S' := (220, [(0, .ref m0), (3, .int (f2 f (hA + 4)))], [.int (f2 f (hA + 4)), .ref m0, .ref m0], M48)) rfl ?_
              refine ml_call (a := [.ref m0, .int (f2 f (hA + 4))]) (rest := [.ref m0]) rfl (hR50.okc rfl rfl rfl) rfl rfl (rm_className hR50 hF53 hP58 (hj_217) ((hE _ (by rw [hj_217]; decide)).1.1 (by rw [hj_217]; exact Or.inl rfl)) (by omega)) (fun v76 M77 h78 => ?_)
              obtain ⟨rfl, h78⟩ := h78
              rw [h78]
              show ml _ _ _ (223, [(0, .ref m0), (3, .int (f2 f (hA + 4)))], [.int (pyf py (ixf f pa (f2 f (hA + 4)) 1)), .ref m0], M48) _
              refine rp_int rfl hR50 rfl (fun M79 I80 hR81 e82 f83 => ?_)
              show ml _ _ _ (226, [(0, .ref m0), (3, .int (f2 f (hA + 4)))], [], M79) _
              refine ml_blk 2 (S' := (228, [(0, .ref m0), (3, .int (f2 f (hA + 4)))], [.ref m0, .ref m0], M79)) rfl ?_
              refine rg_int (S' := (231, [(0, .ref m0), (3, .int (f2 f (hA + 4)))], [.int hA, .ref m0], M79)) rfl hR81 rfl ((f83 54 (by decide)).trans ((f52 54 (by decide)).trans ((f18 54 (by decide)).trans (hk54)))) rfl ?_
              refine ml_blk 2 (S' := (234, [(0, .ref m0), (3, .int (f2 f (hA + 4)))], [.int (hA + 6), .ref m0], M79)) rfl ?_
              have hF84 : FK n f I80 R := (hF53.mono (pIx f83 (by decide)) (fun _ _ => rfl))
              refine ml_call (a := [.ref m0, .int (hA + 6)]) (rest := []) rfl (hR81.okc rfl rfl rfl) rfl rfl (rm_u2 hR81 hF84 (by omega) (by omega) (by omega)) (fun v85 M86 h87 => ?_)
              obtain ⟨rfl, h87⟩ := h87
              rw [h87]
              show ml _ _ _ (237, [(0, .ref m0), (3, .int (f2 f (hA + 4)))], [.int (f2 f (hA + 6))], M79) _
              refine ml_st (S' := (239, [(4, .int (f2 f (hA + 6))), (0, .ref m0), (3, .int (f2 f (hA + 4)))], [], M79)) rfl rfl rfl ?_
              refine ml_st (S' := (240, [(4, .int (f2 f (hA + 6))), (0, .ref m0), (3, .int (f2 f (hA + 4)))], [.int 0], M79)) rfl rfl rfl ?_
              refine ml_st (S' := (242, [(0, .ref m0), (4, .int (f2 f (hA + 6))), (5, .int 0)], [], M79)) rfl rfl rfl ?_
              have L_242 : ∀ (n_242 : Nat) (i242_5 : Int32), (2147483648 - i242_5.toInt).toNat ≤ n_242 → (0 ≤ i242_5.toInt ∧ i242_5.toInt ≤ (f2 f (hA + 6)).toInt ∧ ∀ j : Int32, 0 ≤ j.toInt → j.toInt < i242_5.toInt → tgf f cp pa (f2 f ((hA + 8) + (2 * j))) = 7) → ml (mT g) d (mb_188 g).2 (242, [(0, .ref m0), (4, .int (f2 f (hA + 6))), (5, .int i242_5)], [], M79) (fun v M' => ∃ (x : Int32) (I' : rI) (R' : rR), v = some (.int x) ∧ RS g m0 q z I' R' M' ∧ eqI [47, 48, 58, 59, 60, 61] I I' ∧ eqR [] R R' ∧ (x = 0 ∨ x = 1) ∧ (x = 0 ∨ (∃ v, I' 58 = some v) ∧ ∃ v, I' 61 = some v)) := by
                intro n_242
                induction n_242 with
                | zero => intro i242_5 hn; exact (loop_zero hn).elim
                | succ n_242 ih_242 =>
                  intro i242_5 hn_242 hi_242
                  obtain ⟨hk0, hk1, hall⟩ := hi_242
                  refine ml_blk 2 (S' := (246, [(0, .ref m0), (4, .int (f2 f (hA + 6))), (5, .int i242_5)], [.int (f2 f (hA + 6)), .int i242_5], M79)) rfl ?_
                  refine ml_if2 (S1 := (349, [(0, .ref m0), (4, .int (f2 f (hA + 6))), (5, .int i242_5)], [], M79)) (S2 := (249, [(0, .ref m0), (4, .int (f2 f (hA + 6))), (5, .int i242_5)], [], M79)) rfl rfl rfl (fun c_246 => ?_) (fun c_246 => ?_)
                  · have c_246 : (f2 f (hA + 6)) ≤ i242_5 := of_decide_eq_true c_246
                    refine ml_blk 2 (S' := (352, [(0, .ref m0), (4, .int (f2 f (hA + 6))), (5, .int i242_5)], [.int (f2 f (hA + 6)), .ref m0], M79)) rfl ?_
                    refine rp_int rfl hR81 rfl (fun M88 I89 hR90 e91 f92 => ?_)
                    show ml _ _ _ (355, [(0, .ref m0), (4, .int (f2 f (hA + 6))), (5, .int i242_5)], [], M88) _
                    refine ml_st (S' := (356, [(0, .ref m0), (4, .int (f2 f (hA + 6))), (5, .int i242_5)], [.int 1], M88)) rfl rfl rfl ?_
                    exact ml_ret rfl (r_z (Or.inr rfl)) (⟨_, _, _, rfl, hR90, ((((eqI.rf.put f18 (by decide)).put f52 (by decide)).put f83 (by decide)).put f92 (by decide)), eqR.rf, Or.inr rfl, Or.inr ⟨⟨_, (f92 58 (by decide)).trans ((f83 58 (by decide)).trans ((f52 58 (by decide)).trans (e17)))⟩, _, e91⟩⟩)
                  · have c_246 : ¬ ((f2 f (hA + 6)) ≤ i242_5) := of_decide_eq_false c_246
                    have hkl := i_nle c_246
                    have hak := at_k (hA := hA) (k := i242_5) hn (by omega) (by omega) hk0 (by omega)
                    refine ml_st (S' := (250, [(0, .ref m0), (4, .int (f2 f (hA + 6))), (5, .int i242_5)], [.ref m0], M79)) rfl rfl rfl ?_
                    refine rg_int (S' := (253, [(0, .ref m0), (4, .int (f2 f (hA + 6))), (5, .int i242_5)], [.int hA], M79)) rfl hR81 rfl ((f83 54 (by decide)).trans ((f52 54 (by decide)).trans ((f18 54 (by decide)).trans (hk54)))) rfl ?_
                    refine ml_blk 3 (S' := (257, [(0, .ref m0), (4, .int (f2 f (hA + 6))), (5, .int i242_5)], [.int 2, .int (hA + 8)], M79)) rfl ?_
                    refine ml_blk 3 (S' := (261, [(0, .ref m0), (4, .int (f2 f (hA + 6))), (5, .int i242_5)], [.int ((hA + 8) + (2 * i242_5))], M79)) rfl ?_
                    refine ml_st (S' := (263, [(6, .int ((hA + 8) + (2 * i242_5))), (0, .ref m0), (4, .int (f2 f (hA + 6))), (5, .int i242_5)], [], M79)) rfl rfl rfl ?_
                    refine ml_blk 3 (S' := (267, [(6, .int ((hA + 8) + (2 * i242_5))), (0, .ref m0), (4, .int (f2 f (hA + 6))), (5, .int i242_5)], [.int ((hA + 8) + (2 * i242_5)), .ref m0, .ref m0], M79)) rfl ?_
                    refine ml_call (a := [.ref m0, .int ((hA + 8) + (2 * i242_5))]) (rest := [.ref m0]) rfl (hR81.okc rfl rfl rfl) rfl rfl (rm_u2 hR81 hF84 (by omega) (by omega) (by omega)) (fun v93 M94 h95 => ?_)
                    obtain ⟨rfl, h95⟩ := h95
                    rw [h95]
                    show ml _ _ _ (270, [(6, .int ((hA + 8) + (2 * i242_5))), (0, .ref m0), (4, .int (f2 f (hA + 6))), (5, .int i242_5)], [.int (f2 f ((hA + 8) + (2 * i242_5))), .ref m0], M79) _
                    have hY96 : SK S cN sa sl ch I80 R := (hY57.mono (pIx f83 (by decide)) (fun _ _ => rfl))
                    have hP97 : PK n f S cp mj pa py I80 R := (hP58.mono (pIx f83 (by decide)) (fun _ _ => rfl))
                    refine ml_call (a := [.ref m0, .int (f2 f ((hA + 8) + (2 * i242_5)))]) (rest := []) rfl (hR81.okc rfl rfl rfl) rfl rfl (rm_plainClass hR81 hF84 hY96 hP97 hE (by omega)) (fun v98 M99 h100 => ?_)
                    obtain ⟨⟨u101, rfl, z102, w103⟩, h100⟩ := h100
                    rw [h100]
                    show ml _ _ _ (273, [(6, .int ((hA + 8) + (2 * i242_5))), (0, .ref m0), (4, .int (f2 f (hA + 6))), (5, .int i242_5)], [.int u101], M79) _
                    refine ml_if (S1 := (285, [(6, .int ((hA + 8) + (2 * i242_5))), (0, .ref m0), (4, .int (f2 f (hA + 6))), (5, .int i242_5)], [], M79)) (S2 := (276, [(6, .int ((hA + 8) + (2 * i242_5))), (0, .ref m0), (4, .int (f2 f (hA + 6))), (5, .int i242_5)], [], M79)) rfl rfl rfl (fun c_273 => ?_) (fun c_273 => ?_)
                    · have c_273 : ¬ u101 = 0 := of_decide_eq_true c_273
                      have hq7 := w103.resolve_left c_273
                      refine ml_st (S' := (286, [(6, .int ((hA + 8) + (2 * i242_5))), (0, .ref m0), (4, .int (f2 f (hA + 6))), (5, .int i242_5)], [.int 0], M79)) rfl rfl rfl ?_
                      refine ml_st (S' := (288, [(0, .ref m0), (4, .int (f2 f (hA + 6))), (5, .int i242_5), (6, .int ((hA + 8) + (2 * i242_5))), (7, .int 0)], [], M79)) rfl rfl rfl ?_
                      have L_288 : ∀ (n_288 : Nat) (i288_7 : Int32), (2147483648 - i288_7.toInt).toNat ≤ n_288 → 0 ≤ i288_7.toInt → ml (mT g) d (mb_188 g).2 (288, [(0, .ref m0), (4, .int (f2 f (hA + 6))), (5, .int i242_5), (6, .int ((hA + 8) + (2 * i242_5))), (7, .int i288_7)], [], M79) (fun v M' => ∃ (x : Int32) (I' : rI) (R' : rR), v = some (.int x) ∧ RS g m0 q z I' R' M' ∧ eqI [47, 48, 58, 59, 60, 61] I I' ∧ eqR [] R R' ∧ (x = 0 ∨ x = 1) ∧ (x = 0 ∨ (∃ v, I' 58 = some v) ∧ ∃ v, I' 61 = some v)) := by
                        intro n_288
                        induction n_288 with
                        | zero => intro i288_7 hn; exact (loop_zero hn).elim
                        | succ n_288 ih_288 =>
                          intro i288_7 hn_288 hi_288
                          refine ml_blk 2 (S' := (292, [(0, .ref m0), (4, .int (f2 f (hA + 6))), (5, .int i242_5), (6, .int ((hA + 8) + (2 * i242_5))), (7, .int i288_7)], [.int i242_5, .int i288_7], M79)) rfl ?_
                          refine ml_if2 (S1 := (343, [(0, .ref m0), (4, .int (f2 f (hA + 6))), (5, .int i242_5), (6, .int ((hA + 8) + (2 * i242_5))), (7, .int i288_7)], [], M79)) (S2 := (295, [(0, .ref m0), (4, .int (f2 f (hA + 6))), (5, .int i242_5), (6, .int ((hA + 8) + (2 * i242_5))), (7, .int i288_7)], [], M79)) rfl rfl rfl (fun c_292 => ?_) (fun c_292 => ?_)
                          · have c_292 : i242_5 ≤ i288_7 := of_decide_eq_true c_292
                            refine ml_st (S' := (346, [(5, .int (i242_5 + 1)), (0, .ref m0), (4, .int (f2 f (hA + 6))), (6, .int ((hA + 8) + (2 * i242_5))), (7, .int i288_7)], [], M79)) rfl rfl rfl ?_
                            refine ml_st (S' := (242, [(0, .ref m0), (4, .int (f2 f (hA + 6))), (5, .int (i242_5 + 1))], [], M79)) rfl rfl rfl ?_
                            exact ih_242 (i242_5 + 1) (loop_inc (Int32.not_le.mp c_246) hn_242) (⟨by rw [inc_lt (Int32.not_le.mp c_246)]; omega, by rw [inc_lt (Int32.not_le.mp c_246)]; omega, fun j h0 h1 => by rw [inc_lt (Int32.not_le.mp c_246)] at h1; by_cases e : j = i242_5; (rw [e]; exact hq7); (exact hall j h0 (by have : j.toInt ≠ i242_5.toInt := fun q => e (Int32.toInt_inj.mp q); omega))⟩)
                          · have c_292 : ¬ (i242_5 ≤ i288_7) := of_decide_eq_false c_292
                            have hjl := i_nle c_292
                            have hj7 := hall i288_7 hi_288 hjl
                            have haj := at_k (hA := hA) (k := i288_7) hn (by omega) (by omega) hi_288 (by omega)
                            refine ml_blk 3 (S' := (298, [(0, .ref m0), (4, .int (f2 f (hA + 6))), (5, .int i242_5), (6, .int ((hA + 8) + (2 * i242_5))), (7, .int i288_7)], [.ref m0, .ref m0, .ref m0], M79)) rfl ?_
                            refine rg_int (S' := (301, [(0, .ref m0), (4, .int (f2 f (hA + 6))), (5, .int i242_5), (6, .int ((hA + 8) + (2 * i242_5))), (7, .int i288_7)], [.int hA, .ref m0, .ref m0], M79)) rfl hR81 rfl ((f83 54 (by decide)).trans ((f52 54 (by decide)).trans ((f18 54 (by decide)).trans (hk54)))) rfl ?_
                            refine ml_blk 3 (S' := (305, [(0, .ref m0), (4, .int (f2 f (hA + 6))), (5, .int i242_5), (6, .int ((hA + 8) + (2 * i242_5))), (7, .int i288_7)], [.int 2, .int (hA + 8), .ref m0, .ref m0], M79)) rfl ?_
                            refine ml_blk 3 (S' := (309, [(0, .ref m0), (4, .int (f2 f (hA + 6))), (5, .int i242_5), (6, .int ((hA + 8) + (2 * i242_5))), (7, .int i288_7)], [.int ((hA + 8) + (2 * i288_7)), .ref m0, .ref m0], M79)) rfl ?_
                            refine ml_call (a := [.ref m0, .int ((hA + 8) + (2 * i288_7))]) (rest := [.ref m0]) rfl (hR81.okc rfl rfl rfl) rfl rfl (rm_u2 hR81 hF84 (by omega) (by omega) (by omega)) (fun v104 M105 h106 => ?_)
                            obtain ⟨rfl, h106⟩ := h106
                            rw [h106]
                            show ml _ _ _ (312, [(0, .ref m0), (4, .int (f2 f (hA + 6))), (5, .int i242_5), (6, .int ((hA + 8) + (2 * i242_5))), (7, .int i288_7)], [.int (f2 f ((hA + 8) + (2 * i288_7))), .ref m0], M79) _
                            refine ml_call (a := [.ref m0, .int (f2 f ((hA + 8) + (2 * i288_7)))]) (rest := []) rfl (hR81.okc rfl rfl rfl) rfl rfl (rm_className hR81 hF84 hP97 (hj7) ((hE _ (by rw [hj7]; decide)).1.1 (by rw [hj7]; exact Or.inl rfl)) (by omega)) (fun v107 M108 h109 => ?_)
                            obtain ⟨rfl, h109⟩ := h109
                            rw [h109]
                            show ml _ _ _ (315, [(0, .ref m0), (4, .int (f2 f (hA + 6))), (5, .int i242_5), (6, .int ((hA + 8) + (2 * i242_5))), (7, .int i288_7)], [.int (pyf py (ixf f pa (f2 f ((hA + 8) + (2 * i288_7))) 1))], M79) _
                            refine ml_blk 3 (S' := (319, [(0, .ref m0), (4, .int (f2 f (hA + 6))), (5, .int i242_5), (6, .int ((hA + 8) + (2 * i242_5))), (7, .int i288_7)], [.int ((hA + 8) + (2 * i242_5)), .ref m0, .ref m0, .int (pyf py (ixf f pa (f2 f ((hA + 8) + (2 * i288_7))) 1))], M79)) rfl ?_
                            refine ml_call (a := [.ref m0, .int ((hA + 8) + (2 * i242_5))]) (rest := [.ref m0, .int (pyf py (ixf f pa (f2 f ((hA + 8) + (2 * i288_7))) 1))]) rfl (hR81.okc rfl rfl rfl) rfl rfl (rm_u2 hR81 hF84 (by omega) (by omega) (by omega)) (fun v110 M111 h112 => ?_)
                            obtain ⟨rfl, h112⟩ := h112
                            rw [h112]
                            show ml _ _ _ (322, [(0, .ref m0), (4, .int (f2 f (hA + 6))), (5, .int i242_5), (6, .int ((hA + 8) + (2 * i242_5))), (7, .int i288_7)], [.int (f2 f ((hA + 8) + (2 * i242_5))), .ref m0, .int (pyf py (ixf f pa (f2 f ((hA + 8) + (2 * i288_7))) 1))], M79) _
                            refine ml_call (a := [.ref m0, .int (f2 f ((hA + 8) + (2 * i242_5)))]) (rest := [.int (pyf py (ixf f pa (f2 f ((hA + 8) + (2 * i288_7))) 1))]) rfl (hR81.okc rfl rfl rfl) rfl rfl (rm_className hR81 hF84 hP97 (hq7) ((hE _ (by rw [hq7]; decide)).1.1 (by rw [hq7]; exact Or.inl rfl)) (by omega)) (fun v113 M114 h115 => ?_)
                            obtain ⟨rfl, h115⟩ := h115
                            rw [h115]
                            show ml _ _ _ (325, [(0, .ref m0), (4, .int (f2 f (hA + 6))), (5, .int i242_5), (6, .int ((hA + 8) + (2 * i242_5))), (7, .int i288_7)], [.int (pyf py (ixf f pa (f2 f ((hA + 8) + (2 * i242_5))) 1)), .int (pyf py (ixf f pa (f2 f ((hA + 8) + (2 * i288_7))) 1))], M79) _
                            refine ml_if2 (S1 := (337, [(0, .ref m0), (4, .int (f2 f (hA + 6))), (5, .int i242_5), (6, .int ((hA + 8) + (2 * i242_5))), (7, .int i288_7)], [], M79)) (S2 := (328, [(0, .ref m0), (4, .int (f2 f (hA + 6))), (5, .int i242_5), (6, .int ((hA + 8) + (2 * i242_5))), (7, .int i288_7)], [], M79)) rfl rfl rfl (fun c_325 => ?_) (fun c_325 => ?_)
                            · have c_325 : ¬ (pyf py (ixf f pa (f2 f ((hA + 8) + (2 * i288_7))) 1)) = (pyf py (ixf f pa (f2 f ((hA + 8) + (2 * i242_5))) 1)) := of_decide_eq_true c_325
                              refine ml_st (S' := (340, [(7, .int (i288_7 + 1)), (0, .ref m0), (4, .int (f2 f (hA + 6))), (5, .int i242_5), (6, .int ((hA + 8) + (2 * i242_5)))], [], M79)) rfl rfl rfl ?_
                              refine ml_st (S' := (288, [(0, .ref m0), (4, .int (f2 f (hA + 6))), (5, .int i242_5), (6, .int ((hA + 8) + (2 * i242_5))), (7, .int (i288_7 + 1))], [], M79)) rfl rfl rfl ?_
                              exact ih_288 (i288_7 + 1) (loop_inc (Int32.not_le.mp c_292) hn_288) (by rw [inc_lt (Int32.not_le.mp c_292)]; omega)
                            · have c_325 : ¬ (¬ (pyf py (ixf f pa (f2 f ((hA + 8) + (2 * i288_7))) 1)) = (pyf py (ixf f pa (f2 f ((hA + 8) + (2 * i242_5))) 1))) := of_decide_eq_false c_325
                              refine ml_blk 3 (S' := (333, [(0, .ref m0), (4, .int (f2 f (hA + 6))), (5, .int i242_5), (6, .int ((hA + 8) + (2 * i242_5))), (7, .int i288_7)], [.int ((hA + 8) + (2 * i242_5)), .int 18, .ref m0], M79)) rfl ?_
                              refine ml_call (a := [.ref m0, .int 18, .int ((hA + 8) + (2 * i242_5))]) (rest := []) rfl (hR81.okc rfl rfl rfl) rfl rfl (rm_wrong hR81 (by omega)) (fun v116 M117 h118 => ?_)
                              obtain ⟨u124, I119, R120, rfl, hR121, hI122, hV123, z125, w126⟩ := h118
                              show ml _ _ _ (336, [(0, .ref m0), (4, .int (f2 f (hA + 6))), (5, .int i242_5), (6, .int ((hA + 8) + (2 * i242_5))), (7, .int i288_7)], [.int u124], M117) _
                              exact ml_ret rfl (r_z (z125)) (⟨_, _, _, rfl, hR121, ((((eqI.rf.put f18 (by decide)).put f52 (by decide)).put f83 (by decide)).tr hI122 (by decide)), (eqR.rf.tr hV123 (by decide)), z125, Or.inl w126⟩)
                      exact L_288 _ 0 (Nat.le_refl _) (by decide)
                    · have c_273 : ¬ (¬ u101 = 0) := of_decide_eq_false c_273
                      refine ml_blk 3 (S' := (281, [(6, .int ((hA + 8) + (2 * i242_5))), (0, .ref m0), (4, .int (f2 f (hA + 6))), (5, .int i242_5)], [.int ((hA + 8) + (2 * i242_5)), .int 18, .ref m0], M79)) rfl ?_
                      refine ml_call (a := [.ref m0, .int 18, .int ((hA + 8) + (2 * i242_5))]) (rest := []) rfl (hR81.okc rfl rfl rfl) rfl rfl (rm_wrong hR81 (by omega)) (fun v127 M128 h129 => ?_)
                      obtain ⟨u135, I130, R131, rfl, hR132, hI133, hV134, z136, w137⟩ := h129
                      show ml _ _ _ (284, [(6, .int ((hA + 8) + (2 * i242_5))), (0, .ref m0), (4, .int (f2 f (hA + 6))), (5, .int i242_5)], [.int u135], M128) _
                      exact ml_ret rfl (r_z (z136)) (⟨_, _, _, rfl, hR132, ((((eqI.rf.put f18 (by decide)).put f52 (by decide)).put f83 (by decide)).tr hI133 (by decide)), (eqR.rf.tr hV134 (by decide)), z136, Or.inl w137⟩)
              exact L_242 _ 0 (Nat.le_refl _) (⟨by decide, by show (0 : Int) ≤ _; omega, fun j h0 h1 => by have : (0 : Int32).toInt = 0 := rfl; omega⟩)
            refine ml_if (S1 := (217, [(0, .ref m0), (3, .int (f2 f (hA + 4)))], [], M48)) (S2 := (192, [(3, .int (f2 f (hA + 4))), (0, .ref m0), (2, .int s27_0)], [], M48)) rfl rfl rfl (fun c_189 => ?_) (fun c_189 => ?_)
            · have c_189 : s27_0 = 0 := of_decide_eq_true c_189
              exact J_217  (hB7)
            · have c_189 : ¬ (s27_0 = 0) := of_decide_eq_false c_189
              refine ml_blk 2 (S' := (194, [(3, .int (f2 f (hA + 4))), (0, .ref m0), (2, .int s27_0)], [.int (f2 f (hA + 4)), .ref m0], M48)) rfl ?_
              refine ml_call (a := [.ref m0, .int (f2 f (hA + 4))]) (rest := []) rfl (hR50.okc rfl rfl rfl) rfl rfl (rm_className hR50 hF53 hP58 (hB7) ((hE _ (by rw [hB7]; decide)).1.1 (by rw [hB7]; exact Or.inl rfl)) (by omega)) (fun v138 M139 h140 => ?_)
              obtain ⟨rfl, h140⟩ := h140
              rw [h140]
              show ml _ _ _ (197, [(3, .int (f2 f (hA + 4))), (0, .ref m0), (2, .int s27_0)], [.int (pyf py (ixf f pa (f2 f (hA + 4)) 1))], M48) _
              refine ml_st (S' := (198, [(3, .int (f2 f (hA + 4))), (0, .ref m0), (2, .int s27_0)], [.ref m0, .int (pyf py (ixf f pa (f2 f (hA + 4)) 1))], M48)) rfl rfl rfl ?_
              refine rg_int (S' := (201, [(3, .int (f2 f (hA + 4))), (0, .ref m0), (2, .int s27_0)], [.int so, .int (pyf py (ixf f pa (f2 f (hA + 4)) 1))], M48)) rfl hR50 rfl ((f52 11 (by decide)).trans ((f18 11 (by decide)).trans (hk11))) rfl ?_
              refine ml_if2 (S1 := (217, [(0, .ref m0), (3, .int (f2 f (hA + 4)))], [], M48)) (S2 := (204, [(0, .ref m0)], [], M48)) rfl rfl rfl (fun c_201 => ?_) (fun c_201 => ?_)
              · have c_201 : (pyf py (ixf f pa (f2 f (hA + 4)) 1)) = so := of_decide_eq_true c_201
                exact J_217  (hB7)
              · have c_201 : ¬ ((pyf py (ixf f pa (f2 f (hA + 4)) 1)) = so) := of_decide_eq_false c_201
                refine ml_blk 3 (S' := (208, [(0, .ref m0)], [.ref m0, .int 17, .ref m0], M48)) rfl ?_
                refine rg_int (S' := (211, [(0, .ref m0)], [.int hA, .int 17, .ref m0], M48)) rfl hR50 rfl ((f52 54 (by decide)).trans ((f18 54 (by decide)).trans (hk54))) rfl ?_
                refine ml_blk 2 (S' := (213, [(0, .ref m0)], [.int (hA + 4), .int 17, .ref m0], M48)) rfl ?_
                refine ml_call (a := [.ref m0, .int 17, .int (hA + 4)]) (rest := []) rfl (hR50.okc rfl rfl rfl) rfl rfl (rm_wrong hR50 (by omega)) (fun v141 M142 h143 => ?_)
                obtain ⟨u149, I144, R145, rfl, hR146, hI147, hV148, z150, w151⟩ := h143
                show ml _ _ _ (216, [(0, .ref m0)], [.int u149], M142) _
                exact ml_ret rfl (r_z (z150)) (⟨_, _, _, rfl, hR146, (((eqI.rf.put f18 (by decide)).put f52 (by decide)).tr hI147 (by decide)), (eqR.rf.tr hV148 (by decide)), z150, Or.inl w151⟩)
        · have c_135 : ¬ (¬ u39 = 0) := of_decide_eq_false c_135
          refine ml_blk 3 (S' := (142, [(0, .ref m0), (2, .int s27_0)], [.ref m0, .int 16, .ref m0], M14)) rfl ?_
          refine rg_int (S' := (145, [(0, .ref m0), (2, .int s27_0)], [.int hA, .int 16, .ref m0], M14)) rfl hR16 rfl ((f18 54 (by decide)).trans (hk54)) rfl ?_
          refine ml_blk 2 (S' := (147, [(0, .ref m0), (2, .int s27_0)], [.int (hA + 2), .int 16, .ref m0], M14)) rfl ?_
          refine ml_call (a := [.ref m0, .int 16, .int (hA + 2)]) (rest := []) rfl (hR16.okc rfl rfl rfl) rfl rfl (rm_wrong hR16 (by omega)) (fun v152 M153 h154 => ?_)
          obtain ⟨u160, I155, R156, rfl, hR157, hI158, hV159, z161, w162⟩ := h154
          show ml _ _ _ (150, [(0, .ref m0), (2, .int s27_0)], [.int u160], M153) _
          exact ml_ret rfl (r_z (z161)) (⟨_, _, _, rfl, hR157, ((eqI.rf.put f18 (by decide)).tr hI158 (by decide)), (eqR.rf.tr hV159 (by decide)), z161, Or.inl w162⟩)
      refine ml_if (S1 := (59, [(2, .int s27_0), (0, .ref m0), (1, .int (f2 f hA))], [], M14)) (S2 := (40, [(2, .int s27_0), (0, .ref m0), (1, .int (f2 f hA))], [], M14)) rfl rfl rfl (fun c_37 => ?_) (fun c_37 => ?_)
      · have c_37 : s27_0 = 0 := of_decide_eq_true c_37
        refine ml_blk 3 (S' := (64, [(2, .int s27_0), (0, .ref m0), (1, .int (f2 f hA))], [.int ((f2 f hA) &&& 8192)], M14)) rfl ?_
        refine ml_if (S1 := (82, [(0, .ref m0), (1, .int (f2 f hA)), (2, .int s27_0)], [], M14)) (S2 := (67, [(2, .int s27_0), (0, .ref m0), (1, .int (f2 f hA))], [], M14)) rfl rfl rfl (fun c_64 => ?_) (fun c_64 => ?_)
        · have c_64 : ¬ ((f2 f hA) &&& 8192) = 0 := of_decide_eq_true c_64
          exact J_82 
        · have c_64 : ¬ (¬ ((f2 f hA) &&& 8192) = 0) := of_decide_eq_false c_64
          refine ml_blk 3 (S' := (71, [(2, .int s27_0), (0, .ref m0), (1, .int (f2 f hA))], [.int ((f2 f hA) &&& 16)], M14)) rfl ?_
          refine ml_if (S1 := (121, [(0, .ref m0), (2, .int s27_0)], [], M14)) (S2 := (74, [(2, .int s27_0), (0, .ref m0), (1, .int (f2 f hA))], [], M14)) rfl rfl rfl (fun c_71 => ?_) (fun c_71 => ?_)
          · have c_71 : ((f2 f hA) &&& 16) = 0 := of_decide_eq_true c_71
            exact J_121 
          · have c_71 : ¬ (((f2 f hA) &&& 16) = 0) := of_decide_eq_false c_71
            refine ml_blk 3 (S' := (79, [(2, .int s27_0), (0, .ref m0), (1, .int (f2 f hA))], [.int ((f2 f hA) &&& 1024)], M14)) rfl ?_
            refine ml_if (S1 := (121, [(0, .ref m0), (2, .int s27_0)], [], M14)) (S2 := (82, [(0, .ref m0), (1, .int (f2 f hA)), (2, .int s27_0)], [], M14)) rfl rfl rfl (fun c_79 => ?_) (fun c_79 => ?_)
            · have c_79 : ((f2 f hA) &&& 1024) = 0 := of_decide_eq_true c_79
              exact J_121 
            · have c_79 : ¬ (((f2 f hA) &&& 1024) = 0) := of_decide_eq_false c_79
              exact J_82 
      · have c_37 : ¬ (s27_0 = 0) := of_decide_eq_false c_37
        refine ml_blk 3 (S' := (45, [(2, .int s27_0), (0, .ref m0), (1, .int (f2 f hA))], [.int ((f2 f hA) &&& 1024)], M14)) rfl ?_
        refine ml_if (S1 := (82, [(0, .ref m0), (1, .int (f2 f hA)), (2, .int s27_0)], [], M14)) (S2 := (48, [(2, .int s27_0), (0, .ref m0), (1, .int (f2 f hA))], [], M14)) rfl rfl rfl (fun c_45 => ?_) (fun c_45 => ?_)
        · have c_45 : ((f2 f hA) &&& 1024) = 0 := of_decide_eq_true c_45
          exact J_82 
        · have c_45 : ¬ (((f2 f hA) &&& 1024) = 0) := of_decide_eq_false c_45
          refine ml_blk 3 (S' := (53, [(2, .int s27_0), (0, .ref m0), (1, .int (f2 f hA))], [.int ((f2 f hA) &&& 16432)], M14)) rfl ?_
          refine ml_if (S1 := (121, [(0, .ref m0), (2, .int s27_0)], [], M14)) (S2 := (56, [(2, .int s27_0), (0, .ref m0), (1, .int (f2 f hA))], [], M14)) rfl rfl rfl (fun c_53 => ?_) (fun c_53 => ?_)
          · have c_53 : ((f2 f hA) &&& 16432) = 0 := of_decide_eq_true c_53
            exact J_121 
          · have c_53 : ¬ (((f2 f hA) &&& 16432) = 0) := of_decide_eq_false c_53
            refine ml_st (S' := (82, [(0, .ref m0), (1, .int (f2 f hA)), (2, .int s27_0)], [], M14)) rfl rfl rfl ?_
            exact J_82 
  refine ml_if (S1 := (26, [(1, .int (f2 f hA)), (0, .ref m0)], [], M14)) (S2 := (22, [(1, .int (f2 f hA)), (0, .ref m0)], [], M14)) rfl rfl rfl (fun c_19 => ?_) (fun c_19 => ?_)
  · have c_19 : ((f2 f hA) &&& 512) = 0 := of_decide_eq_true c_19
    refine ml_st (S' := (27, [(0, .ref m0), (1, .int (f2 f hA))], [.int 0], M14)) rfl rfl rfl ?_
    exact J_27 0
  · have c_19 : ¬ (((f2 f hA) &&& 512) = 0) := of_decide_eq_false c_19
    refine ml_st (S' := (23, [(1, .int (f2 f hA)), (0, .ref m0)], [.int 1], M14)) rfl rfl rfl ?_
    refine ml_st (S' := (27, [(0, .ref m0), (1, .int (f2 f hA))], [.int 1], M14)) rfl rfl rfl ?_
    exact J_27 1
set_option maxHeartbeats 2000000 in
theorem rm_bootstraps {g : xe_G}  {m0 : Nat} {q : Nat → Nat} {z : Nat × Nat} {I : rI} {R : rR} {M : mi_H} {x1 x2 : Int32} {n : Nat} {f : Nat → Int32} {S : Nat} {cp mj : Int32} {pa py : Nat → Int32}  (hR : RS g m0 q z I R M) (hF : FK n f I R) (hP : PK n f S cp mj pa py I R) (h0 : 0 ≤ x1.toInt) (h1 : x1.toInt ≤ x2.toInt) (h2 : x2.toInt ≤ n) {d : Nat} (hd : 3 ≤ d) : mt (mT g) d 185 [.ref m0, .int x1, .int x2] M (fun v M' => ∃ (x : Int32) (I' : rI) (R' : rR), v = some (.int x) ∧ RS g m0 q z I' R' M' ∧ eqI [70, 71] I I' ∧ eqR [] R R' ∧ (x ≠ 0 ∧ I' = I ∨ x = 0 ∧ I' 70 = some x1 ∧ I' 71 = some (f2 f x1) ∧ BSW f n x1 (f2 f x1))) := by
  obtain ⟨d, rfl⟩ : ∃ e, d = e + 1 := ⟨d - 1, by omega⟩
  refine mt_in (b := mb_185 g) rfl rfl ?_
  show ml (mT g) d (mb_185 g).2 (0, [(0, .ref m0), (1, .int x1), (2, .int x2)], [], M) _
  have hn := hF.1
  refine ml_blk 3 (S' := (3, [(0, .ref m0), (1, .int x1), (2, .int x2)], [.int (x2 - x1)], M)) rfl ?_
  refine ml_st (S' := (4, [(0, .ref m0), (1, .int x1), (2, .int x2)], [.int 2, .int (x2 - x1)], M)) rfl rfl rfl ?_
  refine ml_if2 (S1 := (10, [(0, .ref m0), (1, .int x1), (2, .int x2)], [], M)) (S2 := (7, [(0, .ref m0), (1, .int x1), (2, .int x2)], [], M)) rfl rfl rfl (fun c_4 => ?_) (fun c_4 => ?_)
  · have c_4 : 2 ≤ (x2 - x1) := of_decide_eq_true c_4
    have hd2 := i_le c_4
    rw [i_sub (by omega) (by omega)] at hd2
    have i2_ : (2 : Int32).toInt = 2 := rfl
    have ex2 : (x1 + 2).toInt = x1.toInt + 2 := i_add (by have : (2 : Int32).toInt = 2 := rfl; omega) (by have : (2 : Int32).toInt = 2 := rfl; omega)
    have hc0 := f2_pos (f := f) (x := x1)
    have hc1 := f2_le (f := f) (x := x1)
    refine ml_blk 2 (S' := (12, [(0, .ref m0), (1, .int x1), (2, .int x2)], [.int x1, .ref m0], M)) rfl ?_
    refine ml_call (a := [.ref m0, .int x1]) (rest := []) rfl (hR.okc rfl rfl rfl) rfl rfl (rm_u2 hR hF (h0) (by omega) (by omega)) (fun v11 M12 h13 => ?_)
    obtain ⟨rfl, h13⟩ := h13
    rw [h13]
    show ml _ _ _ (15, [(0, .ref m0), (1, .int x1), (2, .int x2)], [.int (f2 f x1)], M) _
    refine ml_st (S' := (16, [(3, .int (f2 f x1)), (0, .ref m0), (1, .int x1), (2, .int x2)], [], M)) rfl rfl rfl ?_
    refine ml_blk 3 (S' := (19, [(3, .int (f2 f x1)), (0, .ref m0), (1, .int x1), (2, .int x2)], [.int (x1 + 2)], M)) rfl ?_
    refine ml_st (S' := (21, [(4, .int (x1 + 2)), (3, .int (f2 f x1)), (0, .ref m0), (1, .int x1), (2, .int x2)], [], M)) rfl rfl rfl ?_
    refine ml_st (S' := (22, [(4, .int (x1 + 2)), (3, .int (f2 f x1)), (0, .ref m0), (1, .int x1), (2, .int x2)], [.int 0], M)) rfl rfl rfl ?_
    refine ml_st (S' := (24, [(0, .ref m0), (1, .int x1), (2, .int x2), (3, .int (f2 f x1)), (4, .int (x1 + 2)), (5, .int 0)], [], M)) rfl rfl rfl ?_
    have L_24 : ∀ (n_24 : Nat) (i24_4 : Int32) (i24_5 : Int32), (2147483648 - i24_5.toInt).toNat ≤ n_24 → (x1.toInt + 2 ≤ i24_4.toInt ∧ i24_4.toInt ≤ x2.toInt ∧ 0 ≤ i24_5.toInt ∧ i24_5.toInt ≤ (f2 f x1).toInt ∧ itr (BS1 f n) i24_5.toInt.toNat (x1 + 2) i24_4) → ml (mT g) d (mb_185 g).2 (24, [(0, .ref m0), (1, .int x1), (2, .int x2), (3, .int (f2 f x1)), (4, .int i24_4), (5, .int i24_5)], [], M) (fun v M' => ∃ (x : Int32) (I' : rI) (R' : rR), v = some (.int x) ∧ RS g m0 q z I' R' M' ∧ eqI [70, 71] I I' ∧ eqR [] R R' ∧ (x ≠ 0 ∧ I' = I ∨ x = 0 ∧ I' 70 = some x1 ∧ I' 71 = some (f2 f x1) ∧ BSW f n x1 (f2 f x1))) := by
      intro n_24
      induction n_24 with
      | zero => intro i24_4 i24_5 hn; exact (loop_zero hn).elim
      | succ n_24 ih_24 =>
        intro i24_4 i24_5 hn_24 hi_24
        obtain ⟨hp0, hp1, hk0, hk1, hit⟩ := hi_24
        refine ml_blk 2 (S' := (27, [(0, .ref m0), (1, .int x1), (2, .int x2), (3, .int (f2 f x1)), (4, .int i24_4), (5, .int i24_5)], [.int (f2 f x1), .int i24_5], M)) rfl ?_
        refine ml_if2 (S1 := (83, [(0, .ref m0), (1, .int x1), (2, .int x2), (3, .int (f2 f x1)), (4, .int i24_4), (5, .int i24_5)], [], M)) (S2 := (30, [(0, .ref m0), (1, .int x1), (2, .int x2), (3, .int (f2 f x1)), (4, .int i24_4), (5, .int i24_5)], [], M)) rfl rfl rfl (fun c_27 => ?_) (fun c_27 => ?_)
        · have c_27 : (f2 f x1) ≤ i24_5 := of_decide_eq_true c_27
          refine ml_blk 2 (S' := (86, [(0, .ref m0), (1, .int x1), (2, .int x2), (3, .int (f2 f x1)), (4, .int i24_4), (5, .int i24_5)], [.int x2, .int i24_4], M)) rfl ?_
          refine ml_if2 (S1 := (92, [(0, .ref m0), (1, .int x1), (2, .int x2), (3, .int (f2 f x1)), (4, .int i24_4), (5, .int i24_5)], [], M)) (S2 := (89, [(0, .ref m0), (1, .int x1), (2, .int x2), (3, .int (f2 f x1)), (4, .int i24_4), (5, .int i24_5)], [], M)) rfl rfl rfl (fun c_86 => ?_) (fun c_86 => ?_)
          · have c_86 : i24_4 = x2 := of_decide_eq_true c_86
            have hend : i24_4 = x2 := c_86
            have hit2 := itr_end hit hk1 c_27
            have hw : BSW f n x1 (f2 f x1) := ⟨h0, by omega, _, hit2, by omega⟩
            refine ml_blk 3 (S' := (95, [(0, .ref m0), (1, .int x1), (2, .int x2), (3, .int (f2 f x1)), (4, .int i24_4), (5, .int i24_5)], [.int (x1 + 2)], M)) rfl ?_
            refine ml_st (S' := (97, [(4, .int (x1 + 2)), (0, .ref m0), (1, .int x1), (2, .int x2), (3, .int (f2 f x1)), (5, .int i24_5)], [], M)) rfl rfl rfl ?_
            refine ml_st (S' := (98, [(4, .int (x1 + 2)), (0, .ref m0), (1, .int x1), (2, .int x2), (3, .int (f2 f x1)), (5, .int i24_5)], [.int 0], M)) rfl rfl rfl ?_
            refine ml_st (S' := (100, [(0, .ref m0), (1, .int x1), (3, .int (f2 f x1)), (4, .int (x1 + 2)), (5, .int 0)], [], M)) rfl rfl rfl ?_
            have L_100 : ∀ (n_100 : Nat) (i100_4 : Int32) (i100_5 : Int32), (2147483648 - i100_5.toInt).toNat ≤ n_100 → (0 ≤ i100_5.toInt ∧ itr (BS1 f n) ((f2 f x1).toInt - i100_5.toInt).toNat i100_4 i24_4) → ml (mT g) d (mb_185 g).2 (100, [(0, .ref m0), (1, .int x1), (3, .int (f2 f x1)), (4, .int i100_4), (5, .int i100_5)], [], M) (fun v M' => ∃ (x : Int32) (I' : rI) (R' : rR), v = some (.int x) ∧ RS g m0 q z I' R' M' ∧ eqI [70, 71] I I' ∧ eqR [] R R' ∧ (x ≠ 0 ∧ I' = I ∨ x = 0 ∧ I' 70 = some x1 ∧ I' 71 = some (f2 f x1) ∧ BSW f n x1 (f2 f x1))) := by
              intro n_100
              induction n_100 with
              | zero => intro i100_4 i100_5 hn; exact (loop_zero hn).elim
              | succ n_100 ih_100 =>
                intro i100_4 i100_5 hn_100 hi_100
                obtain ⟨hk0b, hitb⟩ := hi_100
                refine ml_blk 2 (S' := (103, [(0, .ref m0), (1, .int x1), (3, .int (f2 f x1)), (4, .int i100_4), (5, .int i100_5)], [.int (f2 f x1), .int i100_5], M)) rfl ?_
                refine ml_if2 (S1 := (218, [(0, .ref m0), (1, .int x1), (3, .int (f2 f x1)), (4, .int i100_4), (5, .int i100_5)], [], M)) (S2 := (106, [(0, .ref m0), (1, .int x1), (3, .int (f2 f x1)), (4, .int i100_4), (5, .int i100_5)], [], M)) rfl rfl rfl (fun c_103 => ?_) (fun c_103 => ?_)
                · have c_103 : (f2 f x1) ≤ i100_5 := of_decide_eq_true c_103
                  refine ml_blk 2 (S' := (220, [(0, .ref m0), (1, .int x1), (3, .int (f2 f x1)), (4, .int i100_4), (5, .int i100_5)], [.int x1, .ref m0], M)) rfl ?_
                  refine rp_int rfl hR rfl (fun M14 I15 hR16 e17 f18 => ?_)
                  show ml _ _ _ (223, [(0, .ref m0), (1, .int x1), (3, .int (f2 f x1)), (4, .int i100_4), (5, .int i100_5)], [], M14) _
                  refine ml_blk 2 (S' := (225, [(0, .ref m0), (1, .int x1), (3, .int (f2 f x1)), (4, .int i100_4), (5, .int i100_5)], [.int (f2 f x1), .ref m0], M14)) rfl ?_
                  refine rp_int rfl hR16 rfl (fun M19 I20 hR21 e22 f23 => ?_)
                  show ml _ _ _ (228, [(0, .ref m0), (1, .int x1), (3, .int (f2 f x1)), (4, .int i100_4), (5, .int i100_5)], [], M19) _
                  refine ml_st (S' := (229, [(0, .ref m0), (1, .int x1), (3, .int (f2 f x1)), (4, .int i100_4), (5, .int i100_5)], [.int 0], M19)) rfl rfl rfl ?_
                  exact ml_ret rfl (rfl) (⟨_, _, _, rfl, hR21, ((eqI.rf.put f18 (by decide)).put f23 (by decide)), eqR.rf, Or.inr ⟨rfl, (f23 70 (by decide)).trans (e17), e22, hw⟩⟩)
                · have c_103 : ¬ ((f2 f x1) ≤ i100_5) := of_decide_eq_false c_103
                  obtain ⟨b1, hb1, hnx⟩ := itr_next hitb c_103
                  have hb2 := hb1
                  obtain ⟨g0, g1, g2, g3⟩ := hb2
                  have eq2 : (i100_4 + 2).toInt = i100_4.toInt + 2 := i_add (by have : (2 : Int32).toInt = 2 := rfl; omega) (by have : (2 : Int32).toInt = 2 := rfl; omega)
                  have hbs2 := bs_of (f := f) hn g0 g1
                  have hm0 := f2_pos (f := f) (x := i100_4 + 2)
                  have hm1 := f2_le (f := f) (x := i100_4 + 2)
                  refine ml_blk 3 (S' := (110, [(0, .ref m0), (1, .int x1), (3, .int (f2 f x1)), (4, .int i100_4), (5, .int i100_5)], [.int i100_4, .ref m0, .ref m0], M)) rfl ?_
                  refine ml_call (a := [.ref m0, .int i100_4]) (rest := [.ref m0]) rfl (hR.okc rfl rfl rfl) rfl rfl (rm_u2 hR hF (g0) (by omega) (by omega)) (fun v24 M25 h26 => ?_)
                  obtain ⟨rfl, h26⟩ := h26
                  rw [h26]
                  show ml _ _ _ (113, [(0, .ref m0), (1, .int x1), (3, .int (f2 f x1)), (4, .int i100_4), (5, .int i100_5)], [.int (f2 f i100_4), .ref m0], M) _
                  refine ml_call (a := [.ref m0, .int (f2 f i100_4)]) (rest := []) rfl (hR.okc rfl rfl rfl) rfl rfl (rm_tag hR hF hP (by omega)) (fun v27 M28 h29 => ?_)
                  obtain ⟨rfl, h29⟩ := h29
                  rw [h29]
                  show ml _ _ _ (116, [(0, .ref m0), (1, .int x1), (3, .int (f2 f x1)), (4, .int i100_4), (5, .int i100_5)], [.int (tgf f cp pa (f2 f i100_4))], M) _
                  refine ml_st (S' := (118, [(0, .ref m0), (1, .int x1), (3, .int (f2 f x1)), (4, .int i100_4), (5, .int i100_5)], [.int 15, .int (tgf f cp pa (f2 f i100_4))], M)) rfl rfl rfl ?_
                  refine ml_if2 (S1 := (124, [(0, .ref m0), (1, .int x1), (3, .int (f2 f x1)), (4, .int i100_4), (5, .int i100_5)], [], M)) (S2 := (121, [(0, .ref m0), (1, .int x1), (3, .int (f2 f x1)), (4, .int i100_4), (5, .int i100_5)], [], M)) rfl rfl rfl (fun c_118 => ?_) (fun c_118 => ?_)
                  · have c_118 : (tgf f cp pa (f2 f i100_4)) = 15 := of_decide_eq_true c_118
                    refine ml_st (S' := (125, [(0, .ref m0), (1, .int x1), (3, .int (f2 f x1)), (4, .int i100_4), (5, .int i100_5)], [.int 0], M)) rfl rfl rfl ?_
                    refine ml_st (S' := (127, [(0, .ref m0), (1, .int x1), (3, .int (f2 f x1)), (4, .int i100_4), (5, .int i100_5), (6, .int 0)], [], M)) rfl rfl rfl ?_
                    have L_127 : ∀ (n_127 : Nat) (i127_6 : Int32), (2147483648 - i127_6.toInt).toNat ≤ n_127 → 0 ≤ i127_6.toInt → ml (mT g) d (mb_185 g).2 (127, [(0, .ref m0), (1, .int x1), (3, .int (f2 f x1)), (4, .int i100_4), (5, .int i100_5), (6, .int i127_6)], [], M) (fun v M' => ∃ (x : Int32) (I' : rI) (R' : rR), v = some (.int x) ∧ RS g m0 q z I' R' M' ∧ eqI [70, 71] I I' ∧ eqR [] R R' ∧ (x ≠ 0 ∧ I' = I ∨ x = 0 ∧ I' 70 = some x1 ∧ I' 71 = some (f2 f x1) ∧ BSW f n x1 (f2 f x1))) := by
                      intro n_127
                      induction n_127 with
                      | zero => intro i127_6 hn; exact (loop_zero hn).elim
                      | succ n_127 ih_127 =>
                        intro i127_6 hn_127 hi_127
                        refine ml_blk 3 (S' := (132, [(0, .ref m0), (1, .int x1), (3, .int (f2 f x1)), (4, .int i100_4), (5, .int i100_5), (6, .int i127_6)], [.int i100_4, .ref m0, .int i127_6], M)) rfl ?_
                        refine ml_blk 2 (S' := (134, [(0, .ref m0), (1, .int x1), (3, .int (f2 f x1)), (4, .int i100_4), (5, .int i100_5), (6, .int i127_6)], [.int (i100_4 + 2), .ref m0, .int i127_6], M)) rfl ?_
                        refine ml_call (a := [.ref m0, .int (i100_4 + 2)]) (rest := [.int i127_6]) rfl (hR.okc rfl rfl rfl) rfl rfl (rm_u2 hR hF (by omega) (by omega) (by omega)) (fun v30 M31 h32 => ?_)
                        obtain ⟨rfl, h32⟩ := h32
                        rw [h32]
                        show ml _ _ _ (137, [(0, .ref m0), (1, .int x1), (3, .int (f2 f x1)), (4, .int i100_4), (5, .int i100_5), (6, .int i127_6)], [.int (f2 f (i100_4 + 2)), .int i127_6], M) _
                        refine ml_if2 (S1 := (195, [(0, .ref m0), (1, .int x1), (3, .int (f2 f x1)), (4, .int i100_4), (5, .int i100_5), (6, .int i127_6)], [], M)) (S2 := (140, [(0, .ref m0), (1, .int x1), (3, .int (f2 f x1)), (4, .int i100_4), (5, .int i100_5), (6, .int i127_6)], [], M)) rfl rfl rfl (fun c_137 => ?_) (fun c_137 => ?_)
                        · have c_137 : (f2 f (i100_4 + 2)) ≤ i127_6 := of_decide_eq_true c_137
                          refine ml_blk 3 (S' := (199, [(0, .ref m0), (1, .int x1), (3, .int (f2 f x1)), (4, .int i100_4), (5, .int i100_5), (6, .int i127_6)], [.int 2, .int 4, .int i100_4], M)) rfl ?_
                          refine ml_blk 3 (S' := (203, [(0, .ref m0), (1, .int x1), (3, .int (f2 f x1)), (4, .int i100_4), (5, .int i100_5), (6, .int i127_6)], [.int 2, .int i100_4, .ref m0, .int 2, .int 4, .int i100_4], M)) rfl ?_
                          refine ml_st (S' := (204, [(0, .ref m0), (1, .int x1), (3, .int (f2 f x1)), (4, .int i100_4), (5, .int i100_5), (6, .int i127_6)], [.int (i100_4 + 2), .ref m0, .int 2, .int 4, .int i100_4], M)) rfl rfl rfl ?_
                          refine ml_call (a := [.ref m0, .int (i100_4 + 2)]) (rest := [.int 2, .int 4, .int i100_4]) rfl (hR.okc rfl rfl rfl) rfl rfl (rm_u2 hR hF (by omega) (by omega) (by omega)) (fun v33 M34 h35 => ?_)
                          obtain ⟨rfl, h35⟩ := h35
                          rw [h35]
                          show ml _ _ _ (207, [(0, .ref m0), (1, .int x1), (3, .int (f2 f x1)), (4, .int i100_4), (5, .int i100_5), (6, .int i127_6)], [.int (f2 f (i100_4 + 2)), .int 2, .int 4, .int i100_4], M) _
                          refine ml_blk 3 (S' := (210, [(0, .ref m0), (1, .int x1), (3, .int (f2 f x1)), (4, .int i100_4), (5, .int i100_5), (6, .int i127_6)], [.int (i100_4 + (4 + (2 * (f2 f (i100_4 + 2)))))], M)) rfl ?_
                          refine ml_st (S' := (212, [(4, .int (i100_4 + (4 + (2 * (f2 f (i100_4 + 2)))))), (0, .ref m0), (1, .int x1), (3, .int (f2 f x1)), (5, .int i100_5), (6, .int i127_6)], [], M)) rfl rfl rfl ?_
                          refine ml_st (S' := (215, [(5, .int (i100_5 + 1)), (4, .int (i100_4 + (4 + (2 * (f2 f (i100_4 + 2)))))), (0, .ref m0), (1, .int x1), (3, .int (f2 f x1)), (6, .int i127_6)], [], M)) rfl rfl rfl ?_
                          refine ml_st (S' := (100, [(0, .ref m0), (1, .int x1), (3, .int (f2 f x1)), (4, .int (i100_4 + (4 + (2 * (f2 f (i100_4 + 2)))))), (5, .int (i100_5 + 1))], [], M)) rfl rfl rfl ?_
                          exact ih_100 (i100_4 + (4 + (2 * (f2 f (i100_4 + 2))))) (i100_5 + 1) (loop_inc (Int32.not_le.mp c_103) hn_100) (⟨by rw [inc_lt (Int32.not_le.mp c_103)]; omega, hb1.eq hbs2.1 ▸ hnx⟩)
                        · have c_137 : ¬ ((f2 f (i100_4 + 2)) ≤ i127_6) := of_decide_eq_false c_137
                          have hjl := i_nle c_137
                          have e4j : (i100_4 + 4 + 2 * i127_6).toInt = i100_4.toInt + 4 + 2 * i127_6.toInt := by have d4 : (i100_4 + 4).toInt = i100_4.toInt + 4 := (by rw [i_add (by have : (4 : Int32).toInt = 4 := rfl; omega) (by have : (4 : Int32).toInt = 4 := rfl; omega)]; rfl); rw [i_add (by rw [two_k hi_127 (by omega)]; omega) (by rw [two_k hi_127 (by omega)]; omega), two_k hi_127 (by omega), d4]
                          refine ml_blk 3 (S' := (144, [(0, .ref m0), (1, .int x1), (3, .int (f2 f x1)), (4, .int i100_4), (5, .int i100_5), (6, .int i127_6)], [.int i100_4, .ref m0, .ref m0], M)) rfl ?_
                          refine ml_blk 3 (S' := (147, [(0, .ref m0), (1, .int x1), (3, .int (f2 f x1)), (4, .int i100_4), (5, .int i100_5), (6, .int i127_6)], [.int 2, .int (i100_4 + 4), .ref m0, .ref m0], M)) rfl ?_
                          refine ml_blk 3 (S' := (151, [(0, .ref m0), (1, .int x1), (3, .int (f2 f x1)), (4, .int i100_4), (5, .int i100_5), (6, .int i127_6)], [.int ((i100_4 + 4) + (2 * i127_6)), .ref m0, .ref m0], M)) rfl ?_
                          refine ml_call (a := [.ref m0, .int ((i100_4 + 4) + (2 * i127_6))]) (rest := [.ref m0]) rfl (hR.okc rfl rfl rfl) rfl rfl (rm_u2 hR hF (by omega) (by omega) (by omega)) (fun v36 M37 h38 => ?_)
                          obtain ⟨rfl, h38⟩ := h38
                          rw [h38]
                          show ml _ _ _ (154, [(0, .ref m0), (1, .int x1), (3, .int (f2 f x1)), (4, .int i100_4), (5, .int i100_5), (6, .int i127_6)], [.int (f2 f ((i100_4 + 4) + (2 * i127_6))), .ref m0], M) _
                          refine ml_call (a := [.ref m0, .int (f2 f ((i100_4 + 4) + (2 * i127_6)))]) (rest := []) rfl (hR.okc rfl rfl rfl) rfl rfl (rm_tag hR hF hP (by omega)) (fun v39 M40 h41 => ?_)
                          obtain ⟨rfl, h41⟩ := h41
                          rw [h41]
                          show ml _ _ _ (157, [(0, .ref m0), (1, .int x1), (3, .int (f2 f x1)), (4, .int i100_4), (5, .int i100_5), (6, .int i127_6)], [.int (tgf f cp pa (f2 f ((i100_4 + 4) + (2 * i127_6))))], M) _
                          refine ml_st (S' := (159, [(7, .int (tgf f cp pa (f2 f ((i100_4 + 4) + (2 * i127_6))))), (0, .ref m0), (1, .int x1), (3, .int (f2 f x1)), (4, .int i100_4), (5, .int i100_5), (6, .int i127_6)], [], M)) rfl rfl rfl ?_
                          refine ml_blk 2 (S' := (162, [(7, .int (tgf f cp pa (f2 f ((i100_4 + 4) + (2 * i127_6))))), (0, .ref m0), (1, .int x1), (3, .int (f2 f x1)), (4, .int i100_4), (5, .int i100_5), (6, .int i127_6)], [.int 3, .int (tgf f cp pa (f2 f ((i100_4 + 4) + (2 * i127_6))))], M)) rfl ?_
                          refine ml_if2 (S1 := (172, [(0, .ref m0), (1, .int x1), (3, .int (f2 f x1)), (4, .int i100_4), (5, .int i100_5), (6, .int i127_6), (7, .int (tgf f cp pa (f2 f ((i100_4 + 4) + (2 * i127_6)))))], [], M)) (S2 := (165, [(7, .int (tgf f cp pa (f2 f ((i100_4 + 4) + (2 * i127_6))))), (0, .ref m0), (1, .int x1), (3, .int (f2 f x1)), (4, .int i100_4), (5, .int i100_5), (6, .int i127_6)], [], M)) rfl rfl rfl (fun c_162 => ?_) (fun c_162 => ?_)
                          · have c_162 : (tgf f cp pa (f2 f ((i100_4 + 4) + (2 * i127_6)))) < 3 := of_decide_eq_true c_162
                            refine ml_blk 2 (S' := (176, [(0, .ref m0), (1, .int x1), (3, .int (f2 f x1)), (4, .int i100_4), (5, .int i100_5), (6, .int i127_6), (7, .int (tgf f cp pa (f2 f ((i100_4 + 4) + (2 * i127_6)))))], [.int 15, .int (tgf f cp pa (f2 f ((i100_4 + 4) + (2 * i127_6))))], M)) rfl ?_
                            refine ml_if2 (S1 := (186, [], [], M)) (S2 := (179, [(0, .ref m0), (1, .int x1), (3, .int (f2 f x1)), (4, .int i100_4), (5, .int i100_5), (6, .int i127_6), (7, .int (tgf f cp pa (f2 f ((i100_4 + 4) + (2 * i127_6)))))], [], M)) rfl rfl rfl (fun c_176 => ?_) (fun c_176 => ?_)
                            · have c_176 : (tgf f cp pa (f2 f ((i100_4 + 4) + (2 * i127_6)))) < 15 := of_decide_eq_true c_176
                              refine ml_st (S' := (188, [], [.int 38], M)) rfl rfl rfl ?_
                              exact ml_ret rfl (rfl) (⟨_, _, _, rfl, hR, eqI.rf, eqR.rf, Or.inl ⟨by decide, rfl⟩⟩)
                            · have c_176 : ¬ ((tgf f cp pa (f2 f ((i100_4 + 4) + (2 * i127_6)))) < 15) := of_decide_eq_false c_176
                              refine ml_blk 2 (S' := (183, [(0, .ref m0), (1, .int x1), (3, .int (f2 f x1)), (4, .int i100_4), (5, .int i100_5), (6, .int i127_6), (7, .int (tgf f cp pa (f2 f ((i100_4 + 4) + (2 * i127_6)))))], [.int 17, .int (tgf f cp pa (f2 f ((i100_4 + 4) + (2 * i127_6))))], M)) rfl ?_
                              refine ml_if2 (S1 := (189, [(0, .ref m0), (1, .int x1), (3, .int (f2 f x1)), (4, .int i100_4), (5, .int i100_5), (6, .int i127_6)], [], M)) (S2 := (186, [], [], M)) rfl rfl rfl (fun c_183 => ?_) (fun c_183 => ?_)
                              · have c_183 : (tgf f cp pa (f2 f ((i100_4 + 4) + (2 * i127_6)))) ≤ 17 := of_decide_eq_true c_183
                                refine ml_st (S' := (192, [(6, .int (i127_6 + 1)), (0, .ref m0), (1, .int x1), (3, .int (f2 f x1)), (4, .int i100_4), (5, .int i100_5)], [], M)) rfl rfl rfl ?_
                                refine ml_st (S' := (127, [(0, .ref m0), (1, .int x1), (3, .int (f2 f x1)), (4, .int i100_4), (5, .int i100_5), (6, .int (i127_6 + 1))], [], M)) rfl rfl rfl ?_
                                exact ih_127 (i127_6 + 1) (loop_inc (Int32.not_le.mp c_137) hn_127) (by rw [inc_lt (Int32.not_le.mp c_137)]; omega)
                              · have c_183 : ¬ ((tgf f cp pa (f2 f ((i100_4 + 4) + (2 * i127_6)))) ≤ 17) := of_decide_eq_false c_183
                                refine ml_st (S' := (188, [], [.int 38], M)) rfl rfl rfl ?_
                                exact ml_ret rfl (rfl) (⟨_, _, _, rfl, hR, eqI.rf, eqR.rf, Or.inl ⟨by decide, rfl⟩⟩)
                          · have c_162 : ¬ ((tgf f cp pa (f2 f ((i100_4 + 4) + (2 * i127_6)))) < 3) := of_decide_eq_false c_162
                            refine ml_blk 2 (S' := (169, [(7, .int (tgf f cp pa (f2 f ((i100_4 + 4) + (2 * i127_6))))), (0, .ref m0), (1, .int x1), (3, .int (f2 f x1)), (4, .int i100_4), (5, .int i100_5), (6, .int i127_6)], [.int 8, .int (tgf f cp pa (f2 f ((i100_4 + 4) + (2 * i127_6))))], M)) rfl ?_
                            refine ml_if2 (S1 := (189, [(0, .ref m0), (1, .int x1), (3, .int (f2 f x1)), (4, .int i100_4), (5, .int i100_5), (6, .int i127_6)], [], M)) (S2 := (172, [(0, .ref m0), (1, .int x1), (3, .int (f2 f x1)), (4, .int i100_4), (5, .int i100_5), (6, .int i127_6), (7, .int (tgf f cp pa (f2 f ((i100_4 + 4) + (2 * i127_6)))))], [], M)) rfl rfl rfl (fun c_169 => ?_) (fun c_169 => ?_)
                            · have c_169 : (tgf f cp pa (f2 f ((i100_4 + 4) + (2 * i127_6)))) ≤ 8 := of_decide_eq_true c_169
                              refine ml_st (S' := (192, [(6, .int (i127_6 + 1)), (0, .ref m0), (1, .int x1), (3, .int (f2 f x1)), (4, .int i100_4), (5, .int i100_5)], [], M)) rfl rfl rfl ?_
                              refine ml_st (S' := (127, [(0, .ref m0), (1, .int x1), (3, .int (f2 f x1)), (4, .int i100_4), (5, .int i100_5), (6, .int (i127_6 + 1))], [], M)) rfl rfl rfl ?_
                              exact ih_127 (i127_6 + 1) (loop_inc (Int32.not_le.mp c_137) hn_127) (by rw [inc_lt (Int32.not_le.mp c_137)]; omega)
                            · have c_169 : ¬ ((tgf f cp pa (f2 f ((i100_4 + 4) + (2 * i127_6)))) ≤ 8) := of_decide_eq_false c_169
                              refine ml_blk 2 (S' := (176, [(0, .ref m0), (1, .int x1), (3, .int (f2 f x1)), (4, .int i100_4), (5, .int i100_5), (6, .int i127_6), (7, .int (tgf f cp pa (f2 f ((i100_4 + 4) + (2 * i127_6)))))], [.int 15, .int (tgf f cp pa (f2 f ((i100_4 + 4) + (2 * i127_6))))], M)) rfl ?_
                              refine ml_if2 (S1 := (186, [], [], M)) (S2 := (179, [(0, .ref m0), (1, .int x1), (3, .int (f2 f x1)), (4, .int i100_4), (5, .int i100_5), (6, .int i127_6), (7, .int (tgf f cp pa (f2 f ((i100_4 + 4) + (2 * i127_6)))))], [], M)) rfl rfl rfl (fun c_176 => ?_) (fun c_176 => ?_)
                              · have c_176 : (tgf f cp pa (f2 f ((i100_4 + 4) + (2 * i127_6)))) < 15 := of_decide_eq_true c_176
                                refine ml_st (S' := (188, [], [.int 38], M)) rfl rfl rfl ?_
                                exact ml_ret rfl (rfl) (⟨_, _, _, rfl, hR, eqI.rf, eqR.rf, Or.inl ⟨by decide, rfl⟩⟩)
                              · have c_176 : ¬ ((tgf f cp pa (f2 f ((i100_4 + 4) + (2 * i127_6)))) < 15) := of_decide_eq_false c_176
                                refine ml_blk 2 (S' := (183, [(0, .ref m0), (1, .int x1), (3, .int (f2 f x1)), (4, .int i100_4), (5, .int i100_5), (6, .int i127_6), (7, .int (tgf f cp pa (f2 f ((i100_4 + 4) + (2 * i127_6)))))], [.int 17, .int (tgf f cp pa (f2 f ((i100_4 + 4) + (2 * i127_6))))], M)) rfl ?_
                                refine ml_if2 (S1 := (189, [(0, .ref m0), (1, .int x1), (3, .int (f2 f x1)), (4, .int i100_4), (5, .int i100_5), (6, .int i127_6)], [], M)) (S2 := (186, [], [], M)) rfl rfl rfl (fun c_183 => ?_) (fun c_183 => ?_)
                                · have c_183 : (tgf f cp pa (f2 f ((i100_4 + 4) + (2 * i127_6)))) ≤ 17 := of_decide_eq_true c_183
                                  refine ml_st (S' := (192, [(6, .int (i127_6 + 1)), (0, .ref m0), (1, .int x1), (3, .int (f2 f x1)), (4, .int i100_4), (5, .int i100_5)], [], M)) rfl rfl rfl ?_
                                  refine ml_st (S' := (127, [(0, .ref m0), (1, .int x1), (3, .int (f2 f x1)), (4, .int i100_4), (5, .int i100_5), (6, .int (i127_6 + 1))], [], M)) rfl rfl rfl ?_
                                  exact ih_127 (i127_6 + 1) (loop_inc (Int32.not_le.mp c_137) hn_127) (by rw [inc_lt (Int32.not_le.mp c_137)]; omega)
                                · have c_183 : ¬ ((tgf f cp pa (f2 f ((i100_4 + 4) + (2 * i127_6)))) ≤ 17) := of_decide_eq_false c_183
                                  refine ml_st (S' := (188, [], [.int 38], M)) rfl rfl rfl ?_
                                  exact ml_ret rfl (rfl) (⟨_, _, _, rfl, hR, eqI.rf, eqR.rf, Or.inl ⟨by decide, rfl⟩⟩)
                    exact L_127 _ 0 (Nat.le_refl _) (by decide)
                  · have c_118 : ¬ ((tgf f cp pa (f2 f i100_4)) = 15) := of_decide_eq_false c_118
                    refine ml_st (S' := (123, [(0, .ref m0), (1, .int x1), (3, .int (f2 f x1)), (4, .int i100_4), (5, .int i100_5)], [.int 38], M)) rfl rfl rfl ?_
                    exact ml_ret rfl (rfl) (⟨_, _, _, rfl, hR, eqI.rf, eqR.rf, Or.inl ⟨by decide, rfl⟩⟩)
            exact L_100 _ (x1 + 2) 0 (Nat.le_refl _) (⟨by decide, by rw [show ((f2 f x1).toInt - (0 : Int32).toInt).toNat = (f2 f x1).toInt.toNat by have : (0 : Int32).toInt = 0 := rfl; omega]; exact hit2⟩)
          · have c_86 : ¬ (i24_4 = x2) := of_decide_eq_false c_86
            refine ml_st (S' := (91, [(0, .ref m0), (1, .int x1), (2, .int x2), (3, .int (f2 f x1)), (4, .int i24_4), (5, .int i24_5)], [.int 30], M)) rfl rfl rfl ?_
            exact ml_ret rfl (rfl) (⟨_, _, _, rfl, hR, eqI.rf, eqR.rf, Or.inl ⟨by decide, rfl⟩⟩)
        · have c_27 : ¬ ((f2 f x1) ≤ i24_5) := of_decide_eq_false c_27
          refine ml_blk 3 (S' := (34, [(0, .ref m0), (1, .int x1), (2, .int x2), (3, .int (f2 f x1)), (4, .int i24_4), (5, .int i24_5)], [.int (i24_4 + 4)], M)) rfl ?_
          refine ml_st (S' := (35, [(0, .ref m0), (1, .int x1), (2, .int x2), (3, .int (f2 f x1)), (4, .int i24_4), (5, .int i24_5)], [.int x2, .int (i24_4 + 4)], M)) rfl rfl rfl ?_
          refine ml_if2 (S1 := (57, [], [], M)) (S2 := (38, [(0, .ref m0), (1, .int x1), (2, .int x2), (3, .int (f2 f x1)), (4, .int i24_4), (5, .int i24_5)], [], M)) rfl rfl rfl (fun c_35 => ?_) (fun c_35 => ?_)
          · have c_35 : x2 < (i24_4 + 4) := of_decide_eq_true c_35
            refine ml_st (S' := (59, [], [.int 30], M)) rfl rfl rfl ?_
            exact ml_ret rfl (rfl) (⟨_, _, _, rfl, hR, eqI.rf, eqR.rf, Or.inl ⟨by decide, rfl⟩⟩)
          · have c_35 : ¬ (x2 < (i24_4 + 4)) := of_decide_eq_false c_35
            have hq4 := i_nlt c_35
            rw [i_add (by have : (4 : Int32).toInt = 4 := rfl; omega) (by have : (4 : Int32).toInt = 4 := rfl; omega)] at hq4
            have i4_ : (4 : Int32).toInt = 4 := rfl
            have ep2 : (i24_4 + 2).toInt = i24_4.toInt + 2 := i_add (by have : (2 : Int32).toInt = 2 := rfl; omega) (by have : (2 : Int32).toInt = 2 := rfl; omega)
            have hbs := bs_of (f := f) hn (by omega : 0 ≤ i24_4.toInt) (by omega)
            refine ml_blk 3 (S' := (42, [(0, .ref m0), (1, .int x1), (2, .int x2), (3, .int (f2 f x1)), (4, .int i24_4), (5, .int i24_5)], [.int (i24_4 + 4)], M)) rfl ?_
            refine ml_blk 3 (S' := (46, [(0, .ref m0), (1, .int x1), (2, .int x2), (3, .int (f2 f x1)), (4, .int i24_4), (5, .int i24_5)], [.int i24_4, .ref m0, .int 2, .int (i24_4 + 4)], M)) rfl ?_
            refine ml_blk 2 (S' := (48, [(0, .ref m0), (1, .int x1), (2, .int x2), (3, .int (f2 f x1)), (4, .int i24_4), (5, .int i24_5)], [.int (i24_4 + 2), .ref m0, .int 2, .int (i24_4 + 4)], M)) rfl ?_
            refine ml_call (a := [.ref m0, .int (i24_4 + 2)]) (rest := [.int 2, .int (i24_4 + 4)]) rfl (hR.okc rfl rfl rfl) rfl rfl (rm_u2 hR hF (by omega) (by omega) (by omega)) (fun v42 M43 h44 => ?_)
            obtain ⟨rfl, h44⟩ := h44
            rw [h44]
            show ml _ _ _ (51, [(0, .ref m0), (1, .int x1), (2, .int x2), (3, .int (f2 f x1)), (4, .int i24_4), (5, .int i24_5)], [.int (f2 f (i24_4 + 2)), .int 2, .int (i24_4 + 4)], M) _
            refine ml_blk 3 (S' := (54, [(0, .ref m0), (1, .int x1), (2, .int x2), (3, .int (f2 f x1)), (4, .int i24_4), (5, .int i24_5)], [.int x2, .int ((i24_4 + 4) + (2 * (f2 f (i24_4 + 2))))], M)) rfl ?_
            refine ml_if2 (S1 := (60, [(0, .ref m0), (1, .int x1), (2, .int x2), (3, .int (f2 f x1)), (4, .int i24_4), (5, .int i24_5)], [], M)) (S2 := (57, [], [], M)) rfl rfl rfl (fun c_54 => ?_) (fun c_54 => ?_)
            · have c_54 : ((i24_4 + 4) + (2 * (f2 f (i24_4 + 2)))) ≤ x2 := of_decide_eq_true c_54
              have hq5 := i_le c_54
              rw [hbs.2] at hq5
              refine ml_blk 3 (S' := (64, [(0, .ref m0), (1, .int x1), (2, .int x2), (3, .int (f2 f x1)), (4, .int i24_4), (5, .int i24_5)], [.int 2, .int 4, .int i24_4], M)) rfl ?_
              refine ml_blk 3 (S' := (68, [(0, .ref m0), (1, .int x1), (2, .int x2), (3, .int (f2 f x1)), (4, .int i24_4), (5, .int i24_5)], [.int 2, .int i24_4, .ref m0, .int 2, .int 4, .int i24_4], M)) rfl ?_
              refine ml_st (S' := (69, [(0, .ref m0), (1, .int x1), (2, .int x2), (3, .int (f2 f x1)), (4, .int i24_4), (5, .int i24_5)], [.int (i24_4 + 2), .ref m0, .int 2, .int 4, .int i24_4], M)) rfl rfl rfl ?_
              refine ml_call (a := [.ref m0, .int (i24_4 + 2)]) (rest := [.int 2, .int 4, .int i24_4]) rfl (hR.okc rfl rfl rfl) rfl rfl (rm_u2 hR hF (by omega) (by omega) (by omega)) (fun v45 M46 h47 => ?_)
              obtain ⟨rfl, h47⟩ := h47
              rw [h47]
              show ml _ _ _ (72, [(0, .ref m0), (1, .int x1), (2, .int x2), (3, .int (f2 f x1)), (4, .int i24_4), (5, .int i24_5)], [.int (f2 f (i24_4 + 2)), .int 2, .int 4, .int i24_4], M) _
              refine ml_blk 3 (S' := (75, [(0, .ref m0), (1, .int x1), (2, .int x2), (3, .int (f2 f x1)), (4, .int i24_4), (5, .int i24_5)], [.int (i24_4 + (4 + (2 * (f2 f (i24_4 + 2)))))], M)) rfl ?_
              refine ml_st (S' := (77, [(4, .int (i24_4 + (4 + (2 * (f2 f (i24_4 + 2)))))), (0, .ref m0), (1, .int x1), (2, .int x2), (3, .int (f2 f x1)), (5, .int i24_5)], [], M)) rfl rfl rfl ?_
              refine ml_st (S' := (80, [(5, .int (i24_5 + 1)), (4, .int (i24_4 + (4 + (2 * (f2 f (i24_4 + 2)))))), (0, .ref m0), (1, .int x1), (2, .int x2), (3, .int (f2 f x1))], [], M)) rfl rfl rfl ?_
              refine ml_st (S' := (24, [(0, .ref m0), (1, .int x1), (2, .int x2), (3, .int (f2 f x1)), (4, .int (i24_4 + (4 + (2 * (f2 f (i24_4 + 2)))))), (5, .int (i24_5 + 1))], [], M)) rfl rfl rfl ?_
              exact ih_24 (i24_4 + (4 + (2 * (f2 f (i24_4 + 2))))) (i24_5 + 1) (loop_inc (Int32.not_le.mp c_27) hn_24) (⟨by rw [hbs.1]; have := f2_pos (f := f) (x := i24_4 + 2); omega, by rw [hbs.1]; omega, by rw [inc_lt (Int32.not_le.mp c_27)]; omega, by rw [inc_lt (Int32.not_le.mp c_27)]; have := i_nle c_27; omega, itr_inc hk0 c_27 hit ⟨by omega, by omega, by omega, hbs.1⟩⟩)
            · have c_54 : ¬ (((i24_4 + 4) + (2 * (f2 f (i24_4 + 2)))) ≤ x2) := of_decide_eq_false c_54
              refine ml_st (S' := (59, [], [.int 30], M)) rfl rfl rfl ?_
              exact ml_ret rfl (rfl) (⟨_, _, _, rfl, hR, eqI.rf, eqR.rf, Or.inl ⟨by decide, rfl⟩⟩)
    exact L_24 _ (x1 + 2) 0 (Nat.le_refl _) (⟨by omega, by omega, by decide, by show (0 : Int) ≤ _; omega, rfl⟩)
  · have c_4 : ¬ (2 ≤ (x2 - x1)) := of_decide_eq_false c_4
    refine ml_st (S' := (9, [(0, .ref m0), (1, .int x1), (2, .int x2)], [.int 30], M)) rfl rfl rfl ?_
    exact ml_ret rfl (rfl) (⟨_, _, _, rfl, hR, eqI.rf, eqR.rf, Or.inl ⟨by decide, rfl⟩⟩)
set_option maxHeartbeats 2000000 in
theorem rm_components {g : xe_G}  {m0 : Nat} {q : Nat → Nat} {z : Nat × Nat} {I : rI} {R : rR} {M : mi_H} {x1 x2 : Int32} {n : Nat} {f : Nat → Int32} {S cN : Nat} {sa sl ch : Nat → Int32} {cp mj : Int32} {pa py : Nat → Int32}  (hR : RS g m0 q z I R M) (hF : FK n f I R) (hY : SK S cN sa sl ch I R) (hP : PK n f S cp mj pa py I R) (h0 : 0 ≤ x1.toInt) (h1 : x1.toInt ≤ x2.toInt) (h2 : x2.toInt ≤ n) {d : Nat} (hd : 5 ≤ d) : mt (mT g) d 197 [.ref m0, .int x1, .int x2] M (fun v M' => ∃ (x : Int32) (I' : rI) (R' : rR), v = some (.int x) ∧ RS g m0 q z I' R' M' ∧ eqI [47, 48, 72] I I' ∧ eqR [] R R' ∧ (x = 0 ∧ I' 72 = some (f2 f x1) ∨ x ≠ 0 ∧ I' 72 = I 72)) := by
  obtain ⟨d, rfl⟩ : ∃ e, d = e + 1 := ⟨d - 1, by omega⟩
  refine mt_in (b := mb_197 g) rfl rfl ?_
  show ml (mT g) d (mb_197 g).2 (0, [(0, .ref m0), (1, .int x1), (2, .int x2)], [], M) _
  have hn := hF.1
  refine ml_blk 3 (S' := (3, [(0, .ref m0), (1, .int x1), (2, .int x2)], [.int (x2 - x1)], M)) rfl ?_
  refine ml_st (S' := (4, [(0, .ref m0), (1, .int x1), (2, .int x2)], [.int 2, .int (x2 - x1)], M)) rfl rfl rfl ?_
  refine ml_if2 (S1 := (10, [(0, .ref m0), (1, .int x1), (2, .int x2)], [], M)) (S2 := (7, [(0, .ref m0), (1, .int x1), (2, .int x2)], [], M)) rfl rfl rfl (fun c_4 => ?_) (fun c_4 => ?_)
  · have c_4 : 2 ≤ (x2 - x1) := of_decide_eq_true c_4
    have hd2 := i_le c_4
    rw [i_sub (by omega) (by omega)] at hd2
    have i2_ : (2 : Int32).toInt = 2 := rfl
    have ex2 : (x1 + 2).toInt = x1.toInt + 2 := i_add (by have : (2 : Int32).toInt = 2 := rfl; omega) (by have : (2 : Int32).toInt = 2 := rfl; omega)
    have hc0 := f2_pos (f := f) (x := x1)
    have hc1 := f2_le (f := f) (x := x1)
    refine ml_blk 2 (S' := (12, [(0, .ref m0), (1, .int x1), (2, .int x2)], [.int x1, .ref m0], M)) rfl ?_
    refine ml_call (a := [.ref m0, .int x1]) (rest := []) rfl (hR.okc rfl rfl rfl) rfl rfl (rm_u2 hR hF (h0) (by omega) (by omega)) (fun v11 M12 h13 => ?_)
    obtain ⟨rfl, h13⟩ := h13
    rw [h13]
    show ml _ _ _ (15, [(0, .ref m0), (1, .int x1), (2, .int x2)], [.int (f2 f x1)], M) _
    refine ml_st (S' := (16, [(3, .int (f2 f x1)), (0, .ref m0), (1, .int x1), (2, .int x2)], [], M)) rfl rfl rfl ?_
    refine ml_blk 3 (S' := (19, [(3, .int (f2 f x1)), (0, .ref m0), (1, .int x1), (2, .int x2)], [.int (x1 + 2)], M)) rfl ?_
    refine ml_st (S' := (21, [(4, .int (x1 + 2)), (3, .int (f2 f x1)), (0, .ref m0), (1, .int x1), (2, .int x2)], [], M)) rfl rfl rfl ?_
    refine ml_st (S' := (22, [(4, .int (x1 + 2)), (3, .int (f2 f x1)), (0, .ref m0), (1, .int x1), (2, .int x2)], [.int 0], M)) rfl rfl rfl ?_
    refine ml_st (S' := (24, [(0, .ref m0), (1, .int x1), (2, .int x2), (3, .int (f2 f x1)), (4, .int (x1 + 2)), (5, .int 0)], [], M)) rfl rfl rfl ?_
    have L_24 : ∀ (n_24 : Nat) (i24_4 : Int32) (i24_5 : Int32), (2147483648 - i24_5.toInt).toNat ≤ n_24 → (x1.toInt + 2 ≤ i24_4.toInt ∧ i24_4.toInt ≤ x2.toInt ∧ 0 ≤ i24_5.toInt ∧ i24_5.toInt ≤ (f2 f x1).toInt ∧ itr (CM1 f n) i24_5.toInt.toNat (x1 + 2) i24_4) → ml (mT g) d (mb_197 g).2 (24, [(0, .ref m0), (1, .int x1), (2, .int x2), (3, .int (f2 f x1)), (4, .int i24_4), (5, .int i24_5)], [], M) (fun v M' => ∃ (x : Int32) (I' : rI) (R' : rR), v = some (.int x) ∧ RS g m0 q z I' R' M' ∧ eqI [47, 48, 72] I I' ∧ eqR [] R R' ∧ (x = 0 ∧ I' 72 = some (f2 f x1) ∨ x ≠ 0 ∧ I' 72 = I 72)) := by
      intro n_24
      induction n_24 with
      | zero => intro i24_4 i24_5 hn; exact (loop_zero hn).elim
      | succ n_24 ih_24 =>
        intro i24_4 i24_5 hn_24 hi_24
        obtain ⟨hp0, hp1, hk0, hk1, hit⟩ := hi_24
        refine ml_blk 2 (S' := (27, [(0, .ref m0), (1, .int x1), (2, .int x2), (3, .int (f2 f x1)), (4, .int i24_4), (5, .int i24_5)], [.int (f2 f x1), .int i24_5], M)) rfl ?_
        refine ml_if2 (S1 := (126, [(0, .ref m0), (1, .int x1), (2, .int x2), (3, .int (f2 f x1)), (4, .int i24_4), (5, .int i24_5)], [], M)) (S2 := (30, [(0, .ref m0), (1, .int x1), (2, .int x2), (3, .int (f2 f x1)), (4, .int i24_4), (5, .int i24_5)], [], M)) rfl rfl rfl (fun c_27 => ?_) (fun c_27 => ?_)
        · have c_27 : (f2 f x1) ≤ i24_5 := of_decide_eq_true c_27
          refine ml_blk 2 (S' := (129, [(0, .ref m0), (1, .int x1), (2, .int x2), (3, .int (f2 f x1)), (4, .int i24_4), (5, .int i24_5)], [.int x2, .int i24_4], M)) rfl ?_
          refine ml_if2 (S1 := (135, [(0, .ref m0), (1, .int x1), (2, .int x2), (3, .int (f2 f x1)), (4, .int i24_4), (5, .int i24_5)], [], M)) (S2 := (132, [(0, .ref m0), (1, .int x1), (2, .int x2), (3, .int (f2 f x1)), (4, .int i24_4), (5, .int i24_5)], [], M)) rfl rfl rfl (fun c_129 => ?_) (fun c_129 => ?_)
          · have c_129 : i24_4 = x2 := of_decide_eq_true c_129
            have hend : i24_4 = x2 := c_129
            have hit2 := itr_end hit hk1 c_27
            refine ml_blk 3 (S' := (138, [(0, .ref m0), (1, .int x1), (2, .int x2), (3, .int (f2 f x1)), (4, .int i24_4), (5, .int i24_5)], [.int (x1 + 2)], M)) rfl ?_
            refine ml_st (S' := (140, [(4, .int (x1 + 2)), (0, .ref m0), (1, .int x1), (2, .int x2), (3, .int (f2 f x1)), (5, .int i24_5)], [], M)) rfl rfl rfl ?_
            refine ml_st (S' := (141, [(4, .int (x1 + 2)), (0, .ref m0), (1, .int x1), (2, .int x2), (3, .int (f2 f x1)), (5, .int i24_5)], [.int 0], M)) rfl rfl rfl ?_
            refine ml_st (S' := (143, [(0, .ref m0), (3, .int (f2 f x1)), (4, .int (x1 + 2)), (5, .int 0)], [], M)) rfl rfl rfl ?_
            have L_143 : ∀ (n_143 : Nat) (i143_4 : Int32) (i143_5 : Int32), (2147483648 - i143_5.toInt).toNat ≤ n_143 → (0 ≤ i143_5.toInt ∧ itr (CM1 f n) ((f2 f x1).toInt - i143_5.toInt).toNat i143_4 i24_4) → ml (mT g) d (mb_197 g).2 (143, [(0, .ref m0), (3, .int (f2 f x1)), (4, .int i143_4), (5, .int i143_5)], [], M) (fun v M' => ∃ (x : Int32) (I' : rI) (R' : rR), v = some (.int x) ∧ RS g m0 q z I' R' M' ∧ eqI [47, 48, 72] I I' ∧ eqR [] R R' ∧ (x = 0 ∧ I' 72 = some (f2 f x1) ∨ x ≠ 0 ∧ I' 72 = I 72)) := by
              intro n_143
              induction n_143 with
              | zero => intro i143_4 i143_5 hn; exact (loop_zero hn).elim
              | succ n_143 ih_143 =>
                intro i143_4 i143_5 hn_143 hi_143
                obtain ⟨hk0b, hitb⟩ := hi_143
                refine ml_blk 2 (S' := (146, [(0, .ref m0), (3, .int (f2 f x1)), (4, .int i143_4), (5, .int i143_5)], [.int (f2 f x1), .int i143_5], M)) rfl ?_
                refine ml_if2 (S1 := (296, [(0, .ref m0), (3, .int (f2 f x1)), (4, .int i143_4), (5, .int i143_5)], [], M)) (S2 := (149, [(0, .ref m0), (3, .int (f2 f x1)), (4, .int i143_4), (5, .int i143_5)], [], M)) rfl rfl rfl (fun c_146 => ?_) (fun c_146 => ?_)
                · have c_146 : (f2 f x1) ≤ i143_5 := of_decide_eq_true c_146
                  refine ml_blk 2 (S' := (298, [(0, .ref m0), (3, .int (f2 f x1)), (4, .int i143_4), (5, .int i143_5)], [.int (f2 f x1), .ref m0], M)) rfl ?_
                  refine rp_int rfl hR rfl (fun M14 I15 hR16 e17 f18 => ?_)
                  show ml _ _ _ (301, [(0, .ref m0), (3, .int (f2 f x1)), (4, .int i143_4), (5, .int i143_5)], [], M14) _
                  refine ml_st (S' := (302, [(0, .ref m0), (3, .int (f2 f x1)), (4, .int i143_4), (5, .int i143_5)], [.int 0], M14)) rfl rfl rfl ?_
                  exact ml_ret rfl (rfl) (⟨_, _, _, rfl, hR16, (eqI.rf.put f18 (by decide)), eqR.rf, Or.inl ⟨rfl, e17⟩⟩)
                · have c_146 : ¬ ((f2 f x1) ≤ i143_5) := of_decide_eq_false c_146
                  obtain ⟨b1, hb1, hnx⟩ := itr_next hitb c_146
                  obtain ⟨g0, g1, g2⟩ := hb1
                  have i6b : (6 : Int32).toInt = 6 := rfl
                  have eq2 : (i143_4 + 2).toInt = i143_4.toInt + 2 := i_add (by have : (2 : Int32).toInt = 2 := rfl; omega) (by have : (2 : Int32).toInt = 2 := rfl; omega)
                  have eq4 : (i143_4 + 4).toInt = i143_4.toInt + 4 := i_add (by have : (4 : Int32).toInt = 4 := rfl; omega) (by have : (4 : Int32).toInt = 4 := rfl; omega)
                  have hm0 := f2_pos (f := f) (x := i143_4 + 4)
                  refine ml_blk 3 (S' := (153, [(0, .ref m0), (3, .int (f2 f x1)), (4, .int i143_4), (5, .int i143_5)], [.int i143_4, .ref m0, .ref m0], M)) rfl ?_
                  refine ml_call (a := [.ref m0, .int i143_4]) (rest := [.ref m0]) rfl (hR.okc rfl rfl rfl) rfl rfl (rm_u2 hR hF (g0) (by omega) (by omega)) (fun v19 M20 h21 => ?_)
                  obtain ⟨rfl, h21⟩ := h21
                  rw [h21]
                  show ml _ _ _ (156, [(0, .ref m0), (3, .int (f2 f x1)), (4, .int i143_4), (5, .int i143_5)], [.int (f2 f i143_4), .ref m0], M) _
                  refine ml_call (a := [.ref m0, .int (f2 f i143_4)]) (rest := []) rfl (hR.okc rfl rfl rfl) rfl rfl (rm_tag hR hF hP (by omega)) (fun v22 M23 h24 => ?_)
                  obtain ⟨rfl, h24⟩ := h24
                  rw [h24]
                  show ml _ _ _ (159, [(0, .ref m0), (3, .int (f2 f x1)), (4, .int i143_4), (5, .int i143_5)], [.int (tgf f cp pa (f2 f i143_4))], M) _
                  refine ml_st (S' := (160, [(0, .ref m0), (3, .int (f2 f x1)), (4, .int i143_4), (5, .int i143_5)], [.int 1, .int (tgf f cp pa (f2 f i143_4))], M)) rfl rfl rfl ?_
                  refine ml_if2 (S1 := (216, [], [], M)) (S2 := (163, [(0, .ref m0), (3, .int (f2 f x1)), (4, .int i143_4), (5, .int i143_5)], [], M)) rfl rfl rfl (fun c_160 => ?_) (fun c_160 => ?_)
                  · have c_160 : ¬ (tgf f cp pa (f2 f i143_4)) = 1 := of_decide_eq_true c_160
                    refine ml_st (S' := (218, [], [.int 37], M)) rfl rfl rfl ?_
                    exact ml_ret rfl (rfl) (⟨_, _, _, rfl, hR, eqI.rf, eqR.rf, Or.inr ⟨by decide, rfl⟩⟩)
                  · have c_160 : ¬ (¬ (tgf f cp pa (f2 f i143_4)) = 1) := of_decide_eq_false c_160
                    have hy1 := hP.y (show tgf f cp pa (f2 f i143_4) = 1 from Decidable.not_not.mp c_160)
                    refine ml_blk 3 (S' := (166, [(0, .ref m0), (3, .int (f2 f x1)), (4, .int i143_4), (5, .int i143_5)], [.ref m0, .ref m0, .ref m0], M)) rfl ?_
                    refine ml_st (S' := (168, [(0, .ref m0), (3, .int (f2 f x1)), (4, .int i143_4), (5, .int i143_5)], [.int i143_4, .ref m0, .ref m0, .ref m0], M)) rfl rfl rfl ?_
                    refine ml_call (a := [.ref m0, .int i143_4]) (rest := [.ref m0, .ref m0]) rfl (hR.okc rfl rfl rfl) rfl rfl (rm_u2 hR hF (g0) (by omega) (by omega)) (fun v25 M26 h27 => ?_)
                    obtain ⟨rfl, h27⟩ := h27
                    rw [h27]
                    show ml _ _ _ (171, [(0, .ref m0), (3, .int (f2 f x1)), (4, .int i143_4), (5, .int i143_5)], [.int (f2 f i143_4), .ref m0, .ref m0], M) _
                    refine ml_call (a := [.ref m0, .int (f2 f i143_4)]) (rest := [.ref m0]) rfl (hR.okc rfl rfl rfl) rfl rfl (rm_symOf hR hP (Decidable.not_not.mp c_160) (by omega)) (fun v28 M29 h30 => ?_)
                    obtain ⟨rfl, h30⟩ := h30
                    rw [h30]
                    show ml _ _ _ (174, [(0, .ref m0), (3, .int (f2 f x1)), (4, .int i143_4), (5, .int i143_5)], [.int (pyf py (f2 f i143_4)), .ref m0], M) _
                    refine ml_st (S' := (175, [(0, .ref m0), (3, .int (f2 f x1)), (4, .int i143_4), (5, .int i143_5)], [.int 1, .int (pyf py (f2 f i143_4)), .ref m0], M)) rfl rfl rfl ?_
                    refine ml_call (a := [.ref m0, .int (pyf py (f2 f i143_4)), .int 1]) (rest := []) rfl (hR.okc rfl rfl rfl) rfl rfl (rm_unqualified hR hY (hy1.2.2.1) (hy1.2.2.2) (by omega)) (fun v31 M32 h33 => ?_)
                    obtain ⟨⟨u34, rfl, z35⟩, h33⟩ := h33
                    rw [h33]
                    show ml _ _ _ (178, [(0, .ref m0), (3, .int (f2 f x1)), (4, .int i143_4), (5, .int i143_5)], [.int u34], M) _
                    refine ml_if (S1 := (216, [], [], M)) (S2 := (181, [(0, .ref m0), (3, .int (f2 f x1)), (4, .int i143_4), (5, .int i143_5)], [], M)) rfl rfl rfl (fun c_178 => ?_) (fun c_178 => ?_)
                    · have c_178 : u34 = 0 := of_decide_eq_true c_178
                      refine ml_st (S' := (218, [], [.int 37], M)) rfl rfl rfl ?_
                      exact ml_ret rfl (rfl) (⟨_, _, _, rfl, hR, eqI.rf, eqR.rf, Or.inr ⟨by decide, rfl⟩⟩)
                    · have c_178 : ¬ (u34 = 0) := of_decide_eq_false c_178
                      refine ml_blk 3 (S' := (185, [(0, .ref m0), (3, .int (f2 f x1)), (4, .int i143_4), (5, .int i143_5)], [.int i143_4, .ref m0, .ref m0], M)) rfl ?_
                      refine ml_blk 2 (S' := (187, [(0, .ref m0), (3, .int (f2 f x1)), (4, .int i143_4), (5, .int i143_5)], [.int (i143_4 + 2), .ref m0, .ref m0], M)) rfl ?_
                      refine ml_call (a := [.ref m0, .int (i143_4 + 2)]) (rest := [.ref m0]) rfl (hR.okc rfl rfl rfl) rfl rfl (rm_u2 hR hF (by omega) (by omega) (by omega)) (fun v36 M37 h38 => ?_)
                      obtain ⟨rfl, h38⟩ := h38
                      rw [h38]
                      show ml _ _ _ (190, [(0, .ref m0), (3, .int (f2 f x1)), (4, .int i143_4), (5, .int i143_5)], [.int (f2 f (i143_4 + 2)), .ref m0], M) _
                      refine ml_call (a := [.ref m0, .int (f2 f (i143_4 + 2))]) (rest := []) rfl (hR.okc rfl rfl rfl) rfl rfl (rm_tag hR hF hP (by omega)) (fun v39 M40 h41 => ?_)
                      obtain ⟨rfl, h41⟩ := h41
                      rw [h41]
                      show ml _ _ _ (193, [(0, .ref m0), (3, .int (f2 f x1)), (4, .int i143_4), (5, .int i143_5)], [.int (tgf f cp pa (f2 f (i143_4 + 2)))], M) _
                      refine ml_st (S' := (194, [(0, .ref m0), (3, .int (f2 f x1)), (4, .int i143_4), (5, .int i143_5)], [.int 1, .int (tgf f cp pa (f2 f (i143_4 + 2)))], M)) rfl rfl rfl ?_
                      refine ml_if2 (S1 := (216, [], [], M)) (S2 := (197, [(0, .ref m0), (3, .int (f2 f x1)), (4, .int i143_4), (5, .int i143_5)], [], M)) rfl rfl rfl (fun c_194 => ?_) (fun c_194 => ?_)
                      · have c_194 : ¬ (tgf f cp pa (f2 f (i143_4 + 2))) = 1 := of_decide_eq_true c_194
                        refine ml_st (S' := (218, [], [.int 37], M)) rfl rfl rfl ?_
                        exact ml_ret rfl (rfl) (⟨_, _, _, rfl, hR, eqI.rf, eqR.rf, Or.inr ⟨by decide, rfl⟩⟩)
                      · have c_194 : ¬ (¬ (tgf f cp pa (f2 f (i143_4 + 2))) = 1) := of_decide_eq_false c_194
                        have hy2 := hP.y (show tgf f cp pa (f2 f (i143_4 + 2)) = 1 from Decidable.not_not.mp c_194)
                        refine ml_blk 3 (S' := (200, [(0, .ref m0), (3, .int (f2 f x1)), (4, .int i143_4), (5, .int i143_5)], [.ref m0, .ref m0, .ref m0], M)) rfl ?_
                        refine ml_blk 3 (S' := (204, [(0, .ref m0), (3, .int (f2 f x1)), (4, .int i143_4), (5, .int i143_5)], [.int (i143_4 + 2), .ref m0, .ref m0, .ref m0], M)) rfl ?_
                        refine ml_call (a := [.ref m0, .int (i143_4 + 2)]) (rest := [.ref m0, .ref m0]) rfl (hR.okc rfl rfl rfl) rfl rfl (rm_u2 hR hF (by omega) (by omega) (by omega)) (fun v42 M43 h44 => ?_)
                        obtain ⟨rfl, h44⟩ := h44
                        rw [h44]
                        show ml _ _ _ (207, [(0, .ref m0), (3, .int (f2 f x1)), (4, .int i143_4), (5, .int i143_5)], [.int (f2 f (i143_4 + 2)), .ref m0, .ref m0], M) _
                        refine ml_call (a := [.ref m0, .int (f2 f (i143_4 + 2))]) (rest := [.ref m0]) rfl (hR.okc rfl rfl rfl) rfl rfl (rm_symOf hR hP (Decidable.not_not.mp c_194) (by omega)) (fun v45 M46 h47 => ?_)
                        obtain ⟨rfl, h47⟩ := h47
                        rw [h47]
                        show ml _ _ _ (210, [(0, .ref m0), (3, .int (f2 f x1)), (4, .int i143_4), (5, .int i143_5)], [.int (pyf py (f2 f (i143_4 + 2))), .ref m0], M) _
                        refine ml_call (a := [.ref m0, .int (pyf py (f2 f (i143_4 + 2)))]) (rest := []) rfl (hR.okc rfl rfl rfl) rfl rfl (rm_isField hR hY (hy2.2.2.1) (hy2.2.2.2) (by omega)) (fun v48 M49 h50 => ?_)
                        obtain ⟨⟨u51, rfl, z52, w53⟩, h50⟩ := h50
                        rw [h50]
                        show ml _ _ _ (213, [(0, .ref m0), (3, .int (f2 f x1)), (4, .int i143_4), (5, .int i143_5)], [.int u51], M) _
                        refine ml_if (S1 := (219, [(0, .ref m0), (3, .int (f2 f x1)), (4, .int i143_4), (5, .int i143_5)], [], M)) (S2 := (216, [], [], M)) rfl rfl rfl (fun c_213 => ?_) (fun c_213 => ?_)
                        · have c_213 : ¬ u51 = 0 := of_decide_eq_true c_213
                          refine ml_blk 3 (S' := (223, [(0, .ref m0), (3, .int (f2 f x1)), (4, .int i143_4), (5, .int i143_5)], [.int 4, .int i143_4, .ref m0], M)) rfl ?_
                          refine ml_st (S' := (224, [(0, .ref m0), (3, .int (f2 f x1)), (4, .int i143_4), (5, .int i143_5)], [.int (i143_4 + 4), .ref m0], M)) rfl rfl rfl ?_
                          refine ml_call (a := [.ref m0, .int (i143_4 + 4)]) (rest := []) rfl (hR.okc rfl rfl rfl) rfl rfl (rm_u2 hR hF (by omega) (by omega) (by omega)) (fun v54 M55 h56 => ?_)
                          obtain ⟨rfl, h56⟩ := h56
                          rw [h56]
                          show ml _ _ _ (227, [(0, .ref m0), (3, .int (f2 f x1)), (4, .int i143_4), (5, .int i143_5)], [.int (f2 f (i143_4 + 4))], M) _
                          refine ml_st (S' := (229, [(6, .int (f2 f (i143_4 + 4))), (0, .ref m0), (3, .int (f2 f x1)), (4, .int i143_4), (5, .int i143_5)], [], M)) rfl rfl rfl ?_
                          refine ml_st (S' := (232, [(4, .int (i143_4 + 6)), (6, .int (f2 f (i143_4 + 4))), (0, .ref m0), (3, .int (f2 f x1)), (5, .int i143_5)], [], M)) rfl rfl rfl ?_
                          refine ml_st (S' := (233, [(4, .int (i143_4 + 6)), (6, .int (f2 f (i143_4 + 4))), (0, .ref m0), (3, .int (f2 f x1)), (5, .int i143_5)], [.int 0], M)) rfl rfl rfl ?_
                          refine ml_st (S' := (235, [(0, .ref m0), (3, .int (f2 f x1)), (4, .int (i143_4 + 6)), (5, .int i143_5), (6, .int (f2 f (i143_4 + 4))), (7, .int 0)], [], M)) rfl rfl rfl ?_
                          have L_235 : ∀ (n_235 : Nat) (i235_4 : Int32) (i235_7 : Int32), (2147483648 - i235_7.toInt).toNat ≤ n_235 → (0 ≤ i235_7.toInt ∧ itr (RA1 f n) ((f2 f (i143_4 + 4)).toInt - i235_7.toInt).toNat i235_4 b1) → ml (mT g) d (mb_197 g).2 (235, [(0, .ref m0), (3, .int (f2 f x1)), (4, .int i235_4), (5, .int i143_5), (6, .int (f2 f (i143_4 + 4))), (7, .int i235_7)], [], M) (fun v M' => ∃ (x : Int32) (I' : rI) (R' : rR), v = some (.int x) ∧ RS g m0 q z I' R' M' ∧ eqI [47, 48, 72] I I' ∧ eqR [] R R' ∧ (x = 0 ∧ I' 72 = some (f2 f x1) ∨ x ≠ 0 ∧ I' 72 = I 72)) := by
                            intro n_235
                            induction n_235 with
                            | zero => intro i235_4 i235_7 hn; exact (loop_zero hn).elim
                            | succ n_235 ih_235 =>
                              intro i235_4 i235_7 hn_235 hi_235
                              obtain ⟨hj0b, hit6⟩ := hi_235
                              refine ml_blk 2 (S' := (239, [(0, .ref m0), (3, .int (f2 f x1)), (4, .int i235_4), (5, .int i143_5), (6, .int (f2 f (i143_4 + 4))), (7, .int i235_7)], [.int (f2 f (i143_4 + 4)), .int i235_7], M)) rfl ?_
                              refine ml_if2 (S1 := (290, [(0, .ref m0), (3, .int (f2 f x1)), (4, .int i235_4), (5, .int i143_5), (6, .int (f2 f (i143_4 + 4))), (7, .int i235_7)], [], M)) (S2 := (242, [(0, .ref m0), (3, .int (f2 f x1)), (4, .int i235_4), (5, .int i143_5), (6, .int (f2 f (i143_4 + 4))), (7, .int i235_7)], [], M)) rfl rfl rfl (fun c_239 => ?_) (fun c_239 => ?_)
                              · have c_239 : (f2 f (i143_4 + 4)) ≤ i235_7 := of_decide_eq_true c_239
                                refine ml_st (S' := (293, [(5, .int (i143_5 + 1)), (0, .ref m0), (3, .int (f2 f x1)), (4, .int i235_4), (6, .int (f2 f (i143_4 + 4))), (7, .int i235_7)], [], M)) rfl rfl rfl ?_
                                refine ml_st (S' := (143, [(0, .ref m0), (3, .int (f2 f x1)), (4, .int i235_4), (5, .int (i143_5 + 1))], [], M)) rfl rfl rfl ?_
                                exact ih_143 i235_4 (i143_5 + 1) (loop_inc (Int32.not_le.mp c_146) hn_143) (⟨by rw [inc_lt (Int32.not_le.mp c_146)]; omega, itr_one hit6 (by have := i_le c_239; omega) ▸ hnx⟩)
                              · have c_239 : ¬ ((f2 f (i143_4 + 4)) ≤ i235_7) := of_decide_eq_false c_239
                                obtain ⟨r1, hr1, hrx⟩ := itr_next hit6 c_239
                                have hr2 := hr1
                                obtain ⟨u0, u1, u2, u3⟩ := hr2
                                have es2 : (i235_4 + 2).toInt = i235_4.toInt + 2 := i_add (by have : (2 : Int32).toInt = 2 := rfl; omega) (by have : (2 : Int32).toInt = 2 := rfl; omega)
                                have hra2 := ra_of (f := f) hn u0 u2
                                refine ml_blk 3 (S' := (246, [(0, .ref m0), (3, .int (f2 f x1)), (4, .int i235_4), (5, .int i143_5), (6, .int (f2 f (i143_4 + 4))), (7, .int i235_7)], [.int i235_4, .ref m0, .ref m0], M)) rfl ?_
                                refine ml_call (a := [.ref m0, .int i235_4]) (rest := [.ref m0]) rfl (hR.okc rfl rfl rfl) rfl rfl (rm_u2 hR hF (u0) (by omega) (by omega)) (fun v57 M58 h59 => ?_)
                                obtain ⟨rfl, h59⟩ := h59
                                rw [h59]
                                show ml _ _ _ (249, [(0, .ref m0), (3, .int (f2 f x1)), (4, .int i235_4), (5, .int i143_5), (6, .int (f2 f (i143_4 + 4))), (7, .int i235_7)], [.int (f2 f i235_4), .ref m0], M) _
                                refine ml_call (a := [.ref m0, .int (f2 f i235_4)]) (rest := []) rfl (hR.okc rfl rfl rfl) rfl rfl (rm_tag hR hF hP (by omega)) (fun v60 M61 h62 => ?_)
                                obtain ⟨rfl, h62⟩ := h62
                                rw [h62]
                                show ml _ _ _ (252, [(0, .ref m0), (3, .int (f2 f x1)), (4, .int i235_4), (5, .int i143_5), (6, .int (f2 f (i143_4 + 4))), (7, .int i235_7)], [.int (tgf f cp pa (f2 f i235_4))], M) _
                                refine ml_st (S' := (253, [(0, .ref m0), (3, .int (f2 f x1)), (4, .int i235_4), (5, .int i143_5), (6, .int (f2 f (i143_4 + 4))), (7, .int i235_7)], [.int 1, .int (tgf f cp pa (f2 f i235_4))], M)) rfl rfl rfl ?_
                                refine ml_if2 (S1 := (267, [(0, .ref m0), (3, .int (f2 f x1)), (4, .int i235_4), (5, .int i143_5), (6, .int (f2 f (i143_4 + 4))), (7, .int i235_7)], [], M)) (S2 := (256, [(0, .ref m0), (3, .int (f2 f x1)), (4, .int i235_4), (5, .int i143_5), (6, .int (f2 f (i143_4 + 4))), (7, .int i235_7)], [], M)) rfl rfl rfl (fun c_253 => ?_) (fun c_253 => ?_)
                                · have c_253 : (tgf f cp pa (f2 f i235_4)) = 1 := of_decide_eq_true c_253
                                  refine ml_blk 3 (S' := (272, [(0, .ref m0), (3, .int (f2 f x1)), (4, .int i235_4), (5, .int i143_5), (6, .int (f2 f (i143_4 + 4))), (7, .int i235_7)], [.ref m0, .int 6, .int i235_4], M)) rfl ?_
                                  refine ml_blk 3 (S' := (276, [(0, .ref m0), (3, .int (f2 f x1)), (4, .int i235_4), (5, .int i143_5), (6, .int (f2 f (i143_4 + 4))), (7, .int i235_7)], [.int (i235_4 + 2), .ref m0, .int 6, .int i235_4], M)) rfl ?_
                                  refine ml_call (a := [.ref m0, .int (i235_4 + 2)]) (rest := [.int 6, .int i235_4]) rfl (hR.okc rfl rfl rfl) rfl rfl (rm_u4 hR hF (by omega) (by omega) (by omega)) (fun v63 M64 h65 => ?_)
                                  obtain ⟨rfl, h65⟩ := h65
                                  rw [h65]
                                  show ml _ _ _ (279, [(0, .ref m0), (3, .int (f2 f x1)), (4, .int i235_4), (5, .int i143_5), (6, .int (f2 f (i143_4 + 4))), (7, .int i235_7)], [.long (f4 f (i235_4 + 2)), .int 6, .int i235_4], M) _
                                  refine ml_blk 3 (S' := (282, [(0, .ref m0), (3, .int (f2 f x1)), (4, .int i235_4), (5, .int i143_5), (6, .int (f2 f (i143_4 + 4))), (7, .int i235_7)], [.int (i235_4 + (6 + (Int64.toInt32 (f4 f (i235_4 + 2)))))], M)) rfl ?_
                                  refine ml_st (S' := (284, [(4, .int (i235_4 + (6 + (Int64.toInt32 (f4 f (i235_4 + 2)))))), (0, .ref m0), (3, .int (f2 f x1)), (5, .int i143_5), (6, .int (f2 f (i143_4 + 4))), (7, .int i235_7)], [], M)) rfl rfl rfl ?_
                                  refine ml_st (S' := (287, [(7, .int (i235_7 + 1)), (4, .int (i235_4 + (6 + (Int64.toInt32 (f4 f (i235_4 + 2)))))), (0, .ref m0), (3, .int (f2 f x1)), (5, .int i143_5), (6, .int (f2 f (i143_4 + 4)))], [], M)) rfl rfl rfl ?_
                                  refine ml_st (S' := (235, [(0, .ref m0), (3, .int (f2 f x1)), (4, .int (i235_4 + (6 + (Int64.toInt32 (f4 f (i235_4 + 2)))))), (5, .int i143_5), (6, .int (f2 f (i143_4 + 4))), (7, .int (i235_7 + 1))], [], M)) rfl rfl rfl ?_
                                  exact ih_235 (i235_4 + (6 + (Int64.toInt32 (f4 f (i235_4 + 2))))) (i235_7 + 1) (loop_inc (Int32.not_le.mp c_239) hn_235) (⟨by rw [inc_lt (Int32.not_le.mp c_239)]; omega, hr1.eq hra2 ▸ hrx⟩)
                                · have c_253 : ¬ ((tgf f cp pa (f2 f i235_4)) = 1) := of_decide_eq_false c_253
                                  refine ml_blk 3 (S' := (261, [(0, .ref m0), (3, .int (f2 f x1)), (4, .int i235_4), (5, .int i143_5), (6, .int (f2 f (i143_4 + 4))), (7, .int i235_7)], [.int i235_4, .int 28, .ref m0], M)) rfl ?_
                                  refine ml_call (a := [.ref m0, .int 28, .int i235_4]) (rest := []) rfl (hR.okc rfl rfl rfl) rfl rfl (rm_wrong hR (by omega)) (fun v66 M67 h68 => ?_)
                                  obtain ⟨u74, I69, R70, rfl, hR71, hI72, hV73, z75, w76⟩ := h68
                                  show ml _ _ _ (264, [(0, .ref m0), (3, .int (f2 f x1)), (4, .int i235_4), (5, .int i143_5), (6, .int (f2 f (i143_4 + 4))), (7, .int i235_7)], [.int u74], M67) _
                                  refine ml_blk 2 (S' := (266, [(0, .ref m0), (3, .int (f2 f x1)), (4, .int i235_4), (5, .int i143_5), (6, .int (f2 f (i143_4 + 4))), (7, .int i235_7)], [.int (-1)], M67)) rfl ?_
                                  exact ml_ret rfl (rfl) (⟨_, _, _, rfl, hR71, (eqI.rf.tr hI72 (by decide)), (eqR.rf.tr hV73 (by decide)), Or.inr ⟨by decide, hI72 72 (by decide)⟩⟩)
                          exact L_235 _ (i143_4 + 6) 0 (Nat.le_refl _) (⟨by decide, by rw [show ((f2 f (i143_4 + 4)).toInt - (0 : Int32).toInt).toNat = (f2 f (i143_4 + 4)).toInt.toNat by have : (0 : Int32).toInt = 0 := rfl; omega]; exact g2⟩)
                        · have c_213 : ¬ (¬ u51 = 0) := of_decide_eq_false c_213
                          refine ml_st (S' := (218, [], [.int 37], M)) rfl rfl rfl ?_
                          exact ml_ret rfl (rfl) (⟨_, _, _, rfl, hR, eqI.rf, eqR.rf, Or.inr ⟨by decide, rfl⟩⟩)
            exact L_143 _ (x1 + 2) 0 (Nat.le_refl _) (⟨by decide, by rw [show ((f2 f x1).toInt - (0 : Int32).toInt).toNat = (f2 f x1).toInt.toNat by have : (0 : Int32).toInt = 0 := rfl; omega]; exact hit2⟩)
          · have c_129 : ¬ (i24_4 = x2) := of_decide_eq_false c_129
            refine ml_st (S' := (134, [(0, .ref m0), (1, .int x1), (2, .int x2), (3, .int (f2 f x1)), (4, .int i24_4), (5, .int i24_5)], [.int 30], M)) rfl rfl rfl ?_
            exact ml_ret rfl (rfl) (⟨_, _, _, rfl, hR, eqI.rf, eqR.rf, Or.inr ⟨by decide, rfl⟩⟩)
        · have c_27 : ¬ ((f2 f x1) ≤ i24_5) := of_decide_eq_false c_27
          refine ml_blk 3 (S' := (35, [(0, .ref m0), (1, .int x1), (2, .int x2), (3, .int (f2 f x1)), (4, .int i24_4), (5, .int i24_5)], [.int (i24_4 + 6)], M)) rfl ?_
          refine ml_st (S' := (36, [(0, .ref m0), (1, .int x1), (2, .int x2), (3, .int (f2 f x1)), (4, .int i24_4), (5, .int i24_5)], [.int x2, .int (i24_4 + 6)], M)) rfl rfl rfl ?_
          refine ml_if2 (S1 := (42, [(0, .ref m0), (1, .int x1), (2, .int x2), (3, .int (f2 f x1)), (4, .int i24_4), (5, .int i24_5)], [], M)) (S2 := (39, [(0, .ref m0), (1, .int x1), (2, .int x2), (3, .int (f2 f x1)), (4, .int i24_4), (5, .int i24_5)], [], M)) rfl rfl rfl (fun c_36 => ?_) (fun c_36 => ?_)
          · have c_36 : (i24_4 + 6) ≤ x2 := of_decide_eq_true c_36
            have hq6 := i_le c_36
            rw [i_add (by have : (6 : Int32).toInt = 6 := rfl; omega) (by have : (6 : Int32).toInt = 6 := rfl; omega)] at hq6
            have i6_ : (6 : Int32).toInt = 6 := rfl
            have ep4 : (i24_4 + 4).toInt = i24_4.toInt + 4 := i_add (by have : (4 : Int32).toInt = 4 := rfl; omega) (by have : (4 : Int32).toInt = 4 := rfl; omega)
            have ep6 : (i24_4 + 6).toInt = i24_4.toInt + 6 := i_add (by have : (6 : Int32).toInt = 6 := rfl; omega) (by have : (6 : Int32).toInt = 6 := rfl; omega)
            have hd0 := f2_pos (f := f) (x := i24_4 + 4)
            refine ml_blk 3 (S' := (46, [(0, .ref m0), (1, .int x1), (2, .int x2), (3, .int (f2 f x1)), (4, .int i24_4), (5, .int i24_5)], [.int 4, .int i24_4, .ref m0], M)) rfl ?_
            refine ml_st (S' := (47, [(0, .ref m0), (1, .int x1), (2, .int x2), (3, .int (f2 f x1)), (4, .int i24_4), (5, .int i24_5)], [.int (i24_4 + 4), .ref m0], M)) rfl rfl rfl ?_
            refine ml_call (a := [.ref m0, .int (i24_4 + 4)]) (rest := []) rfl (hR.okc rfl rfl rfl) rfl rfl (rm_u2 hR hF (by omega) (by omega) (by omega)) (fun v77 M78 h79 => ?_)
            obtain ⟨rfl, h79⟩ := h79
            rw [h79]
            show ml _ _ _ (50, [(0, .ref m0), (1, .int x1), (2, .int x2), (3, .int (f2 f x1)), (4, .int i24_4), (5, .int i24_5)], [.int (f2 f (i24_4 + 4))], M) _
            refine ml_st (S' := (52, [(6, .int (f2 f (i24_4 + 4))), (0, .ref m0), (1, .int x1), (2, .int x2), (3, .int (f2 f x1)), (4, .int i24_4), (5, .int i24_5)], [], M)) rfl rfl rfl ?_
            refine ml_st (S' := (55, [(4, .int (i24_4 + 6)), (6, .int (f2 f (i24_4 + 4))), (0, .ref m0), (1, .int x1), (2, .int x2), (3, .int (f2 f x1)), (5, .int i24_5)], [], M)) rfl rfl rfl ?_
            refine ml_st (S' := (56, [(4, .int (i24_4 + 6)), (6, .int (f2 f (i24_4 + 4))), (0, .ref m0), (1, .int x1), (2, .int x2), (3, .int (f2 f x1)), (5, .int i24_5)], [.int 0], M)) rfl rfl rfl ?_
            refine ml_st (S' := (58, [(0, .ref m0), (1, .int x1), (2, .int x2), (3, .int (f2 f x1)), (4, .int (i24_4 + 6)), (5, .int i24_5), (6, .int (f2 f (i24_4 + 4))), (7, .int 0)], [], M)) rfl rfl rfl ?_
            have L_58 : ∀ (n_58 : Nat) (i58_4 : Int32) (i58_7 : Int32), (2147483648 - i58_7.toInt).toNat ≤ n_58 → (i24_4.toInt + 6 ≤ i58_4.toInt ∧ i58_4.toInt ≤ x2.toInt ∧ 0 ≤ i58_7.toInt ∧ i58_7.toInt ≤ (f2 f (i24_4 + 4)).toInt ∧ itr (RA1 f n) i58_7.toInt.toNat (i24_4 + 6) i58_4) → ml (mT g) d (mb_197 g).2 (58, [(0, .ref m0), (1, .int x1), (2, .int x2), (3, .int (f2 f x1)), (4, .int i58_4), (5, .int i24_5), (6, .int (f2 f (i24_4 + 4))), (7, .int i58_7)], [], M) (fun v M' => ∃ (x : Int32) (I' : rI) (R' : rR), v = some (.int x) ∧ RS g m0 q z I' R' M' ∧ eqI [47, 48, 72] I I' ∧ eqR [] R R' ∧ (x = 0 ∧ I' 72 = some (f2 f x1) ∨ x ≠ 0 ∧ I' 72 = I 72)) := by
              intro n_58
              induction n_58 with
              | zero => intro i58_4 i58_7 hn; exact (loop_zero hn).elim
              | succ n_58 ih_58 =>
                intro i58_4 i58_7 hn_58 hi_58
                obtain ⟨hq0, hq1, hj0, hj1, hit5⟩ := hi_58
                refine ml_blk 2 (S' := (62, [(0, .ref m0), (1, .int x1), (2, .int x2), (3, .int (f2 f x1)), (4, .int i58_4), (5, .int i24_5), (6, .int (f2 f (i24_4 + 4))), (7, .int i58_7)], [.int (f2 f (i24_4 + 4)), .int i58_7], M)) rfl ?_
                refine ml_if2 (S1 := (120, [(0, .ref m0), (1, .int x1), (2, .int x2), (3, .int (f2 f x1)), (4, .int i58_4), (5, .int i24_5), (6, .int (f2 f (i24_4 + 4))), (7, .int i58_7)], [], M)) (S2 := (65, [(0, .ref m0), (1, .int x1), (2, .int x2), (3, .int (f2 f x1)), (4, .int i58_4), (5, .int i24_5), (6, .int (f2 f (i24_4 + 4))), (7, .int i58_7)], [], M)) rfl rfl rfl (fun c_62 => ?_) (fun c_62 => ?_)
                · have c_62 : (f2 f (i24_4 + 4)) ≤ i58_7 := of_decide_eq_true c_62
                  refine ml_st (S' := (123, [(5, .int (i24_5 + 1)), (0, .ref m0), (1, .int x1), (2, .int x2), (3, .int (f2 f x1)), (4, .int i58_4), (6, .int (f2 f (i24_4 + 4))), (7, .int i58_7)], [], M)) rfl rfl rfl ?_
                  refine ml_st (S' := (24, [(0, .ref m0), (1, .int x1), (2, .int x2), (3, .int (f2 f x1)), (4, .int i58_4), (5, .int (i24_5 + 1))], [], M)) rfl rfl rfl ?_
                  exact ih_24 i58_4 (i24_5 + 1) (loop_inc (Int32.not_le.mp c_27) hn_24) (⟨by omega, by omega, by rw [inc_lt (Int32.not_le.mp c_27)]; omega, by rw [inc_lt (Int32.not_le.mp c_27)]; have := i_nle c_27; omega, itr_inc hk0 c_27 hit ⟨by omega, by omega, itr_end hit5 hj1 c_62⟩⟩)
                · have c_62 : ¬ ((f2 f (i24_4 + 4)) ≤ i58_7) := of_decide_eq_false c_62
                  refine ml_blk 3 (S' := (70, [(0, .ref m0), (1, .int x1), (2, .int x2), (3, .int (f2 f x1)), (4, .int i58_4), (5, .int i24_5), (6, .int (f2 f (i24_4 + 4))), (7, .int i58_7)], [.int (i58_4 + 6)], M)) rfl ?_
                  refine ml_st (S' := (71, [(0, .ref m0), (1, .int x1), (2, .int x2), (3, .int (f2 f x1)), (4, .int i58_4), (5, .int i24_5), (6, .int (f2 f (i24_4 + 4))), (7, .int i58_7)], [.int x2, .int (i58_4 + 6)], M)) rfl rfl rfl ?_
                  refine ml_if2 (S1 := (94, [], [], M)) (S2 := (74, [(0, .ref m0), (1, .int x1), (2, .int x2), (3, .int (f2 f x1)), (4, .int i58_4), (5, .int i24_5), (6, .int (f2 f (i24_4 + 4))), (7, .int i58_7)], [], M)) rfl rfl rfl (fun c_71 => ?_) (fun c_71 => ?_)
                  · have c_71 : x2 < (i58_4 + 6) := of_decide_eq_true c_71
                    refine ml_st (S' := (96, [], [.int 30], M)) rfl rfl rfl ?_
                    exact ml_ret rfl (rfl) (⟨_, _, _, rfl, hR, eqI.rf, eqR.rf, Or.inr ⟨by decide, rfl⟩⟩)
                  · have c_71 : ¬ (x2 < (i58_4 + 6)) := of_decide_eq_false c_71
                    have hr6 := i_nlt c_71
                    rw [i_add (by have : (6 : Int32).toInt = 6 := rfl; omega) (by have : (6 : Int32).toInt = 6 := rfl; omega)] at hr6
                    have er2 : (i58_4 + 2).toInt = i58_4.toInt + 2 := i_add (by have : (2 : Int32).toInt = 2 := rfl; omega) (by have : (2 : Int32).toInt = 2 := rfl; omega)
                    refine ml_blk 3 (S' := (78, [(0, .ref m0), (1, .int x1), (2, .int x2), (3, .int (f2 f x1)), (4, .int i58_4), (5, .int i24_5), (6, .int (f2 f (i24_4 + 4))), (7, .int i58_7)], [.int 2, .int i58_4, .ref m0], M)) rfl ?_
                    refine ml_st (S' := (79, [(0, .ref m0), (1, .int x1), (2, .int x2), (3, .int (f2 f x1)), (4, .int i58_4), (5, .int i24_5), (6, .int (f2 f (i24_4 + 4))), (7, .int i58_7)], [.int (i58_4 + 2), .ref m0], M)) rfl rfl rfl ?_
                    refine ml_call (a := [.ref m0, .int (i58_4 + 2)]) (rest := []) rfl (hR.okc rfl rfl rfl) rfl rfl (rm_u4 hR hF (by omega) (by omega) (by omega)) (fun v80 M81 h82 => ?_)
                    obtain ⟨rfl, h82⟩ := h82
                    rw [h82]
                    show ml _ _ _ (82, [(0, .ref m0), (1, .int x1), (2, .int x2), (3, .int (f2 f x1)), (4, .int i58_4), (5, .int i24_5), (6, .int (f2 f (i24_4 + 4))), (7, .int i58_7)], [.long (f4 f (i58_4 + 2))], M) _
                    refine ml_blk 3 (S' := (86, [(0, .ref m0), (1, .int x1), (2, .int x2), (3, .int (f2 f x1)), (4, .int i58_4), (5, .int i24_5), (6, .int (f2 f (i24_4 + 4))), (7, .int i58_7)], [.int (x2 - i58_4), .long (f4 f (i58_4 + 2))], M)) rfl ?_
                    refine ml_blk 3 (S' := (90, [(0, .ref m0), (1, .int x1), (2, .int x2), (3, .int (f2 f x1)), (4, .int i58_4), (5, .int i24_5), (6, .int (f2 f (i24_4 + 4))), (7, .int i58_7)], [.long (Int32.toInt64 ((x2 - i58_4) - 6)), .long (f4 f (i58_4 + 2))], M)) rfl ?_
                    refine ml_st (S' := (91, [(0, .ref m0), (1, .int x1), (2, .int x2), (3, .int (f2 f x1)), (4, .int i58_4), (5, .int i24_5), (6, .int (f2 f (i24_4 + 4))), (7, .int i58_7)], [.int (lg_cmp (f4 f (i58_4 + 2)) (Int32.toInt64 ((x2 - i58_4) - 6)))], M)) rfl rfl rfl ?_
                    refine ml_if (S1 := (97, [(0, .ref m0), (1, .int x1), (2, .int x2), (3, .int (f2 f x1)), (4, .int i58_4), (5, .int i24_5), (6, .int (f2 f (i24_4 + 4))), (7, .int i58_7)], [], M)) (S2 := (94, [], [], M)) rfl rfl rfl (fun c_91 => ?_) (fun c_91 => ?_)
                    · have c_91 : (lg_cmp (f4 f (i58_4 + 2)) (Int32.toInt64 ((x2 - i58_4) - 6))) ≤ 0 := of_decide_eq_true c_91
                      have hr7 := lc_le c_91
                      rw [l_of, i_sub (by rw [i_sub (by omega) (by omega)]; omega) (by rw [i_sub (by omega) (by omega)]; omega), i_sub (by omega) (by omega)] at hr7
                      have hra := ra_of (f := f) hn (by omega : 0 ≤ i58_4.toInt) (by omega)
                      refine ml_blk 3 (S' := (102, [(0, .ref m0), (1, .int x1), (2, .int x2), (3, .int (f2 f x1)), (4, .int i58_4), (5, .int i24_5), (6, .int (f2 f (i24_4 + 4))), (7, .int i58_7)], [.ref m0, .int 6, .int i58_4], M)) rfl ?_
                      refine ml_blk 3 (S' := (106, [(0, .ref m0), (1, .int x1), (2, .int x2), (3, .int (f2 f x1)), (4, .int i58_4), (5, .int i24_5), (6, .int (f2 f (i24_4 + 4))), (7, .int i58_7)], [.int (i58_4 + 2), .ref m0, .int 6, .int i58_4], M)) rfl ?_
                      refine ml_call (a := [.ref m0, .int (i58_4 + 2)]) (rest := [.int 6, .int i58_4]) rfl (hR.okc rfl rfl rfl) rfl rfl (rm_u4 hR hF (by omega) (by omega) (by omega)) (fun v83 M84 h85 => ?_)
                      obtain ⟨rfl, h85⟩ := h85
                      rw [h85]
                      show ml _ _ _ (109, [(0, .ref m0), (1, .int x1), (2, .int x2), (3, .int (f2 f x1)), (4, .int i58_4), (5, .int i24_5), (6, .int (f2 f (i24_4 + 4))), (7, .int i58_7)], [.long (f4 f (i58_4 + 2)), .int 6, .int i58_4], M) _
                      refine ml_blk 3 (S' := (112, [(0, .ref m0), (1, .int x1), (2, .int x2), (3, .int (f2 f x1)), (4, .int i58_4), (5, .int i24_5), (6, .int (f2 f (i24_4 + 4))), (7, .int i58_7)], [.int (i58_4 + (6 + (Int64.toInt32 (f4 f (i58_4 + 2)))))], M)) rfl ?_
                      refine ml_st (S' := (114, [(4, .int (i58_4 + (6 + (Int64.toInt32 (f4 f (i58_4 + 2)))))), (0, .ref m0), (1, .int x1), (2, .int x2), (3, .int (f2 f x1)), (5, .int i24_5), (6, .int (f2 f (i24_4 + 4))), (7, .int i58_7)], [], M)) rfl rfl rfl ?_
                      refine ml_st (S' := (117, [(7, .int (i58_7 + 1)), (4, .int (i58_4 + (6 + (Int64.toInt32 (f4 f (i58_4 + 2)))))), (0, .ref m0), (1, .int x1), (2, .int x2), (3, .int (f2 f x1)), (5, .int i24_5), (6, .int (f2 f (i24_4 + 4)))], [], M)) rfl rfl rfl ?_
                      refine ml_st (S' := (58, [(0, .ref m0), (1, .int x1), (2, .int x2), (3, .int (f2 f x1)), (4, .int (i58_4 + (6 + (Int64.toInt32 (f4 f (i58_4 + 2)))))), (5, .int i24_5), (6, .int (f2 f (i24_4 + 4))), (7, .int (i58_7 + 1))], [], M)) rfl rfl rfl ?_
                      exact ih_58 (i58_4 + (6 + (Int64.toInt32 (f4 f (i58_4 + 2))))) (i58_7 + 1) (loop_inc (Int32.not_le.mp c_62) hn_58) (⟨by rw [hra]; have := f4_pos (f := f) (x := i58_4 + 2); omega, by rw [hra]; omega, by rw [inc_lt (Int32.not_le.mp c_62)]; omega, by rw [inc_lt (Int32.not_le.mp c_62)]; have := i_nle c_62; omega, itr_inc hj0 c_62 hit5 ⟨by omega, by omega, by omega, hra⟩⟩)
                    · have c_91 : ¬ ((lg_cmp (f4 f (i58_4 + 2)) (Int32.toInt64 ((x2 - i58_4) - 6))) ≤ 0) := of_decide_eq_false c_91
                      refine ml_st (S' := (96, [], [.int 30], M)) rfl rfl rfl ?_
                      exact ml_ret rfl (rfl) (⟨_, _, _, rfl, hR, eqI.rf, eqR.rf, Or.inr ⟨by decide, rfl⟩⟩)
            exact L_58 _ (i24_4 + 6) 0 (Nat.le_refl _) (⟨by omega, by omega, by decide, by show (0 : Int) ≤ _; omega, rfl⟩)
          · have c_36 : ¬ ((i24_4 + 6) ≤ x2) := of_decide_eq_false c_36
            refine ml_st (S' := (41, [(0, .ref m0), (1, .int x1), (2, .int x2), (3, .int (f2 f x1)), (4, .int i24_4), (5, .int i24_5)], [.int 30], M)) rfl rfl rfl ?_
            exact ml_ret rfl (rfl) (⟨_, _, _, rfl, hR, eqI.rf, eqR.rf, Or.inr ⟨by decide, rfl⟩⟩)
    exact L_24 _ (x1 + 2) 0 (Nat.le_refl _) (⟨by omega, by omega, by decide, by show (0 : Int) ≤ _; omega, rfl⟩)
  · have c_4 : ¬ (2 ≤ (x2 - x1)) := of_decide_eq_false c_4
    refine ml_st (S' := (9, [(0, .ref m0), (1, .int x1), (2, .int x2)], [.int 30], M)) rfl rfl rfl ?_
    exact ml_ret rfl (rfl) (⟨_, _, _, rfl, hR, eqI.rf, eqR.rf, Or.inr ⟨by decide, rfl⟩⟩)
end
section
/-! the reference: attributes (laid by wip/p2/c69.py) -/
set_option maxHeartbeats 2000000 in
theorem rm_attr3 {g : xe_G}  {m0 : Nat} {q : Nat → Nat} {z : Nat × Nat} {I : rI} {R : rR} {M : mi_H} {x1 x2 x3 x4 x5 x6 : Int32}  (hR : RS g m0 q z I R M) (hw : x1 = 3) {d : Nat} (hd : 1 ≤ d) : mt (mT g) d 177 [.ref m0, .int x1, .int x2, .int x3, .int x4, .int x5, .int x6] M (fun v M' => v = some (.int 0) ∧ M' = M) := by
  obtain ⟨d, rfl⟩ : ∃ e, d = e + 1 := ⟨d - 1, by omega⟩
  refine mt_in (b := mb_177 g) rfl rfl ?_
  show ml (mT g) d (mb_177 g).2 (0, [(0, .ref m0), (1, .int x1), (2, .int x2), (3, .int x3), (4, .int x4), (5, .int x5), (6, .int x6)], [], M) _
  refine ml_st (S' := (1, [(0, .ref m0), (1, .int x1), (2, .int x2), (3, .int x3), (4, .int x4), (5, .int x5), (6, .int x6)], [.int x1], M)) rfl rfl rfl ?_
  refine ml_sw rfl (fun t_1 ht_1 => ?_)
  have kt_1 := ht_1
  have ht_1 : t_1 ∈ [56, 208, 219, 398, 400, 542, 550, 600] := mi_sw_sub ht_1 (by decide)
  simp only [List.mem_cons, List.not_mem_nil, or_false] at ht_1
  rcases ht_1 with rfl | rfl | rfl | rfl | rfl | rfl | rfl | rfl
  · show ml _ _ _ (56, [(0, .ref m0), (1, .int x1), (2, .int x2), (3, .int x3), (4, .int x4), (5, .int x5), (6, .int x6)], [], M) _
    exfalso
    rw [hw] at kt_1
    exact absurd kt_1 (by decide)
  · show ml _ _ _ (208, [(0, .ref m0), (1, .int x1), (2, .int x2), (3, .int x3), (4, .int x4), (5, .int x5), (6, .int x6)], [], M) _
    exfalso
    rw [hw] at kt_1
    exact absurd kt_1 (by decide)
  · show ml _ _ _ (219, [(0, .ref m0), (1, .int x1), (2, .int x2), (3, .int x3), (4, .int x4), (5, .int x5), (6, .int x6)], [], M) _
    exfalso
    rw [hw] at kt_1
    exact absurd kt_1 (by decide)
  · show ml _ _ _ (398, [(0, .ref m0), (1, .int x1), (2, .int x2), (3, .int x3), (4, .int x4), (5, .int x5), (6, .int x6)], [], M) _
    refine ml_st (S' := (399, [(0, .ref m0), (1, .int x1), (2, .int x2), (3, .int x3), (4, .int x4), (5, .int x5), (6, .int x6)], [.int 0], M)) rfl rfl rfl ?_
    exact ml_ret rfl (rfl) (⟨rfl, rfl⟩)
  · show ml _ _ _ (400, [(0, .ref m0), (1, .int x1), (2, .int x2), (3, .int x3), (4, .int x4), (5, .int x5), (6, .int x6)], [], M) _
    exfalso
    rw [hw] at kt_1
    exact absurd kt_1 (by decide)
  · show ml _ _ _ (542, [(0, .ref m0), (1, .int x1), (2, .int x2), (3, .int x3), (4, .int x4), (5, .int x5), (6, .int x6)], [], M) _
    exfalso
    rw [hw] at kt_1
    exact absurd kt_1 (by decide)
  · show ml _ _ _ (550, [(0, .ref m0), (1, .int x1), (2, .int x2), (3, .int x3), (4, .int x4), (5, .int x5), (6, .int x6)], [], M) _
    exfalso
    rw [hw] at kt_1
    exact absurd kt_1 (by decide)
  · show ml _ _ _ (600, [(0, .ref m0), (1, .int x1), (2, .int x2), (3, .int x3), (4, .int x4), (5, .int x5), (6, .int x6)], [], M) _
    exfalso
    rw [hw] at kt_1
    exact absurd kt_1 (by decide)
set_option maxHeartbeats 2000000 in
theorem rm_checkAttributes3 {g : xe_G}  {m0 : Nat} {q : Nat → Nat} {z : Nat × Nat} {I : rI} {R : rR} {M : mi_H} {x1 x2 x3 : Int32} {n : Nat} {f : Nat → Int32} {S cN : Nat} {sa sl ch : Nat → Int32} {cp mj : Int32} {pa py : Nat → Int32} {e : Int32}  (hR : RS g m0 q z I R M) (hF : FK n f I R) (hY : SK S cN sa sl ch I R) (hP : PK n f S cp mj pa py I R) (hK : KW I R) (hw : x2 = 3) (hat : AT f n x1 e) {d : Nat} (hd : 4 ≤ d) : mt (mT g) d 187 [.ref m0, .int x1, .int x2, .int x3] M (fun v M' => ∃ (x : Int32) (I' : rI) (R' : rR), v = some (.int x) ∧ RS g m0 q z I' R' M' ∧ eqI [47, 48] I I' ∧ eqR [] R R' ∧ (x.toInt < 0 ∨ x = e)) := by
  obtain ⟨d, rfl⟩ : ∃ e, d = e + 1 := ⟨d - 1, by omega⟩
  refine mt_in (b := mb_187 g) rfl rfl ?_
  show ml (mT g) d (mb_187 g).2 (0, [(0, .ref m0), (1, .int x1), (2, .int x2), (3, .int x3)], [], M) _
  have hn := hF.1
  refine ml_blk 2 (S' := (2, [(0, .ref m0), (1, .int x1), (2, .int x2), (3, .int x3)], [.int x1, .ref m0], M)) rfl ?_
  refine ml_call (a := [.ref m0, .int x1]) (rest := []) rfl (hR.okc rfl rfl rfl) rfl rfl (rm_u2 hR hF (hat.1) (hat.2.1) (by omega)) (fun v11 M12 h13 => ?_)
  obtain ⟨rfl, h13⟩ := h13
  rw [h13]
  show ml _ _ _ (5, [(0, .ref m0), (1, .int x1), (2, .int x2), (3, .int x3)], [.int (f2 f x1)], M) _
  refine ml_st (S' := (7, [(4, .int (f2 f x1)), (0, .ref m0), (1, .int x1), (2, .int x2), (3, .int x3)], [], M)) rfl rfl rfl ?_
  refine ml_blk 3 (S' := (10, [(4, .int (f2 f x1)), (0, .ref m0), (1, .int x1), (2, .int x2), (3, .int x3)], [.int (x1 + 2)], M)) rfl ?_
  refine ml_st (S' := (12, [(5, .int (x1 + 2)), (4, .int (f2 f x1)), (0, .ref m0), (1, .int x1), (2, .int x2), (3, .int x3)], [], M)) rfl rfl rfl ?_
  refine ml_st (S' := (13, [(5, .int (x1 + 2)), (4, .int (f2 f x1)), (0, .ref m0), (1, .int x1), (2, .int x2), (3, .int x3)], [.int 0], M)) rfl rfl rfl ?_
  refine ml_st (S' := (15, [(6, .int 0), (5, .int (x1 + 2)), (4, .int (f2 f x1)), (0, .ref m0), (1, .int x1), (2, .int x2), (3, .int x3)], [], M)) rfl rfl rfl ?_
  refine ml_st (S' := (16, [(6, .int 0), (5, .int (x1 + 2)), (4, .int (f2 f x1)), (0, .ref m0), (1, .int x1), (2, .int x2), (3, .int x3)], [.int 0], M)) rfl rfl rfl ?_
  refine ml_st (S' := (18, [(0, .ref m0), (2, .int x2), (3, .int x3), (4, .int (f2 f x1)), (5, .int (x1 + 2)), (6, .int 0), (7, .int 0)], [], M)) rfl rfl rfl ?_
  have L_18 : ∀ (n_18 : Nat) (i18_5 : Int32) (i18_6 : Int32) (i18_7 : Int32) (M_18 : mi_H) (I_18 : rI) (R_18 : rR), (2147483648 - i18_7.toInt).toNat ≤ n_18 → RS g m0 q z I_18 R_18 M_18 → eqI [47, 48] I I_18 → eqR [] R R_18 → (0 ≤ i18_7.toInt ∧ i18_7.toInt ≤ (f2 f x1).toInt ∧ itr (RA1 f n) ((f2 f x1).toInt - i18_7.toInt).toNat i18_5 e) → ml (mT g) d (mb_187 g).2 (18, [(0, .ref m0), (2, .int x2), (3, .int x3), (4, .int (f2 f x1)), (5, .int i18_5), (6, .int i18_6), (7, .int i18_7)], [], M_18) (fun v M' => ∃ (x : Int32) (I' : rI) (R' : rR), v = some (.int x) ∧ RS g m0 q z I' R' M' ∧ eqI [47, 48] I I' ∧ eqR [] R R' ∧ (x.toInt < 0 ∨ x = e)) := by
    intro n_18
    induction n_18 with
    | zero => intro i18_5 i18_6 i18_7 M_18 I_18 R_18 hn; exact (loop_zero hn).elim
    | succ n_18 ih_18 =>
      intro i18_5 i18_6 i18_7 M_18 I_18 R_18 hn_18 hR_18 hI_18 hV_18 hi_18
      obtain ⟨hk0, hk1, hit⟩ := hi_18
      refine ml_blk 2 (S' := (22, [(0, .ref m0), (2, .int x2), (3, .int x3), (4, .int (f2 f x1)), (5, .int i18_5), (6, .int i18_6), (7, .int i18_7)], [.int (f2 f x1), .int i18_7], M_18)) rfl ?_
      refine ml_if2 (S1 := (284, [(0, .ref m0), (2, .int x2), (3, .int x3), (4, .int (f2 f x1)), (5, .int i18_5), (6, .int i18_6), (7, .int i18_7)], [], M_18)) (S2 := (25, [(0, .ref m0), (2, .int x2), (3, .int x3), (4, .int (f2 f x1)), (5, .int i18_5), (6, .int i18_6), (7, .int i18_7)], [], M_18)) rfl rfl rfl (fun c_22 => ?_) (fun c_22 => ?_)
      · have c_22 : (f2 f x1) ≤ i18_7 := of_decide_eq_true c_22
        refine ml_st (S' := (286, [(0, .ref m0), (2, .int x2), (3, .int x3), (4, .int (f2 f x1)), (5, .int i18_5), (6, .int i18_6), (7, .int i18_7)], [.int i18_5], M_18)) rfl rfl rfl ?_
        exact ml_ret rfl (rfl) (⟨_, _, _, rfl, hR_18, (eqI.rf.tr hI_18 (by decide)), (eqR.rf.tr hV_18 (by decide)), Or.inr (itr_one hit (by have := i_le c_22; omega)).symm⟩)
      · have c_22 : ¬ ((f2 f x1) ≤ i18_7) := of_decide_eq_false c_22
        obtain ⟨b1, hb1, hnx⟩ := itr_next hit c_22
        have hb2 := hb1
        obtain ⟨g0, g1, g2, g3⟩ := hb2
        have ep2 : (i18_5 + 2).toInt = i18_5.toInt + 2 := i_add (by have : (2 : Int32).toInt = 2 := rfl; omega) (by have : (2 : Int32).toInt = 2 := rfl; omega)
        have ep6 : (i18_5 + 6).toInt = i18_5.toInt + 6 := i_add (by have : (6 : Int32).toInt = 6 := rfl; omega) (by have : (6 : Int32).toInt = 6 := rfl; omega)
        have hra := ra_of (f := f) hn g0 g2
        have hl0 := f4_pos (f := f) (x := i18_5 + 2)
        have hle : (i18_5 + 6 + Int64.toInt32 (f4 f (i18_5 + 2))).toInt = i18_5.toInt + 6 + (f4 f (i18_5 + 2)).toInt := by have di : (Int64.toInt32 (f4 f (i18_5 + 2))).toInt = (f4 f (i18_5 + 2)).toInt := i_of (by omega) (by omega); rw [i_add (by omega) (by omega), di, ep6]
        refine ml_blk 3 (S' := (29, [(0, .ref m0), (2, .int x2), (3, .int x3), (4, .int (f2 f x1)), (5, .int i18_5), (6, .int i18_6), (7, .int i18_7)], [.int 2, .int i18_5, .ref m0], M_18)) rfl ?_
        refine ml_st (S' := (30, [(0, .ref m0), (2, .int x2), (3, .int x3), (4, .int (f2 f x1)), (5, .int i18_5), (6, .int i18_6), (7, .int i18_7)], [.int (i18_5 + 2), .ref m0], M_18)) rfl rfl rfl ?_
        have hF14 : FK n f I_18 R_18 := (hF.mono (cIx hI_18 (by decide)) (cRx hV_18 (by decide)))
        refine ml_call (a := [.ref m0, .int (i18_5 + 2)]) (rest := []) rfl (hR_18.okc rfl rfl rfl) rfl rfl (rm_u4 hR_18 hF14 (by omega) (by omega) (by omega)) (fun v15 M16 h17 => ?_)
        obtain ⟨rfl, h17⟩ := h17
        rw [h17]
        show ml _ _ _ (33, [(0, .ref m0), (2, .int x2), (3, .int x3), (4, .int (f2 f x1)), (5, .int i18_5), (6, .int i18_6), (7, .int i18_7)], [.long (f4 f (i18_5 + 2))], M_18) _
        refine ml_st (S' := (34, [(0, .ref m0), (2, .int x2), (3, .int x3), (4, .int (f2 f x1)), (5, .int i18_5), (6, .int i18_6), (7, .int i18_7)], [.int (Int64.toInt32 (f4 f (i18_5 + 2)))], M_18)) rfl rfl rfl ?_
        refine ml_st (S' := (36, [(8, .int (Int64.toInt32 (f4 f (i18_5 + 2)))), (0, .ref m0), (2, .int x2), (3, .int x3), (4, .int (f2 f x1)), (5, .int i18_5), (6, .int i18_6), (7, .int i18_7)], [], M_18)) rfl rfl rfl ?_
        refine ml_blk 3 (S' := (40, [(8, .int (Int64.toInt32 (f4 f (i18_5 + 2)))), (0, .ref m0), (2, .int x2), (3, .int x3), (4, .int (f2 f x1)), (5, .int i18_5), (6, .int i18_6), (7, .int i18_7)], [.int i18_5, .ref m0, .ref m0], M_18)) rfl ?_
        refine ml_call (a := [.ref m0, .int i18_5]) (rest := [.ref m0]) rfl (hR_18.okc rfl rfl rfl) rfl rfl (rm_u2 hR_18 hF14 (g0) (by omega) (by omega)) (fun v18 M19 h20 => ?_)
        obtain ⟨rfl, h20⟩ := h20
        rw [h20]
        show ml _ _ _ (43, [(8, .int (Int64.toInt32 (f4 f (i18_5 + 2)))), (0, .ref m0), (2, .int x2), (3, .int x3), (4, .int (f2 f x1)), (5, .int i18_5), (6, .int i18_6), (7, .int i18_7)], [.int (f2 f i18_5), .ref m0], M_18) _
        have hP21 : PK n f S cp mj pa py I_18 R_18 := (hP.mono (cIx hI_18 (by decide)) (cRx hV_18 (by decide)))
        refine ml_call (a := [.ref m0, .int (f2 f i18_5)]) (rest := []) rfl (hR_18.okc rfl rfl rfl) rfl rfl (rm_tag hR_18 hF14 hP21 (by omega)) (fun v22 M23 h24 => ?_)
        obtain ⟨rfl, h24⟩ := h24
        rw [h24]
        show ml _ _ _ (46, [(8, .int (Int64.toInt32 (f4 f (i18_5 + 2)))), (0, .ref m0), (2, .int x2), (3, .int x3), (4, .int (f2 f x1)), (5, .int i18_5), (6, .int i18_6), (7, .int i18_7)], [.int (tgf f cp pa (f2 f i18_5))], M_18) _
        refine ml_st (S' := (47, [(8, .int (Int64.toInt32 (f4 f (i18_5 + 2)))), (0, .ref m0), (2, .int x2), (3, .int x3), (4, .int (f2 f x1)), (5, .int i18_5), (6, .int i18_6), (7, .int i18_7)], [.int 1, .int (tgf f cp pa (f2 f i18_5))], M_18)) rfl rfl rfl ?_
        refine ml_if2 (S1 := (61, [(8, .int (Int64.toInt32 (f4 f (i18_5 + 2)))), (0, .ref m0), (2, .int x2), (3, .int x3), (4, .int (f2 f x1)), (5, .int i18_5), (6, .int i18_6), (7, .int i18_7)], [], M_18)) (S2 := (50, [(8, .int (Int64.toInt32 (f4 f (i18_5 + 2)))), (0, .ref m0), (2, .int x2), (3, .int x3), (4, .int (f2 f x1)), (5, .int i18_5), (6, .int i18_6), (7, .int i18_7)], [], M_18)) rfl rfl rfl (fun c_47 => ?_) (fun c_47 => ?_)
        · have c_47 : (tgf f cp pa (f2 f i18_5)) = 1 := of_decide_eq_true c_47
          refine ml_blk 3 (S' := (65, [(8, .int (Int64.toInt32 (f4 f (i18_5 + 2)))), (0, .ref m0), (2, .int x2), (3, .int x3), (4, .int (f2 f x1)), (5, .int i18_5), (6, .int i18_6), (7, .int i18_7)], [.int i18_5, .ref m0, .ref m0], M_18)) rfl ?_
          refine ml_call (a := [.ref m0, .int i18_5]) (rest := [.ref m0]) rfl (hR_18.okc rfl rfl rfl) rfl rfl (rm_u2 hR_18 hF14 (g0) (by omega) (by omega)) (fun v25 M26 h27 => ?_)
          obtain ⟨rfl, h27⟩ := h27
          rw [h27]
          show ml _ _ _ (68, [(8, .int (Int64.toInt32 (f4 f (i18_5 + 2)))), (0, .ref m0), (2, .int x2), (3, .int x3), (4, .int (f2 f x1)), (5, .int i18_5), (6, .int i18_6), (7, .int i18_7)], [.int (f2 f i18_5), .ref m0], M_18) _
          refine ml_call (a := [.ref m0, .int (f2 f i18_5)]) (rest := []) rfl (hR_18.okc rfl rfl rfl) rfl rfl (rm_symOf hR_18 hP21 (c_47) (by omega)) (fun v28 M29 h30 => ?_)
          obtain ⟨rfl, h30⟩ := h30
          rw [h30]
          show ml _ _ _ (71, [(8, .int (Int64.toInt32 (f4 f (i18_5 + 2)))), (0, .ref m0), (2, .int x2), (3, .int x3), (4, .int (f2 f x1)), (5, .int i18_5), (6, .int i18_6), (7, .int i18_7)], [.int (pyf py (f2 f i18_5))], M_18) _
          refine ml_st (S' := (73, [(9, .int (pyf py (f2 f i18_5))), (8, .int (Int64.toInt32 (f4 f (i18_5 + 2)))), (0, .ref m0), (2, .int x2), (3, .int x3), (4, .int (f2 f x1)), (5, .int i18_5), (6, .int i18_6), (7, .int i18_7)], [], M_18)) rfl rfl rfl ?_
          have hy9 := hP.y (show tgf f cp pa (f2 f i18_5) = 1 from c_47)
          refine ml_st (S' := (74, [(9, .int (pyf py (f2 f i18_5))), (8, .int (Int64.toInt32 (f4 f (i18_5 + 2)))), (0, .ref m0), (2, .int x2), (3, .int x3), (4, .int (f2 f x1)), (5, .int i18_5), (6, .int i18_6), (7, .int i18_7)], [.int (-1)], M_18)) rfl rfl rfl ?_
          refine ml_st (S' := (76, [(10, .int (-1)), (9, .int (pyf py (f2 f i18_5))), (8, .int (Int64.toInt32 (f4 f (i18_5 + 2)))), (0, .ref m0), (2, .int x2), (3, .int x3), (4, .int (f2 f x1)), (5, .int i18_5), (6, .int i18_6), (7, .int i18_7)], [], M_18)) rfl rfl rfl ?_
          refine ml_st (S' := (77, [(10, .int (-1)), (9, .int (pyf py (f2 f i18_5))), (8, .int (Int64.toInt32 (f4 f (i18_5 + 2)))), (0, .ref m0), (2, .int x2), (3, .int x3), (4, .int (f2 f x1)), (5, .int i18_5), (6, .int i18_6), (7, .int i18_7)], [.int 0], M_18)) rfl rfl rfl ?_
          refine ml_st (S' := (79, [(0, .ref m0), (2, .int x2), (3, .int x3), (4, .int (f2 f x1)), (5, .int i18_5), (6, .int i18_6), (7, .int i18_7), (8, .int (Int64.toInt32 (f4 f (i18_5 + 2)))), (9, .int (pyf py (f2 f i18_5))), (10, .int (-1)), (11, .int 0)], [], M_18)) rfl rfl rfl ?_
          have L_79 : ∀ (n_79 : Nat) (i79_10 : Int32) (i79_11 : Int32), (2147483648 - i79_11.toInt).toNat ≤ n_79 → (0 ≤ i79_11.toInt ∧ (i79_10 < 0 ∨ (0 ≤ i79_10.toInt ∧ i79_10.toInt < 10 ∧ kin i79_10 = x2))) → ml (mT g) d (mb_187 g).2 (79, [(0, .ref m0), (2, .int x2), (3, .int x3), (4, .int (f2 f x1)), (5, .int i18_5), (6, .int i18_6), (7, .int i18_7), (8, .int (Int64.toInt32 (f4 f (i18_5 + 2)))), (9, .int (pyf py (f2 f i18_5))), (10, .int i79_10), (11, .int i79_11)], [], M_18) (fun v M' => ∃ (x : Int32) (I' : rI) (R' : rR), v = some (.int x) ∧ RS g m0 q z I' R' M' ∧ eqI [47, 48] I I' ∧ eqR [] R R' ∧ (x.toInt < 0 ∨ x = e)) := by
            intro n_79
            induction n_79 with
            | zero => intro i79_10 i79_11 hn; exact (loop_zero hn).elim
            | succ n_79 ih_79 =>
              intro i79_10 i79_11 hn_79 hi_79
              obtain ⟨hj0, hjw⟩ := hi_79
              refine ml_blk 2 (S' := (82, [(0, .ref m0), (2, .int x2), (3, .int x3), (4, .int (f2 f x1)), (5, .int i18_5), (6, .int i18_6), (7, .int i18_7), (8, .int (Int64.toInt32 (f4 f (i18_5 + 2)))), (9, .int (pyf py (f2 f i18_5))), (10, .int i79_10), (11, .int i79_11)], [.ref m0, .int i79_11], M_18)) rfl ?_
              refine rg_ref (S' := (85, [(0, .ref m0), (2, .int x2), (3, .int x3), (4, .int (f2 f x1)), (5, .int i18_5), (6, .int i18_6), (7, .int i18_7), (8, .int (Int64.toInt32 (f4 f (i18_5 + 2)))), (9, .int (pyf py (f2 f i18_5))), (10, .int i79_10), (11, .int i79_11)], [.ref (q 62), .int i79_11], M_18)) rfl hR_18 rfl rfl ?_
              refine rl_kn (S' := (86, [(0, .ref m0), (2, .int x2), (3, .int x3), (4, .int (f2 f x1)), (5, .int i18_5), (6, .int i18_6), (7, .int i18_7), (8, .int (Int64.toInt32 (f4 f (i18_5 + 2)))), (9, .int (pyf py (f2 f i18_5))), (10, .int i79_10), (11, .int i79_11)], [.int (nI 10), .int i79_11], M_18)) rfl hR_18 rfl ?_
              refine ml_if2 (S1 := (140, [(0, .ref m0), (2, .int x2), (3, .int x3), (4, .int (f2 f x1)), (5, .int i18_5), (6, .int i18_6), (7, .int i18_7), (8, .int (Int64.toInt32 (f4 f (i18_5 + 2)))), (9, .int (pyf py (f2 f i18_5))), (10, .int i79_10), (11, .int i79_11)], [], M_18)) (S2 := (89, [(0, .ref m0), (2, .int x2), (3, .int x3), (4, .int (f2 f x1)), (5, .int i18_5), (6, .int i18_6), (7, .int i18_7), (8, .int (Int64.toInt32 (f4 f (i18_5 + 2)))), (9, .int (pyf py (f2 f i18_5))), (10, .int i79_10), (11, .int i79_11)], [], M_18)) rfl rfl rfl (fun c_86 => ?_) (fun c_86 => ?_)
              · have c_86 : (nI 10) ≤ i79_11 := of_decide_eq_true c_86
                refine ml_st (S' := (142, [(0, .ref m0), (2, .int x2), (3, .int x3), (4, .int (f2 f x1)), (5, .int i18_5), (6, .int i18_6), (7, .int i18_7), (8, .int (Int64.toInt32 (f4 f (i18_5 + 2)))), (9, .int (pyf py (f2 f i18_5))), (10, .int i79_10), (11, .int i79_11)], [.int i79_10], M_18)) rfl rfl rfl ?_
                refine ml_if (S1 := (268, [(0, .ref m0), (2, .int x2), (3, .int x3), (4, .int (f2 f x1)), (5, .int i18_5), (6, .int i18_6), (7, .int i18_7), (8, .int (Int64.toInt32 (f4 f (i18_5 + 2))))], [], M_18)) (S2 := (145, [(0, .ref m0), (2, .int x2), (3, .int x3), (4, .int (f2 f x1)), (5, .int i18_5), (6, .int i18_6), (7, .int i18_7), (8, .int (Int64.toInt32 (f4 f (i18_5 + 2)))), (9, .int (pyf py (f2 f i18_5))), (10, .int i79_10), (11, .int i79_11)], [], M_18)) rfl rfl rfl (fun c_142 => ?_) (fun c_142 => ?_)
                · have c_142 : i79_10 < 0 := of_decide_eq_true c_142
                  refine ml_blk 3 (S' := (274, [(0, .ref m0), (2, .int x2), (3, .int x3), (4, .int (f2 f x1)), (5, .int i18_5), (6, .int i18_6), (7, .int i18_7), (8, .int (Int64.toInt32 (f4 f (i18_5 + 2))))], [.int (Int64.toInt32 (f4 f (i18_5 + 2))), .int 6, .int i18_5], M_18)) rfl ?_
                  refine ml_blk 2 (S' := (276, [(0, .ref m0), (2, .int x2), (3, .int x3), (4, .int (f2 f x1)), (5, .int i18_5), (6, .int i18_6), (7, .int i18_7), (8, .int (Int64.toInt32 (f4 f (i18_5 + 2))))], [.int (i18_5 + (6 + (Int64.toInt32 (f4 f (i18_5 + 2)))))], M_18)) rfl ?_
                  refine ml_st (S' := (278, [(5, .int (i18_5 + (6 + (Int64.toInt32 (f4 f (i18_5 + 2)))))), (0, .ref m0), (2, .int x2), (3, .int x3), (4, .int (f2 f x1)), (6, .int i18_6), (7, .int i18_7), (8, .int (Int64.toInt32 (f4 f (i18_5 + 2))))], [], M_18)) rfl rfl rfl ?_
                  refine ml_st (S' := (281, [(7, .int (i18_7 + 1)), (5, .int (i18_5 + (6 + (Int64.toInt32 (f4 f (i18_5 + 2)))))), (0, .ref m0), (2, .int x2), (3, .int x3), (4, .int (f2 f x1)), (6, .int i18_6), (8, .int (Int64.toInt32 (f4 f (i18_5 + 2))))], [], M_18)) rfl rfl rfl ?_
                  refine ml_st (S' := (18, [(0, .ref m0), (2, .int x2), (3, .int x3), (4, .int (f2 f x1)), (5, .int (i18_5 + (6 + (Int64.toInt32 (f4 f (i18_5 + 2)))))), (6, .int i18_6), (7, .int (i18_7 + 1))], [], M_18)) rfl rfl rfl ?_
                  exact ih_18 (i18_5 + (6 + (Int64.toInt32 (f4 f (i18_5 + 2))))) i18_6 (i18_7 + 1) _ _ _ (loop_inc (Int32.not_le.mp c_22) hn_18) hR_18 (eqI.rf.tr hI_18 (by decide)) (eqR.rf.tr hV_18 (by decide)) (⟨by rw [inc_lt (Int32.not_le.mp c_22)]; omega, by rw [inc_lt (Int32.not_le.mp c_22)]; have := i_nle c_22; omega, hb1.eq hra ▸ hnx⟩)
                · have c_142 : ¬ (i79_10 < 0) := of_decide_eq_false c_142
                  have hwn := hjw.resolve_left c_142
                  refine ml_blk 2 (S' := (147, [(0, .ref m0), (2, .int x2), (3, .int x3), (4, .int (f2 f x1)), (5, .int i18_5), (6, .int i18_6), (7, .int i18_7), (8, .int (Int64.toInt32 (f4 f (i18_5 + 2)))), (9, .int (pyf py (f2 f i18_5))), (10, .int i79_10), (11, .int i79_11)], [.int 1, .int x2], M_18)) rfl ?_
                  refine ml_if2 (S1 := (160, [(0, .ref m0), (2, .int x2), (3, .int x3), (4, .int (f2 f x1)), (5, .int i18_5), (6, .int i18_6), (7, .int i18_7), (8, .int (Int64.toInt32 (f4 f (i18_5 + 2)))), (10, .int i79_10)], [], M_18)) (S2 := (150, [(0, .ref m0), (2, .int x2), (3, .int x3), (4, .int (f2 f x1)), (5, .int i18_5), (6, .int i18_6), (7, .int i18_7), (8, .int (Int64.toInt32 (f4 f (i18_5 + 2)))), (9, .int (pyf py (f2 f i18_5))), (10, .int i79_10), (11, .int i79_11)], [], M_18)) rfl rfl rfl (fun c_147 => ?_) (fun c_147 => ?_)
                  rotate_left
                  · exact absurd ((by rw [hw]; decide : ¬ x2 = 1)) (of_decide_eq_false c_147)
                  refine ml_blk 2 (S' := (162, [(0, .ref m0), (2, .int x2), (3, .int x3), (4, .int (f2 f x1)), (5, .int i18_5), (6, .int i18_6), (7, .int i18_7), (8, .int (Int64.toInt32 (f4 f (i18_5 + 2)))), (10, .int i79_10)], [.int 2, .int x2], M_18)) rfl ?_
                  refine ml_if2 (S1 := (175, [(0, .ref m0), (2, .int x2), (3, .int x3), (4, .int (f2 f x1)), (5, .int i18_5), (6, .int i18_6), (7, .int i18_7), (8, .int (Int64.toInt32 (f4 f (i18_5 + 2)))), (10, .int i79_10)], [], M_18)) (S2 := (165, [(0, .ref m0), (2, .int x2), (3, .int x3), (4, .int (f2 f x1)), (5, .int i18_5), (6, .int i18_6), (7, .int i18_7), (8, .int (Int64.toInt32 (f4 f (i18_5 + 2)))), (10, .int i79_10)], [], M_18)) rfl rfl rfl (fun c_162 => ?_) (fun c_162 => ?_)
                  rotate_left
                  · exact absurd ((by rw [hw]; decide : ¬ x2 = 2)) (of_decide_eq_false c_162)
                  refine ml_blk 2 (S' := (177, [(0, .ref m0), (2, .int x2), (3, .int x3), (4, .int (f2 f x1)), (5, .int i18_5), (6, .int i18_6), (7, .int i18_7), (8, .int (Int64.toInt32 (f4 f (i18_5 + 2)))), (10, .int i79_10)], [.int 4, .int x2], M_18)) rfl ?_
                  refine ml_if2 (S1 := (190, [(0, .ref m0), (2, .int x2), (3, .int x3), (4, .int (f2 f x1)), (5, .int i18_5), (6, .int i18_6), (7, .int i18_7), (8, .int (Int64.toInt32 (f4 f (i18_5 + 2)))), (10, .int i79_10)], [], M_18)) (S2 := (180, [(0, .ref m0), (2, .int x2), (3, .int x3), (4, .int (f2 f x1)), (5, .int i18_5), (6, .int i18_6), (7, .int i18_7), (8, .int (Int64.toInt32 (f4 f (i18_5 + 2)))), (10, .int i79_10)], [], M_18)) rfl rfl rfl (fun c_177 => ?_) (fun c_177 => ?_)
                  rotate_left
                  · exact absurd ((by rw [hw]; decide : ¬ x2 = 4)) (of_decide_eq_false c_177)
                  refine ml_blk 3 (S' := (195, [(0, .ref m0), (2, .int x2), (3, .int x3), (4, .int (f2 f x1)), (5, .int i18_5), (6, .int i18_6), (7, .int i18_7), (8, .int (Int64.toInt32 (f4 f (i18_5 + 2)))), (10, .int i79_10)], [.int (i18_6 >>> (i79_10 &&& 31))], M_18)) rfl ?_
                  refine ml_blk 3 (S' := (198, [(0, .ref m0), (2, .int x2), (3, .int x3), (4, .int (f2 f x1)), (5, .int i18_5), (6, .int i18_6), (7, .int i18_7), (8, .int (Int64.toInt32 (f4 f (i18_5 + 2)))), (10, .int i79_10)], [.int 1, .int ((i18_6 >>> (i79_10 &&& 31)) &&& 1)], M_18)) rfl ?_
                  refine ml_if2 (S1 := (212, [(0, .ref m0), (2, .int x2), (3, .int x3), (4, .int (f2 f x1)), (5, .int i18_5), (6, .int i18_6), (7, .int i18_7), (8, .int (Int64.toInt32 (f4 f (i18_5 + 2)))), (10, .int i79_10)], [], M_18)) (S2 := (201, [(0, .ref m0), (2, .int x2), (3, .int x3), (4, .int (f2 f x1)), (5, .int i18_5), (6, .int i18_6), (7, .int i18_7), (8, .int (Int64.toInt32 (f4 f (i18_5 + 2)))), (10, .int i79_10)], [], M_18)) rfl rfl rfl (fun c_198 => ?_) (fun c_198 => ?_)
                  · have c_198 : ¬ ((i18_6 >>> (i79_10 &&& 31)) &&& 1) = 1 := of_decide_eq_true c_198
                    refine ml_blk 3 (S' := (217, [(0, .ref m0), (2, .int x2), (3, .int x3), (4, .int (f2 f x1)), (5, .int i18_5), (6, .int i18_6), (7, .int i18_7), (8, .int (Int64.toInt32 (f4 f (i18_5 + 2)))), (10, .int i79_10)], [.int i18_5, .int i79_10, .ref m0], M_18)) rfl ?_
                    refine ml_blk 3 (S' := (222, [(0, .ref m0), (2, .int x2), (3, .int x3), (4, .int (f2 f x1)), (5, .int i18_5), (6, .int i18_6), (7, .int i18_7), (8, .int (Int64.toInt32 (f4 f (i18_5 + 2)))), (10, .int i79_10)], [.int (i18_5 + 6), .int i18_5, .int i79_10, .ref m0], M_18)) rfl ?_
                    refine ml_blk 3 (S' := (227, [(0, .ref m0), (2, .int x2), (3, .int x3), (4, .int (f2 f x1)), (5, .int i18_5), (6, .int i18_6), (7, .int i18_7), (8, .int (Int64.toInt32 (f4 f (i18_5 + 2)))), (10, .int i79_10)], [.int (i18_5 + 6), .int (i18_5 + 6), .int i18_5, .int i79_10, .ref m0], M_18)) rfl ?_
                    refine ml_blk 3 (S' := (231, [(0, .ref m0), (2, .int x2), (3, .int x3), (4, .int (f2 f x1)), (5, .int i18_5), (6, .int i18_6), (7, .int i18_7), (8, .int (Int64.toInt32 (f4 f (i18_5 + 2)))), (10, .int i79_10)], [.int x3, .int ((i18_5 + 6) + (Int64.toInt32 (f4 f (i18_5 + 2)))), .int (i18_5 + 6), .int i18_5, .int i79_10, .ref m0], M_18)) rfl ?_
                    refine ml_st (S' := (233, [(0, .ref m0), (2, .int x2), (3, .int x3), (4, .int (f2 f x1)), (5, .int i18_5), (6, .int i18_6), (7, .int i18_7), (8, .int (Int64.toInt32 (f4 f (i18_5 + 2)))), (10, .int i79_10)], [.int i18_6, .int x3, .int ((i18_5 + 6) + (Int64.toInt32 (f4 f (i18_5 + 2)))), .int (i18_5 + 6), .int i18_5, .int i79_10, .ref m0], M_18)) rfl rfl rfl ?_
                    refine ml_call (a := [.ref m0, .int i79_10, .int i18_5, .int (i18_5 + 6), .int ((i18_5 + 6) + (Int64.toInt32 (f4 f (i18_5 + 2)))), .int x3, .int i18_6]) (rest := []) rfl (hR_18.okc rfl rfl rfl) rfl rfl (rm_attr3 hR_18 (kin_3 (hwn.2.2.trans hw)) (by omega)) (fun v31 M32 h33 => ?_)
                    obtain ⟨rfl, h33⟩ := h33
                    rw [h33]
                    show ml _ _ _ (236, [(0, .ref m0), (2, .int x2), (3, .int x3), (4, .int (f2 f x1)), (5, .int i18_5), (6, .int i18_6), (7, .int i18_7), (8, .int (Int64.toInt32 (f4 f (i18_5 + 2)))), (10, .int i79_10)], [.int 0], M_18) _
                    refine ml_st (S' := (238, [(11, .int 0), (0, .ref m0), (2, .int x2), (3, .int x3), (4, .int (f2 f x1)), (5, .int i18_5), (6, .int i18_6), (7, .int i18_7), (8, .int (Int64.toInt32 (f4 f (i18_5 + 2)))), (10, .int i79_10)], [], M_18)) rfl rfl rfl ?_
                    refine ml_blk 3 (S' := (243, [(11, .int 0), (0, .ref m0), (2, .int x2), (3, .int x3), (4, .int (f2 f x1)), (5, .int i18_5), (6, .int i18_6), (7, .int i18_7), (8, .int (Int64.toInt32 (f4 f (i18_5 + 2)))), (10, .int i79_10)], [.int i79_10, .int 1, .int i18_6], M_18)) rfl ?_
                    refine ml_blk 2 (S' := (245, [(11, .int 0), (0, .ref m0), (2, .int x2), (3, .int x3), (4, .int (f2 f x1)), (5, .int i18_5), (6, .int i18_6), (7, .int i18_7), (8, .int (Int64.toInt32 (f4 f (i18_5 + 2)))), (10, .int i79_10)], [.int (i18_6 ||| (1 <<< (i79_10 &&& 31)))], M_18)) rfl ?_
                    refine ml_st (S' := (247, [(6, .int (i18_6 ||| (1 <<< (i79_10 &&& 31)))), (11, .int 0), (0, .ref m0), (2, .int x2), (3, .int x3), (4, .int (f2 f x1)), (5, .int i18_5), (7, .int i18_7), (8, .int (Int64.toInt32 (f4 f (i18_5 + 2)))), (10, .int i79_10)], [], M_18)) rfl rfl rfl ?_
                    refine ml_st (S' := (249, [(6, .int (i18_6 ||| (1 <<< (i79_10 &&& 31)))), (11, .int 0), (0, .ref m0), (2, .int x2), (3, .int x3), (4, .int (f2 f x1)), (5, .int i18_5), (7, .int i18_7), (8, .int (Int64.toInt32 (f4 f (i18_5 + 2)))), (10, .int i79_10)], [.int 0], M_18)) rfl rfl rfl ?_
                    refine ml_if (S1 := (261, [(0, .ref m0), (2, .int x2), (3, .int x3), (4, .int (f2 f x1)), (5, .int i18_5), (6, .int (i18_6 ||| (1 <<< (i79_10 &&& 31)))), (7, .int i18_7), (8, .int (Int64.toInt32 (f4 f (i18_5 + 2)))), (11, .int 0)], [], M_18)) (S2 := (252, [(6, .int (i18_6 ||| (1 <<< (i79_10 &&& 31)))), (11, .int 0), (0, .ref m0), (2, .int x2), (3, .int x3), (4, .int (f2 f x1)), (5, .int i18_5), (7, .int i18_7), (8, .int (Int64.toInt32 (f4 f (i18_5 + 2)))), (10, .int i79_10)], [], M_18)) rfl rfl rfl (fun c_249 => ?_) (fun c_249 => ?_)
                    · have c_249 : 0 ≤ 0 := of_decide_eq_true c_249
                      refine ml_st (S' := (263, [(0, .ref m0), (2, .int x2), (3, .int x3), (4, .int (f2 f x1)), (5, .int i18_5), (6, .int (i18_6 ||| (1 <<< (i79_10 &&& 31)))), (7, .int i18_7), (8, .int (Int64.toInt32 (f4 f (i18_5 + 2)))), (11, .int 0)], [.int 0], M_18)) rfl rfl rfl ?_
                      refine ml_if (S1 := (268, [(0, .ref m0), (2, .int x2), (3, .int x3), (4, .int (f2 f x1)), (5, .int i18_5), (6, .int (i18_6 ||| (1 <<< (i79_10 &&& 31)))), (7, .int i18_7), (8, .int (Int64.toInt32 (f4 f (i18_5 + 2))))], [], M_18)) (S2 := (266, [(0, .ref m0), (2, .int x2), (3, .int x3), (4, .int (f2 f x1)), (5, .int i18_5), (6, .int (i18_6 ||| (1 <<< (i79_10 &&& 31)))), (7, .int i18_7), (8, .int (Int64.toInt32 (f4 f (i18_5 + 2)))), (11, .int 0)], [], M_18)) rfl rfl rfl (fun c_263 => ?_) (fun c_263 => ?_)
                      · have c_263 : 0 = 0 := of_decide_eq_true c_263
                        refine ml_blk 3 (S' := (274, [(0, .ref m0), (2, .int x2), (3, .int x3), (4, .int (f2 f x1)), (5, .int i18_5), (6, .int (i18_6 ||| (1 <<< (i79_10 &&& 31)))), (7, .int i18_7), (8, .int (Int64.toInt32 (f4 f (i18_5 + 2))))], [.int (Int64.toInt32 (f4 f (i18_5 + 2))), .int 6, .int i18_5], M_18)) rfl ?_
                        refine ml_blk 2 (S' := (276, [(0, .ref m0), (2, .int x2), (3, .int x3), (4, .int (f2 f x1)), (5, .int i18_5), (6, .int (i18_6 ||| (1 <<< (i79_10 &&& 31)))), (7, .int i18_7), (8, .int (Int64.toInt32 (f4 f (i18_5 + 2))))], [.int (i18_5 + (6 + (Int64.toInt32 (f4 f (i18_5 + 2)))))], M_18)) rfl ?_
                        refine ml_st (S' := (278, [(5, .int (i18_5 + (6 + (Int64.toInt32 (f4 f (i18_5 + 2)))))), (0, .ref m0), (2, .int x2), (3, .int x3), (4, .int (f2 f x1)), (6, .int (i18_6 ||| (1 <<< (i79_10 &&& 31)))), (7, .int i18_7), (8, .int (Int64.toInt32 (f4 f (i18_5 + 2))))], [], M_18)) rfl rfl rfl ?_
                        refine ml_st (S' := (281, [(7, .int (i18_7 + 1)), (5, .int (i18_5 + (6 + (Int64.toInt32 (f4 f (i18_5 + 2)))))), (0, .ref m0), (2, .int x2), (3, .int x3), (4, .int (f2 f x1)), (6, .int (i18_6 ||| (1 <<< (i79_10 &&& 31)))), (8, .int (Int64.toInt32 (f4 f (i18_5 + 2))))], [], M_18)) rfl rfl rfl ?_
                        refine ml_st (S' := (18, [(0, .ref m0), (2, .int x2), (3, .int x3), (4, .int (f2 f x1)), (5, .int (i18_5 + (6 + (Int64.toInt32 (f4 f (i18_5 + 2)))))), (6, .int (i18_6 ||| (1 <<< (i79_10 &&& 31)))), (7, .int (i18_7 + 1))], [], M_18)) rfl rfl rfl ?_
                        exact ih_18 (i18_5 + (6 + (Int64.toInt32 (f4 f (i18_5 + 2))))) (i18_6 ||| (1 <<< (i79_10 &&& 31))) (i18_7 + 1) _ _ _ (loop_inc (Int32.not_le.mp c_22) hn_18) hR_18 (eqI.rf.tr hI_18 (by decide)) (eqR.rf.tr hV_18 (by decide)) (⟨by rw [inc_lt (Int32.not_le.mp c_22)]; omega, by rw [inc_lt (Int32.not_le.mp c_22)]; have := i_nle c_22; omega, hb1.eq hra ▸ hnx⟩)
                      · have c_263 : ¬ (0 = 0) := of_decide_eq_false c_263
                        refine ml_st (S' := (267, [(0, .ref m0), (2, .int x2), (3, .int x3), (4, .int (f2 f x1)), (5, .int i18_5), (6, .int (i18_6 ||| (1 <<< (i79_10 &&& 31)))), (7, .int i18_7), (8, .int (Int64.toInt32 (f4 f (i18_5 + 2)))), (11, .int 0)], [.int (-1)], M_18)) rfl rfl rfl ?_
                        exact ml_ret rfl (rfl) (⟨_, _, _, rfl, hR_18, (eqI.rf.tr hI_18 (by decide)), (eqR.rf.tr hV_18 (by decide)), Or.inl (by decide)⟩)
                    · have c_249 : ¬ (0 ≤ 0) := of_decide_eq_false c_249
                      refine ml_blk 3 (S' := (257, [(6, .int (i18_6 ||| (1 <<< (i79_10 &&& 31)))), (11, .int 0), (0, .ref m0), (2, .int x2), (3, .int x3), (4, .int (f2 f x1)), (5, .int i18_5), (7, .int i18_7), (8, .int (Int64.toInt32 (f4 f (i18_5 + 2)))), (10, .int i79_10)], [.int i18_5, .int 0, .ref m0], M_18)) rfl ?_
                      refine ml_call (a := [.ref m0, .int 0, .int i18_5]) (rest := []) rfl (hR_18.okc rfl rfl rfl) rfl rfl (rm_wrong hR_18 (by omega)) (fun v34 M35 h36 => ?_)
                      obtain ⟨u42, I37, R38, rfl, hR39, hI40, hV41, z43, w44⟩ := h36
                      show ml _ _ _ (260, [(6, .int (i18_6 ||| (1 <<< (i79_10 &&& 31)))), (11, .int 0), (0, .ref m0), (2, .int x2), (3, .int x3), (4, .int (f2 f x1)), (5, .int i18_5), (7, .int i18_7), (8, .int (Int64.toInt32 (f4 f (i18_5 + 2)))), (10, .int i79_10)], [.int u42], M35) _
                      refine ml_st (S' := (261, [(0, .ref m0), (2, .int x2), (3, .int x3), (4, .int (f2 f x1)), (5, .int i18_5), (6, .int (i18_6 ||| (1 <<< (i79_10 &&& 31)))), (7, .int i18_7), (8, .int (Int64.toInt32 (f4 f (i18_5 + 2)))), (11, .int 0)], [], M35)) rfl rfl rfl ?_
                      refine ml_st (S' := (263, [(0, .ref m0), (2, .int x2), (3, .int x3), (4, .int (f2 f x1)), (5, .int i18_5), (6, .int (i18_6 ||| (1 <<< (i79_10 &&& 31)))), (7, .int i18_7), (8, .int (Int64.toInt32 (f4 f (i18_5 + 2)))), (11, .int 0)], [.int 0], M35)) rfl rfl rfl ?_
                      refine ml_if (S1 := (268, [(0, .ref m0), (2, .int x2), (3, .int x3), (4, .int (f2 f x1)), (5, .int i18_5), (6, .int (i18_6 ||| (1 <<< (i79_10 &&& 31)))), (7, .int i18_7), (8, .int (Int64.toInt32 (f4 f (i18_5 + 2))))], [], M35)) (S2 := (266, [(0, .ref m0), (2, .int x2), (3, .int x3), (4, .int (f2 f x1)), (5, .int i18_5), (6, .int (i18_6 ||| (1 <<< (i79_10 &&& 31)))), (7, .int i18_7), (8, .int (Int64.toInt32 (f4 f (i18_5 + 2)))), (11, .int 0)], [], M35)) rfl rfl rfl (fun c_263 => ?_) (fun c_263 => ?_)
                      · have c_263 : 0 = 0 := of_decide_eq_true c_263
                        refine ml_blk 3 (S' := (274, [(0, .ref m0), (2, .int x2), (3, .int x3), (4, .int (f2 f x1)), (5, .int i18_5), (6, .int (i18_6 ||| (1 <<< (i79_10 &&& 31)))), (7, .int i18_7), (8, .int (Int64.toInt32 (f4 f (i18_5 + 2))))], [.int (Int64.toInt32 (f4 f (i18_5 + 2))), .int 6, .int i18_5], M35)) rfl ?_
                        refine ml_blk 2 (S' := (276, [(0, .ref m0), (2, .int x2), (3, .int x3), (4, .int (f2 f x1)), (5, .int i18_5), (6, .int (i18_6 ||| (1 <<< (i79_10 &&& 31)))), (7, .int i18_7), (8, .int (Int64.toInt32 (f4 f (i18_5 + 2))))], [.int (i18_5 + (6 + (Int64.toInt32 (f4 f (i18_5 + 2)))))], M35)) rfl ?_
                        refine ml_st (S' := (278, [(5, .int (i18_5 + (6 + (Int64.toInt32 (f4 f (i18_5 + 2)))))), (0, .ref m0), (2, .int x2), (3, .int x3), (4, .int (f2 f x1)), (6, .int (i18_6 ||| (1 <<< (i79_10 &&& 31)))), (7, .int i18_7), (8, .int (Int64.toInt32 (f4 f (i18_5 + 2))))], [], M35)) rfl rfl rfl ?_
                        refine ml_st (S' := (281, [(7, .int (i18_7 + 1)), (5, .int (i18_5 + (6 + (Int64.toInt32 (f4 f (i18_5 + 2)))))), (0, .ref m0), (2, .int x2), (3, .int x3), (4, .int (f2 f x1)), (6, .int (i18_6 ||| (1 <<< (i79_10 &&& 31)))), (8, .int (Int64.toInt32 (f4 f (i18_5 + 2))))], [], M35)) rfl rfl rfl ?_
                        refine ml_st (S' := (18, [(0, .ref m0), (2, .int x2), (3, .int x3), (4, .int (f2 f x1)), (5, .int (i18_5 + (6 + (Int64.toInt32 (f4 f (i18_5 + 2)))))), (6, .int (i18_6 ||| (1 <<< (i79_10 &&& 31)))), (7, .int (i18_7 + 1))], [], M35)) rfl rfl rfl ?_
                        exact ih_18 (i18_5 + (6 + (Int64.toInt32 (f4 f (i18_5 + 2))))) (i18_6 ||| (1 <<< (i79_10 &&& 31))) (i18_7 + 1) _ _ _ (loop_inc (Int32.not_le.mp c_22) hn_18) hR39 ((eqI.rf.tr hI_18 (by decide)).tr hI40 (by decide)) ((eqR.rf.tr hV_18 (by decide)).tr hV41 (by decide)) (⟨by rw [inc_lt (Int32.not_le.mp c_22)]; omega, by rw [inc_lt (Int32.not_le.mp c_22)]; have := i_nle c_22; omega, hb1.eq hra ▸ hnx⟩)
                      · have c_263 : ¬ (0 = 0) := of_decide_eq_false c_263
                        refine ml_st (S' := (267, [(0, .ref m0), (2, .int x2), (3, .int x3), (4, .int (f2 f x1)), (5, .int i18_5), (6, .int (i18_6 ||| (1 <<< (i79_10 &&& 31)))), (7, .int i18_7), (8, .int (Int64.toInt32 (f4 f (i18_5 + 2)))), (11, .int 0)], [.int (-1)], M35)) rfl rfl rfl ?_
                        exact ml_ret rfl (rfl) (⟨_, _, _, rfl, hR39, ((eqI.rf.tr hI_18 (by decide)).tr hI40 (by decide)), ((eqR.rf.tr hV_18 (by decide)).tr hV41 (by decide)), Or.inl (by decide)⟩)
                  · have c_198 : ¬ (¬ ((i18_6 >>> (i79_10 &&& 31)) &&& 1) = 1) := of_decide_eq_false c_198
                    refine ml_blk 3 (S' := (206, [(0, .ref m0), (2, .int x2), (3, .int x3), (4, .int (f2 f x1)), (5, .int i18_5), (6, .int i18_6), (7, .int i18_7), (8, .int (Int64.toInt32 (f4 f (i18_5 + 2)))), (10, .int i79_10)], [.int i18_5, .int 29, .ref m0], M_18)) rfl ?_
                    refine ml_call (a := [.ref m0, .int 29, .int i18_5]) (rest := []) rfl (hR_18.okc rfl rfl rfl) rfl rfl (rm_wrong hR_18 (by omega)) (fun v45 M46 h47 => ?_)
                    obtain ⟨u53, I48, R49, rfl, hR50, hI51, hV52, z54, w55⟩ := h47
                    show ml _ _ _ (209, [(0, .ref m0), (2, .int x2), (3, .int x3), (4, .int (f2 f x1)), (5, .int i18_5), (6, .int i18_6), (7, .int i18_7), (8, .int (Int64.toInt32 (f4 f (i18_5 + 2)))), (10, .int i79_10)], [.int u53], M46) _
                    refine ml_blk 2 (S' := (211, [(0, .ref m0), (2, .int x2), (3, .int x3), (4, .int (f2 f x1)), (5, .int i18_5), (6, .int i18_6), (7, .int i18_7), (8, .int (Int64.toInt32 (f4 f (i18_5 + 2)))), (10, .int i79_10)], [.int (-1)], M46)) rfl ?_
                    exact ml_ret rfl (rfl) (⟨_, _, _, rfl, hR50, ((eqI.rf.tr hI_18 (by decide)).tr hI51 (by decide)), ((eqR.rf.tr hV_18 (by decide)).tr hV52 (by decide)), Or.inl (by decide)⟩)
              · have c_86 : ¬ ((nI 10) ≤ i79_11) := of_decide_eq_false c_86
                have hjl : i79_11.toInt < 10 := by have q := i_nle c_86; rw [nI_val (by decide)] at q; omega
                refine ml_st (S' := (90, [(0, .ref m0), (2, .int x2), (3, .int x3), (4, .int (f2 f x1)), (5, .int i18_5), (6, .int i18_6), (7, .int i18_7), (8, .int (Int64.toInt32 (f4 f (i18_5 + 2)))), (9, .int (pyf py (f2 f i18_5))), (10, .int i79_10), (11, .int i79_11)], [.ref m0], M_18)) rfl rfl rfl ?_
                refine rg_ref (S' := (93, [(0, .ref m0), (2, .int x2), (3, .int x3), (4, .int (f2 f x1)), (5, .int i18_5), (6, .int i18_6), (7, .int i18_7), (8, .int (Int64.toInt32 (f4 f (i18_5 + 2)))), (9, .int (pyf py (f2 f i18_5))), (10, .int i79_10), (11, .int i79_11)], [.ref (q 63)], M_18)) rfl hR_18 rfl rfl ?_
                refine ml_st (S' := (95, [(0, .ref m0), (2, .int x2), (3, .int x3), (4, .int (f2 f x1)), (5, .int i18_5), (6, .int i18_6), (7, .int i18_7), (8, .int (Int64.toInt32 (f4 f (i18_5 + 2)))), (9, .int (pyf py (f2 f i18_5))), (10, .int i79_10), (11, .int i79_11)], [.int i79_11, .ref (q 63)], M_18)) rfl rfl rfl ?_
                have hK56 : KW I_18 R_18 := (hK.mono (cIx hI_18 (by decide)) (cRx hV_18 (by decide)))
                refine ra_ld (k := 63) (S' := (96, [(0, .ref m0), (2, .int x2), (3, .int x3), (4, .int (f2 f x1)), (5, .int i18_5), (6, .int i18_6), (7, .int i18_7), (8, .int (Int64.toInt32 (f4 f (i18_5 + 2)))), (9, .int (pyf py (f2 f i18_5))), (10, .int i79_10), (11, .int i79_11)], [.int (kin i79_11)], M_18)) rfl hR_18 rfl (vin_lt hj0 (by omega)) (hK56.1 i79_11 hj0 hjl) rfl ?_
                refine ml_st (S' := (97, [(0, .ref m0), (2, .int x2), (3, .int x3), (4, .int (f2 f x1)), (5, .int i18_5), (6, .int i18_6), (7, .int i18_7), (8, .int (Int64.toInt32 (f4 f (i18_5 + 2)))), (9, .int (pyf py (f2 f i18_5))), (10, .int i79_10), (11, .int i79_11)], [.int x2, .int (kin i79_11)], M_18)) rfl rfl rfl ?_
                refine ml_if2 (S1 := (134, [(0, .ref m0), (2, .int x2), (3, .int x3), (4, .int (f2 f x1)), (5, .int i18_5), (6, .int i18_6), (7, .int i18_7), (8, .int (Int64.toInt32 (f4 f (i18_5 + 2)))), (9, .int (pyf py (f2 f i18_5))), (10, .int i79_10), (11, .int i79_11)], [], M_18)) (S2 := (100, [(0, .ref m0), (2, .int x2), (3, .int x3), (4, .int (f2 f x1)), (5, .int i18_5), (6, .int i18_6), (7, .int i18_7), (8, .int (Int64.toInt32 (f4 f (i18_5 + 2)))), (9, .int (pyf py (f2 f i18_5))), (10, .int i79_10), (11, .int i79_11)], [], M_18)) rfl rfl rfl (fun c_97 => ?_) (fun c_97 => ?_)
                · have c_97 : ¬ (kin i79_11) = x2 := of_decide_eq_true c_97
                  refine ml_st (S' := (137, [(11, .int (i79_11 + 1)), (0, .ref m0), (2, .int x2), (3, .int x3), (4, .int (f2 f x1)), (5, .int i18_5), (6, .int i18_6), (7, .int i18_7), (8, .int (Int64.toInt32 (f4 f (i18_5 + 2)))), (9, .int (pyf py (f2 f i18_5))), (10, .int i79_10)], [], M_18)) rfl rfl rfl ?_
                  refine ml_st (S' := (79, [(0, .ref m0), (2, .int x2), (3, .int x3), (4, .int (f2 f x1)), (5, .int i18_5), (6, .int i18_6), (7, .int i18_7), (8, .int (Int64.toInt32 (f4 f (i18_5 + 2)))), (9, .int (pyf py (f2 f i18_5))), (10, .int i79_10), (11, .int (i79_11 + 1))], [], M_18)) rfl rfl rfl ?_
                  exact ih_79 i79_10 (i79_11 + 1) (loop_inc (Int32.not_le.mp c_86) hn_79) (⟨by rw [inc_lt (Int32.not_le.mp c_86)]; omega, hjw⟩)
                · have c_97 : ¬ (¬ (kin i79_11) = x2) := of_decide_eq_false c_97
                  refine ml_st (S' := (101, [(0, .ref m0), (2, .int x2), (3, .int x3), (4, .int (f2 f x1)), (5, .int i18_5), (6, .int i18_6), (7, .int i18_7), (8, .int (Int64.toInt32 (f4 f (i18_5 + 2)))), (9, .int (pyf py (f2 f i18_5))), (10, .int i79_10), (11, .int i79_11)], [.ref m0], M_18)) rfl rfl rfl ?_
                  refine rg_int (S' := (104, [(0, .ref m0), (2, .int x2), (3, .int x3), (4, .int (f2 f x1)), (5, .int i18_5), (6, .int i18_6), (7, .int i18_7), (8, .int (Int64.toInt32 (f4 f (i18_5 + 2)))), (9, .int (pyf py (f2 f i18_5))), (10, .int i79_10), (11, .int i79_11)], [.int mj], M_18)) rfl hR_18 rfl ((hI_18 53 (by decide)).trans (hP.2.2.1)) rfl ?_
                  refine ml_st (S' := (105, [(0, .ref m0), (2, .int x2), (3, .int x3), (4, .int (f2 f x1)), (5, .int i18_5), (6, .int i18_6), (7, .int i18_7), (8, .int (Int64.toInt32 (f4 f (i18_5 + 2)))), (9, .int (pyf py (f2 f i18_5))), (10, .int i79_10), (11, .int i79_11)], [.ref m0, .int mj], M_18)) rfl rfl rfl ?_
                  refine rg_ref (S' := (108, [(0, .ref m0), (2, .int x2), (3, .int x3), (4, .int (f2 f x1)), (5, .int i18_5), (6, .int i18_6), (7, .int i18_7), (8, .int (Int64.toInt32 (f4 f (i18_5 + 2)))), (9, .int (pyf py (f2 f i18_5))), (10, .int i79_10), (11, .int i79_11)], [.ref (q 64), .int mj], M_18)) rfl hR_18 rfl rfl ?_
                  refine ml_st (S' := (110, [(0, .ref m0), (2, .int x2), (3, .int x3), (4, .int (f2 f x1)), (5, .int i18_5), (6, .int i18_6), (7, .int i18_7), (8, .int (Int64.toInt32 (f4 f (i18_5 + 2)))), (9, .int (pyf py (f2 f i18_5))), (10, .int i79_10), (11, .int i79_11)], [.int i79_11, .ref (q 64), .int mj], M_18)) rfl rfl rfl ?_
                  obtain ⟨v110, hv110⟩ := hK56.2 i79_11 hj0 hjl
                  refine ra_ld (k := 64) (S' := (111, [(0, .ref m0), (2, .int x2), (3, .int x3), (4, .int (f2 f x1)), (5, .int i18_5), (6, .int i18_6), (7, .int i18_7), (8, .int (Int64.toInt32 (f4 f (i18_5 + 2)))), (9, .int (pyf py (f2 f i18_5))), (10, .int i79_10), (11, .int i79_11)], [.int v110, .int mj], M_18)) rfl hR_18 rfl (vin_lt hj0 (by omega)) (hv110) rfl ?_
                  refine ml_if2 (S1 := (134, [(0, .ref m0), (2, .int x2), (3, .int x3), (4, .int (f2 f x1)), (5, .int i18_5), (6, .int i18_6), (7, .int i18_7), (8, .int (Int64.toInt32 (f4 f (i18_5 + 2)))), (9, .int (pyf py (f2 f i18_5))), (10, .int i79_10), (11, .int i79_11)], [], M_18)) (S2 := (114, [(0, .ref m0), (2, .int x2), (3, .int x3), (4, .int (f2 f x1)), (5, .int i18_5), (6, .int i18_6), (7, .int i18_7), (8, .int (Int64.toInt32 (f4 f (i18_5 + 2)))), (9, .int (pyf py (f2 f i18_5))), (10, .int i79_10), (11, .int i79_11)], [], M_18)) rfl rfl rfl (fun c_111 => ?_) (fun c_111 => ?_)
                  · have c_111 : mj < v110 := of_decide_eq_true c_111
                    refine ml_st (S' := (137, [(11, .int (i79_11 + 1)), (0, .ref m0), (2, .int x2), (3, .int x3), (4, .int (f2 f x1)), (5, .int i18_5), (6, .int i18_6), (7, .int i18_7), (8, .int (Int64.toInt32 (f4 f (i18_5 + 2)))), (9, .int (pyf py (f2 f i18_5))), (10, .int i79_10)], [], M_18)) rfl rfl rfl ?_
                    refine ml_st (S' := (79, [(0, .ref m0), (2, .int x2), (3, .int x3), (4, .int (f2 f x1)), (5, .int i18_5), (6, .int i18_6), (7, .int i18_7), (8, .int (Int64.toInt32 (f4 f (i18_5 + 2)))), (9, .int (pyf py (f2 f i18_5))), (10, .int i79_10), (11, .int (i79_11 + 1))], [], M_18)) rfl rfl rfl ?_
                    exact ih_79 i79_10 (i79_11 + 1) (loop_inc (Int32.not_le.mp c_86) hn_79) (⟨by rw [inc_lt (Int32.not_le.mp c_86)]; omega, hjw⟩)
                  · have c_111 : ¬ (mj < v110) := of_decide_eq_false c_111
                    refine ml_blk 3 (S' := (118, [(0, .ref m0), (2, .int x2), (3, .int x3), (4, .int (f2 f x1)), (5, .int i18_5), (6, .int i18_6), (7, .int i18_7), (8, .int (Int64.toInt32 (f4 f (i18_5 + 2)))), (9, .int (pyf py (f2 f i18_5))), (10, .int i79_10), (11, .int i79_11)], [.ref m0, .int (pyf py (f2 f i18_5)), .ref m0], M_18)) rfl ?_
                    refine rg_ref (S' := (121, [(0, .ref m0), (2, .int x2), (3, .int x3), (4, .int (f2 f x1)), (5, .int i18_5), (6, .int i18_6), (7, .int i18_7), (8, .int (Int64.toInt32 (f4 f (i18_5 + 2)))), (9, .int (pyf py (f2 f i18_5))), (10, .int i79_10), (11, .int i79_11)], [.ref (q 62), .int (pyf py (f2 f i18_5)), .ref m0], M_18)) rfl hR_18 rfl rfl ?_
                    refine ml_st (S' := (123, [(0, .ref m0), (2, .int x2), (3, .int x3), (4, .int (f2 f x1)), (5, .int i18_5), (6, .int i18_6), (7, .int i18_7), (8, .int (Int64.toInt32 (f4 f (i18_5 + 2)))), (9, .int (pyf py (f2 f i18_5))), (10, .int i79_10), (11, .int i79_11)], [.int i79_11, .ref (q 62), .int (pyf py (f2 f i18_5)), .ref m0], M_18)) rfl rfl rfl ?_
                    refine ra_kn (S' := (124, [(0, .ref m0), (2, .int x2), (3, .int x3), (4, .int (f2 f x1)), (5, .int i18_5), (6, .int i18_6), (7, .int i18_7), (8, .int (Int64.toInt32 (f4 f (i18_5 + 2)))), (9, .int (pyf py (f2 f i18_5))), (10, .int i79_10), (11, .int i79_11)], [.ref (g.2.1 (15 + Int32.toNatClampNeg i79_11)), .int (pyf py (f2 f i18_5)), .ref m0], M_18)) rfl hR_18 hj0 hjl rfl ?_
                    have hY57 : SK S cN sa sl ch I_18 R_18 := (hY.mono (cIx hI_18 (by decide)) (cRx hV_18 (by decide)))
                    refine ml_call (a := [.ref m0, .int (pyf py (f2 f i18_5)), .ref (g.2.1 (15 + Int32.toNatClampNeg i79_11))]) (rest := []) rfl (hR_18.okc rfl rfl rfl) rfl rfl (rm_is hR_18 hY57 (hy9.2.2.1) (hy9.2.2.2) (by show 15 ≤ 15 + i79_11.toInt.toNat ∧ 15 + i79_11.toInt.toNat < 30; omega) (by omega)) (fun v58 M59 h60 => ?_)
                    obtain ⟨⟨u61, rfl, z62⟩, h60⟩ := h60
                    rw [h60]
                    show ml _ _ _ (127, [(0, .ref m0), (2, .int x2), (3, .int x3), (4, .int (f2 f x1)), (5, .int i18_5), (6, .int i18_6), (7, .int i18_7), (8, .int (Int64.toInt32 (f4 f (i18_5 + 2)))), (9, .int (pyf py (f2 f i18_5))), (10, .int i79_10), (11, .int i79_11)], [.int u61], M_18) _
                    refine ml_if (S1 := (134, [(0, .ref m0), (2, .int x2), (3, .int x3), (4, .int (f2 f x1)), (5, .int i18_5), (6, .int i18_6), (7, .int i18_7), (8, .int (Int64.toInt32 (f4 f (i18_5 + 2)))), (9, .int (pyf py (f2 f i18_5))), (10, .int i79_10), (11, .int i79_11)], [], M_18)) (S2 := (130, [(0, .ref m0), (2, .int x2), (3, .int x3), (4, .int (f2 f x1)), (5, .int i18_5), (6, .int i18_6), (7, .int i18_7), (8, .int (Int64.toInt32 (f4 f (i18_5 + 2)))), (9, .int (pyf py (f2 f i18_5))), (10, .int i79_10), (11, .int i79_11)], [], M_18)) rfl rfl rfl (fun c_127 => ?_) (fun c_127 => ?_)
                    · have c_127 : u61 = 0 := of_decide_eq_true c_127
                      refine ml_st (S' := (137, [(11, .int (i79_11 + 1)), (0, .ref m0), (2, .int x2), (3, .int x3), (4, .int (f2 f x1)), (5, .int i18_5), (6, .int i18_6), (7, .int i18_7), (8, .int (Int64.toInt32 (f4 f (i18_5 + 2)))), (9, .int (pyf py (f2 f i18_5))), (10, .int i79_10)], [], M_18)) rfl rfl rfl ?_
                      refine ml_st (S' := (79, [(0, .ref m0), (2, .int x2), (3, .int x3), (4, .int (f2 f x1)), (5, .int i18_5), (6, .int i18_6), (7, .int i18_7), (8, .int (Int64.toInt32 (f4 f (i18_5 + 2)))), (9, .int (pyf py (f2 f i18_5))), (10, .int i79_10), (11, .int (i79_11 + 1))], [], M_18)) rfl rfl rfl ?_
                      exact ih_79 i79_10 (i79_11 + 1) (loop_inc (Int32.not_le.mp c_86) hn_79) (⟨by rw [inc_lt (Int32.not_le.mp c_86)]; omega, hjw⟩)
                    · have c_127 : ¬ (u61 = 0) := of_decide_eq_false c_127
                      refine ml_st (S' := (132, [(0, .ref m0), (2, .int x2), (3, .int x3), (4, .int (f2 f x1)), (5, .int i18_5), (6, .int i18_6), (7, .int i18_7), (8, .int (Int64.toInt32 (f4 f (i18_5 + 2)))), (9, .int (pyf py (f2 f i18_5))), (10, .int i79_10), (11, .int i79_11)], [.int i79_11], M_18)) rfl rfl rfl ?_
                      refine ml_st (S' := (134, [(0, .ref m0), (2, .int x2), (3, .int x3), (4, .int (f2 f x1)), (5, .int i18_5), (6, .int i18_6), (7, .int i18_7), (8, .int (Int64.toInt32 (f4 f (i18_5 + 2)))), (9, .int (pyf py (f2 f i18_5))), (10, .int i79_11), (11, .int i79_11)], [], M_18)) rfl rfl rfl ?_
                      refine ml_st (S' := (137, [(11, .int (i79_11 + 1)), (0, .ref m0), (2, .int x2), (3, .int x3), (4, .int (f2 f x1)), (5, .int i18_5), (6, .int i18_6), (7, .int i18_7), (8, .int (Int64.toInt32 (f4 f (i18_5 + 2)))), (9, .int (pyf py (f2 f i18_5))), (10, .int i79_11)], [], M_18)) rfl rfl rfl ?_
                      refine ml_st (S' := (79, [(0, .ref m0), (2, .int x2), (3, .int x3), (4, .int (f2 f x1)), (5, .int i18_5), (6, .int i18_6), (7, .int i18_7), (8, .int (Int64.toInt32 (f4 f (i18_5 + 2)))), (9, .int (pyf py (f2 f i18_5))), (10, .int i79_11), (11, .int (i79_11 + 1))], [], M_18)) rfl rfl rfl ?_
                      exact ih_79 i79_11 (i79_11 + 1) (loop_inc (Int32.not_le.mp c_86) hn_79) (⟨by rw [inc_lt (Int32.not_le.mp c_86)]; omega, Or.inr ⟨hj0, hjl, Decidable.not_not.mp c_97⟩⟩)
          exact L_79 _ (-1) 0 (Nat.le_refl _) (⟨by decide, Or.inl (by decide)⟩)
        · have c_47 : ¬ ((tgf f cp pa (f2 f i18_5)) = 1) := of_decide_eq_false c_47
          refine ml_blk 3 (S' := (55, [(8, .int (Int64.toInt32 (f4 f (i18_5 + 2)))), (0, .ref m0), (2, .int x2), (3, .int x3), (4, .int (f2 f x1)), (5, .int i18_5), (6, .int i18_6), (7, .int i18_7)], [.int i18_5, .int 28, .ref m0], M_18)) rfl ?_
          refine ml_call (a := [.ref m0, .int 28, .int i18_5]) (rest := []) rfl (hR_18.okc rfl rfl rfl) rfl rfl (rm_wrong hR_18 (by omega)) (fun v63 M64 h65 => ?_)
          obtain ⟨u71, I66, R67, rfl, hR68, hI69, hV70, z72, w73⟩ := h65
          show ml _ _ _ (58, [(8, .int (Int64.toInt32 (f4 f (i18_5 + 2)))), (0, .ref m0), (2, .int x2), (3, .int x3), (4, .int (f2 f x1)), (5, .int i18_5), (6, .int i18_6), (7, .int i18_7)], [.int u71], M64) _
          refine ml_blk 2 (S' := (60, [(8, .int (Int64.toInt32 (f4 f (i18_5 + 2)))), (0, .ref m0), (2, .int x2), (3, .int x3), (4, .int (f2 f x1)), (5, .int i18_5), (6, .int i18_6), (7, .int i18_7)], [.int (-1)], M64)) rfl ?_
          exact ml_ret rfl (rfl) (⟨_, _, _, rfl, hR68, ((eqI.rf.tr hI_18 (by decide)).tr hI69 (by decide)), ((eqR.rf.tr hV_18 (by decide)).tr hV70 (by decide)), Or.inl (by decide)⟩)
  exact L_18 _ (x1 + 2) 0 0 _ _ _ (Nat.le_refl _) hR eqI.rf eqR.rf (⟨by decide, by show (0 : Int) ≤ _; exact f2_pos, by rw [show ((f2 f x1).toInt - (0 : Int32).toInt).toNat = (f2 f x1).toInt.toNat by have : (0 : Int32).toInt = 0 := rfl; omega]; exact hat.2.2.1⟩)
end
section
theorem code_of {f : Nat → Int32} {n : Nat} {p e : Int32} (hn : n ≤ 65540) (h0 : 0 ≤ p.toInt) (h1 : p.toInt + 8 + (f4 f (p + 4)).toInt ≤ n) : (Int64.toInt32 (f4 f (p + 4))).toInt = (f4 f (p + 4)).toInt ∧ (p + 8 + Int64.toInt32 (f4 f (p + 4))).toInt = p.toInt + 8 + (f4 f (p + 4)).toInt := by
  have hp := f4_pos (f := f) (x := p + 4)
  have e8 : (8 : Int32).toInt = 8 := rfl
  have di : (Int64.toInt32 (f4 f (p + 4))).toInt = (f4 f (p + 4)).toInt := i_of (by omega) (by omega)
  have d8 : (p + 8).toInt = p.toInt + 8 := by rw [i_add (by omega) (by omega), e8]
  exact ⟨di, by rw [i_add (by omega) (by omega), di, d8]⟩

set_option maxHeartbeats 2000000 in
theorem rm_code {g : xe_G}  {m0 : Nat} {q : Nat → Nat} {z : Nat × Nat} {I : rI} {R : rR} {M : mi_H} {x1 x2 x3 x4 : Int32} {n : Nat} {f : Nat → Int32} {S cN : Nat} {sa sl ch : Nat → Int32} {cp mj : Int32} {pa py : Nat → Int32} {fl ds : Int32}  (hR : RS g m0 q z I R M) (hF : FK n f I R) (hY : SK S cN sa sl ch I R) (hP : PK n f S cp mj pa py I R) (hK : KW I R) (h0 : 0 ≤ x2.toInt) (h1 : x2.toInt ≤ x3.toInt) (h2 : x3.toInt ≤ n) (ho0 : 0 ≤ x4.toInt) (ho1 : x4.toInt < 8300) (hfl : R 34 x4.toNatClampNeg = some fl) (hds : R 36 x4.toNatClampNeg = some ds) (hd0 : 0 ≤ ds.toInt) (hd1 : ds.toInt < S) (hmt : MTX sa sl ch ds) (hmc : MCD f n x4.toNatClampNeg R) (hkn : kn [38, 39, 40, 42, 43, 44] x4.toNatClampNeg R) {d : Nat} (hd : 5 ≤ d) : mt (mT g) d 196 [.ref m0, .int x1, .int x2, .int x3, .int x4] M (fun v M' => ∃ (x : Int32) (I' : rI) (R' : rR), v = some (.int x) ∧ RS g m0 q z I' R' M' ∧ eqI [47, 48] I I' ∧ eqR [37, 38, 39, 40, 41, 42] R R' ∧ pw x4.toNatClampNeg R R' ∧ MCD f n x4.toNatClampNeg R' ∧ kn [38, 39, 40, 42, 43, 44] x4.toNatClampNeg R') := by
  obtain ⟨d, rfl⟩ : ∃ e, d = e + 1 := ⟨d - 1, by omega⟩
  refine mt_in (b := mb_196 g) rfl rfl ?_
  show ml (mT g) d (mb_196 g).2 (0, [(0, .ref m0), (1, .int x1), (2, .int x2), (3, .int x3), (4, .int x4)], [], M) _
  have hn := hF.1
  refine ml_blk 3 (S' := (3, [(0, .ref m0), (1, .int x1), (2, .int x2), (3, .int x3), (4, .int x4)], [.int (x3 - x2)], M)) rfl ?_
  refine ml_st (S' := (5, [(0, .ref m0), (1, .int x1), (2, .int x2), (3, .int x3), (4, .int x4)], [.int 8, .int (x3 - x2)], M)) rfl rfl rfl ?_
  refine ml_if2 (S1 := (11, [(0, .ref m0), (1, .int x1), (2, .int x2), (3, .int x3), (4, .int x4)], [], M)) (S2 := (8, [(0, .ref m0), (1, .int x1), (2, .int x2), (3, .int x3), (4, .int x4)], [], M)) rfl rfl rfl (fun c_5 => ?_) (fun c_5 => ?_)
  · have c_5 : 8 ≤ (x3 - x2) := of_decide_eq_true c_5
    have hd8 := i_le c_5
    rw [i_sub (by omega) (by omega)] at hd8
    have i8_ : (8 : Int32).toInt = 8 := rfl
    have i2_ : (2 : Int32).toInt = 2 := rfl
    have e4 : (x2 + 4).toInt = x2.toInt + 4 := i_add (by have : (4 : Int32).toInt = 4 := rfl; omega) (by have : (4 : Int32).toInt = 4 := rfl; omega)
    have e2 : (x2 + 2).toInt = x2.toInt + 2 := i_add (by have : (2 : Int32).toInt = 2 := rfl; omega) (by have : (2 : Int32).toInt = 2 := rfl; omega)
    have hl0 := f4_pos (f := f) (x := x2 + 4)
    refine ml_blk 3 (S' := (14, [(0, .ref m0), (1, .int x1), (2, .int x2), (3, .int x3), (4, .int x4)], [.int 4, .int x2, .ref m0], M)) rfl ?_
    refine ml_st (S' := (15, [(0, .ref m0), (1, .int x1), (2, .int x2), (3, .int x3), (4, .int x4)], [.int (x2 + 4), .ref m0], M)) rfl rfl rfl ?_
    refine ml_call (a := [.ref m0, .int (x2 + 4)]) (rest := []) rfl (hR.okc rfl rfl rfl) rfl rfl (rm_u4 hR hF (by omega) (by omega) (by omega)) (fun v11 M12 h13 => ?_)
    obtain ⟨rfl, h13⟩ := h13
    rw [h13]
    show ml _ _ _ (18, [(0, .ref m0), (1, .int x1), (2, .int x2), (3, .int x3), (4, .int x4)], [.long (f4 f (x2 + 4))], M) _
    refine ml_st (S' := (20, [(5, .long (f4 f (x2 + 4))), (0, .ref m0), (1, .int x1), (2, .int x2), (3, .int x3), (4, .int x4)], [], M)) rfl rfl rfl ?_
    refine ml_blk 3 (S' := (24, [(5, .long (f4 f (x2 + 4))), (0, .ref m0), (1, .int x1), (2, .int x2), (3, .int x3), (4, .int x4)], [.int x2, .int x3, .long (f4 f (x2 + 4))], M)) rfl ?_
    refine ml_blk 3 (S' := (28, [(5, .long (f4 f (x2 + 4))), (0, .ref m0), (1, .int x1), (2, .int x2), (3, .int x3), (4, .int x4)], [.int ((x3 - x2) - 8), .long (f4 f (x2 + 4))], M)) rfl ?_
    refine ml_blk 2 (S' := (30, [(5, .long (f4 f (x2 + 4))), (0, .ref m0), (1, .int x1), (2, .int x2), (3, .int x3), (4, .int x4)], [.int (lg_cmp (f4 f (x2 + 4)) (Int32.toInt64 ((x3 - x2) - 8)))], M)) rfl ?_
    refine ml_if (S1 := (36, [(5, .long (f4 f (x2 + 4))), (0, .ref m0), (1, .int x1), (2, .int x2), (3, .int x3), (4, .int x4)], [], M)) (S2 := (33, [(5, .long (f4 f (x2 + 4))), (0, .ref m0), (1, .int x1), (2, .int x2), (3, .int x3), (4, .int x4)], [], M)) rfl rfl rfl (fun c_30 => ?_) (fun c_30 => ?_)
    · have c_30 : (lg_cmp (f4 f (x2 + 4)) (Int32.toInt64 ((x3 - x2) - 8))) ≤ 0 := of_decide_eq_true c_30
      have hl1 := lc_le c_30
      rw [l_of, i_sub (by rw [i_sub (by omega) (by omega)]; omega) (by rw [i_sub (by omega) (by omega)]; omega), i_sub (by omega) (by omega)] at hl1
      have hco := code_of (f := f) (e := x3) hn h0 (by omega)
      obtain ⟨hdi, hq1⟩ := hco
      have hqr : ((x2 + 8 + Int64.toInt32 (f4 f (x2 + 4))) + 2).toInt = x2.toInt + 10 + (f4 f (x2 + 4)).toInt := by rw [i_add (by omega) (by omega), hq1]; omega
      refine ml_blk 3 (S' := (40, [(5, .long (f4 f (x2 + 4))), (0, .ref m0), (1, .int x1), (2, .int x2), (3, .int x3), (4, .int x4)], [.int (x2 + 8)], M)) rfl ?_
      refine ml_blk 3 (S' := (44, [(5, .long (f4 f (x2 + 4))), (0, .ref m0), (1, .int x1), (2, .int x2), (3, .int x3), (4, .int x4)], [.int ((x2 + 8) + (Int64.toInt32 (f4 f (x2 + 4))))], M)) rfl ?_
      refine ml_st (S' := (46, [(7, .int ((x2 + 8) + (Int64.toInt32 (f4 f (x2 + 4))))), (5, .long (f4 f (x2 + 4))), (0, .ref m0), (1, .int x1), (2, .int x2), (3, .int x3), (4, .int x4)], [], M)) rfl rfl rfl ?_
      refine ml_blk 3 (S' := (50, [(7, .int ((x2 + 8) + (Int64.toInt32 (f4 f (x2 + 4))))), (5, .long (f4 f (x2 + 4))), (0, .ref m0), (1, .int x1), (2, .int x2), (3, .int x3), (4, .int x4)], [.int (((x2 + 8) + (Int64.toInt32 (f4 f (x2 + 4)))) + 2)], M)) rfl ?_
      refine ml_st (S' := (51, [(7, .int ((x2 + 8) + (Int64.toInt32 (f4 f (x2 + 4))))), (5, .long (f4 f (x2 + 4))), (0, .ref m0), (1, .int x1), (2, .int x2), (3, .int x3), (4, .int x4)], [.int x3, .int (((x2 + 8) + (Int64.toInt32 (f4 f (x2 + 4)))) + 2)], M)) rfl rfl rfl ?_
      refine ml_if2 (S1 := (57, [(7, .int ((x2 + 8) + (Int64.toInt32 (f4 f (x2 + 4))))), (5, .long (f4 f (x2 + 4))), (0, .ref m0), (1, .int x1), (2, .int x2), (3, .int x3), (4, .int x4)], [], M)) (S2 := (54, [(7, .int ((x2 + 8) + (Int64.toInt32 (f4 f (x2 + 4))))), (5, .long (f4 f (x2 + 4))), (0, .ref m0), (1, .int x1), (2, .int x2), (3, .int x3), (4, .int x4)], [], M)) rfl rfl rfl (fun c_51 => ?_) (fun c_51 => ?_)
      · have c_51 : (((x2 + 8) + (Int64.toInt32 (f4 f (x2 + 4)))) + 2) ≤ x3 := of_decide_eq_true c_51
        have hq2 := i_le c_51
        rw [hqr] at hq2
        have hr0 := f2_pos (f := f) (x := (x2 + 8 + Int64.toInt32 (f4 f (x2 + 4))))
        have hr1 := f2_le (f := f) (x := (x2 + 8 + Int64.toInt32 (f4 f (x2 + 4))))
        have h8r := eight_k (k := (f2 f (x2 + 8 + Int64.toInt32 (f4 f (x2 + 4))))) hr0 (by omega)
        have hq3 : (((x2 + 8 + Int64.toInt32 (f4 f (x2 + 4))) + 2) + 8 * (f2 f (x2 + 8 + Int64.toInt32 (f4 f (x2 + 4))))).toInt = x2.toInt + 10 + (f4 f (x2 + 4)).toInt + 8 * (f2 f (x2 + 8 + Int64.toInt32 (f4 f (x2 + 4)))).toInt := by rw [i_add (by omega) (by omega), h8r, hqr]
        refine ml_blk 2 (S' := (60, [(7, .int ((x2 + 8) + (Int64.toInt32 (f4 f (x2 + 4))))), (5, .long (f4 f (x2 + 4))), (0, .ref m0), (1, .int x1), (2, .int x2), (3, .int x3), (4, .int x4)], [.int ((x2 + 8) + (Int64.toInt32 (f4 f (x2 + 4)))), .ref m0], M)) rfl ?_
        refine ml_call (a := [.ref m0, .int ((x2 + 8) + (Int64.toInt32 (f4 f (x2 + 4))))]) (rest := []) rfl (hR.okc rfl rfl rfl) rfl rfl (rm_u2 hR hF (by omega) (by omega) (by omega)) (fun v14 M15 h16 => ?_)
        obtain ⟨rfl, h16⟩ := h16
        rw [h16]
        show ml _ _ _ (63, [(7, .int ((x2 + 8) + (Int64.toInt32 (f4 f (x2 + 4))))), (5, .long (f4 f (x2 + 4))), (0, .ref m0), (1, .int x1), (2, .int x2), (3, .int x3), (4, .int x4)], [.int (f2 f ((x2 + 8) + (Int64.toInt32 (f4 f (x2 + 4)))))], M) _
        refine ml_st (S' := (65, [(8, .int (f2 f ((x2 + 8) + (Int64.toInt32 (f4 f (x2 + 4)))))), (7, .int ((x2 + 8) + (Int64.toInt32 (f4 f (x2 + 4))))), (5, .long (f4 f (x2 + 4))), (0, .ref m0), (1, .int x1), (2, .int x2), (3, .int x3), (4, .int x4)], [], M)) rfl rfl rfl ?_
        refine ml_blk 3 (S' := (69, [(8, .int (f2 f ((x2 + 8) + (Int64.toInt32 (f4 f (x2 + 4)))))), (7, .int ((x2 + 8) + (Int64.toInt32 (f4 f (x2 + 4))))), (5, .long (f4 f (x2 + 4))), (0, .ref m0), (1, .int x1), (2, .int x2), (3, .int x3), (4, .int x4)], [.int (((x2 + 8) + (Int64.toInt32 (f4 f (x2 + 4)))) + 2)], M)) rfl ?_
        refine ml_st (S' := (71, [(9, .int (((x2 + 8) + (Int64.toInt32 (f4 f (x2 + 4)))) + 2)), (8, .int (f2 f ((x2 + 8) + (Int64.toInt32 (f4 f (x2 + 4)))))), (7, .int ((x2 + 8) + (Int64.toInt32 (f4 f (x2 + 4))))), (5, .long (f4 f (x2 + 4))), (0, .ref m0), (1, .int x1), (2, .int x2), (3, .int x3), (4, .int x4)], [], M)) rfl rfl rfl ?_
        refine ml_blk 3 (S' := (77, [(9, .int (((x2 + 8) + (Int64.toInt32 (f4 f (x2 + 4)))) + 2)), (8, .int (f2 f ((x2 + 8) + (Int64.toInt32 (f4 f (x2 + 4)))))), (7, .int ((x2 + 8) + (Int64.toInt32 (f4 f (x2 + 4))))), (5, .long (f4 f (x2 + 4))), (0, .ref m0), (1, .int x1), (2, .int x2), (3, .int x3), (4, .int x4)], [.int (f2 f ((x2 + 8) + (Int64.toInt32 (f4 f (x2 + 4))))), .int 8, .int (((x2 + 8) + (Int64.toInt32 (f4 f (x2 + 4)))) + 2)], M)) rfl ?_
        refine ml_blk 2 (S' := (79, [(9, .int (((x2 + 8) + (Int64.toInt32 (f4 f (x2 + 4)))) + 2)), (8, .int (f2 f ((x2 + 8) + (Int64.toInt32 (f4 f (x2 + 4)))))), (7, .int ((x2 + 8) + (Int64.toInt32 (f4 f (x2 + 4))))), (5, .long (f4 f (x2 + 4))), (0, .ref m0), (1, .int x1), (2, .int x2), (3, .int x3), (4, .int x4)], [.int ((((x2 + 8) + (Int64.toInt32 (f4 f (x2 + 4)))) + 2) + (8 * (f2 f ((x2 + 8) + (Int64.toInt32 (f4 f (x2 + 4)))))))], M)) rfl ?_
        refine ml_st (S' := (81, [(7, .int ((((x2 + 8) + (Int64.toInt32 (f4 f (x2 + 4)))) + 2) + (8 * (f2 f ((x2 + 8) + (Int64.toInt32 (f4 f (x2 + 4)))))))), (9, .int (((x2 + 8) + (Int64.toInt32 (f4 f (x2 + 4)))) + 2)), (8, .int (f2 f ((x2 + 8) + (Int64.toInt32 (f4 f (x2 + 4)))))), (5, .long (f4 f (x2 + 4))), (0, .ref m0), (1, .int x1), (2, .int x2), (3, .int x3), (4, .int x4)], [], M)) rfl rfl rfl ?_
        refine ml_blk 3 (S' := (85, [(7, .int ((((x2 + 8) + (Int64.toInt32 (f4 f (x2 + 4)))) + 2) + (8 * (f2 f ((x2 + 8) + (Int64.toInt32 (f4 f (x2 + 4)))))))), (9, .int (((x2 + 8) + (Int64.toInt32 (f4 f (x2 + 4)))) + 2)), (8, .int (f2 f ((x2 + 8) + (Int64.toInt32 (f4 f (x2 + 4)))))), (5, .long (f4 f (x2 + 4))), (0, .ref m0), (1, .int x1), (2, .int x2), (3, .int x3), (4, .int x4)], [.int (((((x2 + 8) + (Int64.toInt32 (f4 f (x2 + 4)))) + 2) + (8 * (f2 f ((x2 + 8) + (Int64.toInt32 (f4 f (x2 + 4))))))) + 2)], M)) rfl ?_
        refine ml_st (S' := (86, [(7, .int ((((x2 + 8) + (Int64.toInt32 (f4 f (x2 + 4)))) + 2) + (8 * (f2 f ((x2 + 8) + (Int64.toInt32 (f4 f (x2 + 4)))))))), (9, .int (((x2 + 8) + (Int64.toInt32 (f4 f (x2 + 4)))) + 2)), (8, .int (f2 f ((x2 + 8) + (Int64.toInt32 (f4 f (x2 + 4)))))), (5, .long (f4 f (x2 + 4))), (0, .ref m0), (1, .int x1), (2, .int x2), (3, .int x3), (4, .int x4)], [.int x3, .int (((((x2 + 8) + (Int64.toInt32 (f4 f (x2 + 4)))) + 2) + (8 * (f2 f ((x2 + 8) + (Int64.toInt32 (f4 f (x2 + 4))))))) + 2)], M)) rfl rfl rfl ?_
        refine ml_if2 (S1 := (92, [(7, .int ((((x2 + 8) + (Int64.toInt32 (f4 f (x2 + 4)))) + 2) + (8 * (f2 f ((x2 + 8) + (Int64.toInt32 (f4 f (x2 + 4)))))))), (9, .int (((x2 + 8) + (Int64.toInt32 (f4 f (x2 + 4)))) + 2)), (8, .int (f2 f ((x2 + 8) + (Int64.toInt32 (f4 f (x2 + 4)))))), (5, .long (f4 f (x2 + 4))), (0, .ref m0), (1, .int x1), (2, .int x2), (3, .int x3), (4, .int x4)], [], M)) (S2 := (89, [(7, .int ((((x2 + 8) + (Int64.toInt32 (f4 f (x2 + 4)))) + 2) + (8 * (f2 f ((x2 + 8) + (Int64.toInt32 (f4 f (x2 + 4)))))))), (9, .int (((x2 + 8) + (Int64.toInt32 (f4 f (x2 + 4)))) + 2)), (8, .int (f2 f ((x2 + 8) + (Int64.toInt32 (f4 f (x2 + 4)))))), (5, .long (f4 f (x2 + 4))), (0, .ref m0), (1, .int x1), (2, .int x2), (3, .int x3), (4, .int x4)], [], M)) rfl rfl rfl (fun c_86 => ?_) (fun c_86 => ?_)
        · have c_86 : (((((x2 + 8) + (Int64.toInt32 (f4 f (x2 + 4)))) + 2) + (8 * (f2 f ((x2 + 8) + (Int64.toInt32 (f4 f (x2 + 4))))))) + 2) ≤ x3 := of_decide_eq_true c_86
          have hq4 := i_le c_86
          rw [i_add (by omega) (by omega)] at hq4
          have hq5 : ((((x2 + 8 + Int64.toInt32 (f4 f (x2 + 4))) + 2) + 8 * (f2 f (x2 + 8 + Int64.toInt32 (f4 f (x2 + 4))))) + 2).toInt = (((x2 + 8 + Int64.toInt32 (f4 f (x2 + 4))) + 2) + 8 * (f2 f (x2 + 8 + Int64.toInt32 (f4 f (x2 + 4))))).toInt + 2 := by rw [i_add (by omega) (by omega), i2_]
          have hn0 := f2_pos (f := f) (x := (((x2 + 8 + Int64.toInt32 (f4 f (x2 + 4))) + 2) + 8 * (f2 f (x2 + 8 + Int64.toInt32 (f4 f (x2 + 4))))))
          refine ml_st (S' := (94, [(7, .int ((((x2 + 8) + (Int64.toInt32 (f4 f (x2 + 4)))) + 2) + (8 * (f2 f ((x2 + 8) + (Int64.toInt32 (f4 f (x2 + 4)))))))), (9, .int (((x2 + 8) + (Int64.toInt32 (f4 f (x2 + 4)))) + 2)), (8, .int (f2 f ((x2 + 8) + (Int64.toInt32 (f4 f (x2 + 4)))))), (5, .long (f4 f (x2 + 4))), (0, .ref m0), (1, .int x1), (2, .int x2), (3, .int x3), (4, .int x4)], [.int ((((x2 + 8) + (Int64.toInt32 (f4 f (x2 + 4)))) + 2) + (8 * (f2 f ((x2 + 8) + (Int64.toInt32 (f4 f (x2 + 4)))))))], M)) rfl rfl rfl ?_
          refine ml_st (S' := (96, [(10, .int ((((x2 + 8) + (Int64.toInt32 (f4 f (x2 + 4)))) + 2) + (8 * (f2 f ((x2 + 8) + (Int64.toInt32 (f4 f (x2 + 4)))))))), (7, .int ((((x2 + 8) + (Int64.toInt32 (f4 f (x2 + 4)))) + 2) + (8 * (f2 f ((x2 + 8) + (Int64.toInt32 (f4 f (x2 + 4)))))))), (9, .int (((x2 + 8) + (Int64.toInt32 (f4 f (x2 + 4)))) + 2)), (8, .int (f2 f ((x2 + 8) + (Int64.toInt32 (f4 f (x2 + 4)))))), (5, .long (f4 f (x2 + 4))), (0, .ref m0), (1, .int x1), (2, .int x2), (3, .int x3), (4, .int x4)], [], M)) rfl rfl rfl ?_
          refine ml_blk 2 (S' := (99, [(10, .int ((((x2 + 8) + (Int64.toInt32 (f4 f (x2 + 4)))) + 2) + (8 * (f2 f ((x2 + 8) + (Int64.toInt32 (f4 f (x2 + 4)))))))), (7, .int ((((x2 + 8) + (Int64.toInt32 (f4 f (x2 + 4)))) + 2) + (8 * (f2 f ((x2 + 8) + (Int64.toInt32 (f4 f (x2 + 4)))))))), (9, .int (((x2 + 8) + (Int64.toInt32 (f4 f (x2 + 4)))) + 2)), (8, .int (f2 f ((x2 + 8) + (Int64.toInt32 (f4 f (x2 + 4)))))), (5, .long (f4 f (x2 + 4))), (0, .ref m0), (1, .int x1), (2, .int x2), (3, .int x3), (4, .int x4)], [.int ((((x2 + 8) + (Int64.toInt32 (f4 f (x2 + 4)))) + 2) + (8 * (f2 f ((x2 + 8) + (Int64.toInt32 (f4 f (x2 + 4))))))), .ref m0], M)) rfl ?_
          refine ml_call (a := [.ref m0, .int ((((x2 + 8) + (Int64.toInt32 (f4 f (x2 + 4)))) + 2) + (8 * (f2 f ((x2 + 8) + (Int64.toInt32 (f4 f (x2 + 4)))))))]) (rest := []) rfl (hR.okc rfl rfl rfl) rfl rfl (rm_u2 hR hF (by omega) (by omega) (by omega)) (fun v17 M18 h19 => ?_)
          obtain ⟨rfl, h19⟩ := h19
          rw [h19]
          show ml _ _ _ (102, [(10, .int ((((x2 + 8) + (Int64.toInt32 (f4 f (x2 + 4)))) + 2) + (8 * (f2 f ((x2 + 8) + (Int64.toInt32 (f4 f (x2 + 4)))))))), (7, .int ((((x2 + 8) + (Int64.toInt32 (f4 f (x2 + 4)))) + 2) + (8 * (f2 f ((x2 + 8) + (Int64.toInt32 (f4 f (x2 + 4)))))))), (9, .int (((x2 + 8) + (Int64.toInt32 (f4 f (x2 + 4)))) + 2)), (8, .int (f2 f ((x2 + 8) + (Int64.toInt32 (f4 f (x2 + 4)))))), (5, .long (f4 f (x2 + 4))), (0, .ref m0), (1, .int x1), (2, .int x2), (3, .int x3), (4, .int x4)], [.int (f2 f ((((x2 + 8) + (Int64.toInt32 (f4 f (x2 + 4)))) + 2) + (8 * (f2 f ((x2 + 8) + (Int64.toInt32 (f4 f (x2 + 4))))))))], M) _
          refine ml_st (S' := (104, [(11, .int (f2 f ((((x2 + 8) + (Int64.toInt32 (f4 f (x2 + 4)))) + 2) + (8 * (f2 f ((x2 + 8) + (Int64.toInt32 (f4 f (x2 + 4))))))))), (10, .int ((((x2 + 8) + (Int64.toInt32 (f4 f (x2 + 4)))) + 2) + (8 * (f2 f ((x2 + 8) + (Int64.toInt32 (f4 f (x2 + 4)))))))), (7, .int ((((x2 + 8) + (Int64.toInt32 (f4 f (x2 + 4)))) + 2) + (8 * (f2 f ((x2 + 8) + (Int64.toInt32 (f4 f (x2 + 4)))))))), (9, .int (((x2 + 8) + (Int64.toInt32 (f4 f (x2 + 4)))) + 2)), (8, .int (f2 f ((x2 + 8) + (Int64.toInt32 (f4 f (x2 + 4)))))), (5, .long (f4 f (x2 + 4))), (0, .ref m0), (1, .int x1), (2, .int x2), (3, .int x3), (4, .int x4)], [], M)) rfl rfl rfl ?_
          refine ml_st (S' := (107, [(7, .int (((((x2 + 8) + (Int64.toInt32 (f4 f (x2 + 4)))) + 2) + (8 * (f2 f ((x2 + 8) + (Int64.toInt32 (f4 f (x2 + 4))))))) + 2)), (11, .int (f2 f ((((x2 + 8) + (Int64.toInt32 (f4 f (x2 + 4)))) + 2) + (8 * (f2 f ((x2 + 8) + (Int64.toInt32 (f4 f (x2 + 4))))))))), (10, .int ((((x2 + 8) + (Int64.toInt32 (f4 f (x2 + 4)))) + 2) + (8 * (f2 f ((x2 + 8) + (Int64.toInt32 (f4 f (x2 + 4)))))))), (9, .int (((x2 + 8) + (Int64.toInt32 (f4 f (x2 + 4)))) + 2)), (8, .int (f2 f ((x2 + 8) + (Int64.toInt32 (f4 f (x2 + 4)))))), (5, .long (f4 f (x2 + 4))), (0, .ref m0), (1, .int x1), (2, .int x2), (3, .int x3), (4, .int x4)], [], M)) rfl rfl rfl ?_
          refine ml_st (S' := (108, [(7, .int (((((x2 + 8) + (Int64.toInt32 (f4 f (x2 + 4)))) + 2) + (8 * (f2 f ((x2 + 8) + (Int64.toInt32 (f4 f (x2 + 4))))))) + 2)), (11, .int (f2 f ((((x2 + 8) + (Int64.toInt32 (f4 f (x2 + 4)))) + 2) + (8 * (f2 f ((x2 + 8) + (Int64.toInt32 (f4 f (x2 + 4))))))))), (10, .int ((((x2 + 8) + (Int64.toInt32 (f4 f (x2 + 4)))) + 2) + (8 * (f2 f ((x2 + 8) + (Int64.toInt32 (f4 f (x2 + 4)))))))), (9, .int (((x2 + 8) + (Int64.toInt32 (f4 f (x2 + 4)))) + 2)), (8, .int (f2 f ((x2 + 8) + (Int64.toInt32 (f4 f (x2 + 4)))))), (5, .long (f4 f (x2 + 4))), (0, .ref m0), (1, .int x1), (2, .int x2), (3, .int x3), (4, .int x4)], [.int 0], M)) rfl rfl rfl ?_
          refine ml_st (S' := (110, [(0, .ref m0), (2, .int x2), (3, .int x3), (4, .int x4), (5, .long (f4 f (x2 + 4))), (7, .int (((((x2 + 8) + (Int64.toInt32 (f4 f (x2 + 4)))) + 2) + (8 * (f2 f ((x2 + 8) + (Int64.toInt32 (f4 f (x2 + 4))))))) + 2)), (8, .int (f2 f ((x2 + 8) + (Int64.toInt32 (f4 f (x2 + 4)))))), (9, .int (((x2 + 8) + (Int64.toInt32 (f4 f (x2 + 4)))) + 2)), (10, .int ((((x2 + 8) + (Int64.toInt32 (f4 f (x2 + 4)))) + 2) + (8 * (f2 f ((x2 + 8) + (Int64.toInt32 (f4 f (x2 + 4)))))))), (11, .int (f2 f ((((x2 + 8) + (Int64.toInt32 (f4 f (x2 + 4)))) + 2) + (8 * (f2 f ((x2 + 8) + (Int64.toInt32 (f4 f (x2 + 4))))))))), (12, .int 0)], [], M)) rfl rfl rfl ?_
          have L_110 : ∀ (n_110 : Nat) (i110_7 : Int32) (i110_12 : Int32), (2147483648 - i110_12.toInt).toNat ≤ n_110 → ((((x2 + 8 + Int64.toInt32 (f4 f (x2 + 4))) + 2) + 8 * (f2 f (x2 + 8 + Int64.toInt32 (f4 f (x2 + 4))))).toInt + 2 ≤ i110_7.toInt ∧ i110_7.toInt ≤ x3.toInt ∧ 0 ≤ i110_12.toInt ∧ i110_12.toInt ≤ (f2 f (((x2 + 8 + Int64.toInt32 (f4 f (x2 + 4))) + 2) + 8 * (f2 f (x2 + 8 + Int64.toInt32 (f4 f (x2 + 4)))))).toInt ∧ itr (RA1 f n) i110_12.toInt.toNat ((((x2 + 8 + Int64.toInt32 (f4 f (x2 + 4))) + 2) + 8 * (f2 f (x2 + 8 + Int64.toInt32 (f4 f (x2 + 4))))) + 2) i110_7) → ml (mT g) d (mb_196 g).2 (110, [(0, .ref m0), (2, .int x2), (3, .int x3), (4, .int x4), (5, .long (f4 f (x2 + 4))), (7, .int i110_7), (8, .int (f2 f ((x2 + 8) + (Int64.toInt32 (f4 f (x2 + 4)))))), (9, .int (((x2 + 8) + (Int64.toInt32 (f4 f (x2 + 4)))) + 2)), (10, .int ((((x2 + 8) + (Int64.toInt32 (f4 f (x2 + 4)))) + 2) + (8 * (f2 f ((x2 + 8) + (Int64.toInt32 (f4 f (x2 + 4)))))))), (11, .int (f2 f ((((x2 + 8) + (Int64.toInt32 (f4 f (x2 + 4)))) + 2) + (8 * (f2 f ((x2 + 8) + (Int64.toInt32 (f4 f (x2 + 4))))))))), (12, .int i110_12)], [], M) (fun v M' => ∃ (x : Int32) (I' : rI) (R' : rR), v = some (.int x) ∧ RS g m0 q z I' R' M' ∧ eqI [47, 48] I I' ∧ eqR [37, 38, 39, 40, 41, 42] R R' ∧ pw x4.toNatClampNeg R R' ∧ MCD f n x4.toNatClampNeg R' ∧ kn [38, 39, 40, 42, 43, 44] x4.toNatClampNeg R') := by
            intro n_110
            induction n_110 with
            | zero => intro i110_7 i110_12 hn; exact (loop_zero hn).elim
            | succ n_110 ih_110 =>
              intro i110_7 i110_12 hn_110 hi_110
              obtain ⟨hp0, hp1, hk0, hk1, hit⟩ := hi_110
              refine ml_blk 2 (S' := (114, [(0, .ref m0), (2, .int x2), (3, .int x3), (4, .int x4), (5, .long (f4 f (x2 + 4))), (7, .int i110_7), (8, .int (f2 f ((x2 + 8) + (Int64.toInt32 (f4 f (x2 + 4)))))), (9, .int (((x2 + 8) + (Int64.toInt32 (f4 f (x2 + 4)))) + 2)), (10, .int ((((x2 + 8) + (Int64.toInt32 (f4 f (x2 + 4)))) + 2) + (8 * (f2 f ((x2 + 8) + (Int64.toInt32 (f4 f (x2 + 4)))))))), (11, .int (f2 f ((((x2 + 8) + (Int64.toInt32 (f4 f (x2 + 4)))) + 2) + (8 * (f2 f ((x2 + 8) + (Int64.toInt32 (f4 f (x2 + 4))))))))), (12, .int i110_12)], [.int (f2 f ((((x2 + 8) + (Int64.toInt32 (f4 f (x2 + 4)))) + 2) + (8 * (f2 f ((x2 + 8) + (Int64.toInt32 (f4 f (x2 + 4)))))))), .int i110_12], M)) rfl ?_
              refine ml_if2 (S1 := (172, [(0, .ref m0), (2, .int x2), (3, .int x3), (4, .int x4), (5, .long (f4 f (x2 + 4))), (7, .int i110_7), (8, .int (f2 f ((x2 + 8) + (Int64.toInt32 (f4 f (x2 + 4)))))), (9, .int (((x2 + 8) + (Int64.toInt32 (f4 f (x2 + 4)))) + 2)), (10, .int ((((x2 + 8) + (Int64.toInt32 (f4 f (x2 + 4)))) + 2) + (8 * (f2 f ((x2 + 8) + (Int64.toInt32 (f4 f (x2 + 4)))))))), (11, .int (f2 f ((((x2 + 8) + (Int64.toInt32 (f4 f (x2 + 4)))) + 2) + (8 * (f2 f ((x2 + 8) + (Int64.toInt32 (f4 f (x2 + 4))))))))), (12, .int i110_12)], [], M)) (S2 := (117, [(0, .ref m0), (2, .int x2), (3, .int x3), (4, .int x4), (5, .long (f4 f (x2 + 4))), (7, .int i110_7), (8, .int (f2 f ((x2 + 8) + (Int64.toInt32 (f4 f (x2 + 4)))))), (9, .int (((x2 + 8) + (Int64.toInt32 (f4 f (x2 + 4)))) + 2)), (10, .int ((((x2 + 8) + (Int64.toInt32 (f4 f (x2 + 4)))) + 2) + (8 * (f2 f ((x2 + 8) + (Int64.toInt32 (f4 f (x2 + 4)))))))), (11, .int (f2 f ((((x2 + 8) + (Int64.toInt32 (f4 f (x2 + 4)))) + 2) + (8 * (f2 f ((x2 + 8) + (Int64.toInt32 (f4 f (x2 + 4))))))))), (12, .int i110_12)], [], M)) rfl rfl rfl (fun c_114 => ?_) (fun c_114 => ?_)
              · have c_114 : (f2 f ((((x2 + 8) + (Int64.toInt32 (f4 f (x2 + 4)))) + 2) + (8 * (f2 f ((x2 + 8) + (Int64.toInt32 (f4 f (x2 + 4)))))))) ≤ i110_12 := of_decide_eq_true c_114
                refine ml_blk 2 (S' := (175, [(0, .ref m0), (2, .int x2), (3, .int x3), (4, .int x4), (5, .long (f4 f (x2 + 4))), (7, .int i110_7), (8, .int (f2 f ((x2 + 8) + (Int64.toInt32 (f4 f (x2 + 4)))))), (9, .int (((x2 + 8) + (Int64.toInt32 (f4 f (x2 + 4)))) + 2)), (10, .int ((((x2 + 8) + (Int64.toInt32 (f4 f (x2 + 4)))) + 2) + (8 * (f2 f ((x2 + 8) + (Int64.toInt32 (f4 f (x2 + 4)))))))), (11, .int (f2 f ((((x2 + 8) + (Int64.toInt32 (f4 f (x2 + 4)))) + 2) + (8 * (f2 f ((x2 + 8) + (Int64.toInt32 (f4 f (x2 + 4))))))))), (12, .int i110_12)], [.int x3, .int i110_7], M)) rfl ?_
                refine ml_if2 (S1 := (181, [(0, .ref m0), (2, .int x2), (3, .int x3), (4, .int x4), (5, .long (f4 f (x2 + 4))), (7, .int i110_7), (8, .int (f2 f ((x2 + 8) + (Int64.toInt32 (f4 f (x2 + 4)))))), (9, .int (((x2 + 8) + (Int64.toInt32 (f4 f (x2 + 4)))) + 2)), (10, .int ((((x2 + 8) + (Int64.toInt32 (f4 f (x2 + 4)))) + 2) + (8 * (f2 f ((x2 + 8) + (Int64.toInt32 (f4 f (x2 + 4)))))))), (11, .int (f2 f ((((x2 + 8) + (Int64.toInt32 (f4 f (x2 + 4)))) + 2) + (8 * (f2 f ((x2 + 8) + (Int64.toInt32 (f4 f (x2 + 4))))))))), (12, .int i110_12)], [], M)) (S2 := (178, [(0, .ref m0), (2, .int x2), (3, .int x3), (4, .int x4), (5, .long (f4 f (x2 + 4))), (7, .int i110_7), (8, .int (f2 f ((x2 + 8) + (Int64.toInt32 (f4 f (x2 + 4)))))), (9, .int (((x2 + 8) + (Int64.toInt32 (f4 f (x2 + 4)))) + 2)), (10, .int ((((x2 + 8) + (Int64.toInt32 (f4 f (x2 + 4)))) + 2) + (8 * (f2 f ((x2 + 8) + (Int64.toInt32 (f4 f (x2 + 4)))))))), (11, .int (f2 f ((((x2 + 8) + (Int64.toInt32 (f4 f (x2 + 4)))) + 2) + (8 * (f2 f ((x2 + 8) + (Int64.toInt32 (f4 f (x2 + 4))))))))), (12, .int i110_12)], [], M)) rfl rfl rfl (fun c_175 => ?_) (fun c_175 => ?_)
                · have c_175 : i110_7 = x3 := of_decide_eq_true c_175
                  have hend : i110_7 = x3 := c_175
                  have hatt : AT f n (((x2 + 8 + Int64.toInt32 (f4 f (x2 + 4))) + 2) + 8 * (f2 f (x2 + 8 + Int64.toInt32 (f4 f (x2 + 4))))) x3 := ⟨by omega, by omega, hend ▸ itr_end hit hk1 c_114, h2⟩
                  refine ml_blk 3 (S' := (185, [(0, .ref m0), (2, .int x2), (3, .int x3), (4, .int x4), (5, .long (f4 f (x2 + 4))), (7, .int i110_7), (8, .int (f2 f ((x2 + 8) + (Int64.toInt32 (f4 f (x2 + 4)))))), (9, .int (((x2 + 8) + (Int64.toInt32 (f4 f (x2 + 4)))) + 2)), (10, .int ((((x2 + 8) + (Int64.toInt32 (f4 f (x2 + 4)))) + 2) + (8 * (f2 f ((x2 + 8) + (Int64.toInt32 (f4 f (x2 + 4)))))))), (11, .int (f2 f ((((x2 + 8) + (Int64.toInt32 (f4 f (x2 + 4)))) + 2) + (8 * (f2 f ((x2 + 8) + (Int64.toInt32 (f4 f (x2 + 4))))))))), (12, .int i110_12)], [.int (lg_cmp (f4 f (x2 + 4)) 0)], M)) rfl ?_
                  refine ml_if (S1 := (197, [], [], M)) (S2 := (188, [(0, .ref m0), (2, .int x2), (3, .int x3), (4, .int x4), (5, .long (f4 f (x2 + 4))), (7, .int i110_7), (8, .int (f2 f ((x2 + 8) + (Int64.toInt32 (f4 f (x2 + 4)))))), (9, .int (((x2 + 8) + (Int64.toInt32 (f4 f (x2 + 4)))) + 2)), (10, .int ((((x2 + 8) + (Int64.toInt32 (f4 f (x2 + 4)))) + 2) + (8 * (f2 f ((x2 + 8) + (Int64.toInt32 (f4 f (x2 + 4)))))))), (11, .int (f2 f ((((x2 + 8) + (Int64.toInt32 (f4 f (x2 + 4)))) + 2) + (8 * (f2 f ((x2 + 8) + (Int64.toInt32 (f4 f (x2 + 4))))))))), (12, .int i110_12)], [], M)) rfl rfl rfl (fun c_185 => ?_) (fun c_185 => ?_)
                  · have c_185 : (lg_cmp (f4 f (x2 + 4)) 0) = 0 := of_decide_eq_true c_185
                    refine ml_st (S' := (199, [], [.int 41], M)) rfl rfl rfl ?_
                    exact ml_ret rfl (rfl) (⟨_, _, _, rfl, hR, eqI.rf, eqR.rf, ⟨pw.rf, hmc, hkn⟩⟩)
                  · have c_185 : ¬ ((lg_cmp (f4 f (x2 + 4)) 0) = 0) := of_decide_eq_false c_185
                    refine ml_blk 3 (S' := (194, [(0, .ref m0), (2, .int x2), (3, .int x3), (4, .int x4), (5, .long (f4 f (x2 + 4))), (7, .int i110_7), (8, .int (f2 f ((x2 + 8) + (Int64.toInt32 (f4 f (x2 + 4)))))), (9, .int (((x2 + 8) + (Int64.toInt32 (f4 f (x2 + 4)))) + 2)), (10, .int ((((x2 + 8) + (Int64.toInt32 (f4 f (x2 + 4)))) + 2) + (8 * (f2 f ((x2 + 8) + (Int64.toInt32 (f4 f (x2 + 4)))))))), (11, .int (f2 f ((((x2 + 8) + (Int64.toInt32 (f4 f (x2 + 4)))) + 2) + (8 * (f2 f ((x2 + 8) + (Int64.toInt32 (f4 f (x2 + 4))))))))), (12, .int i110_12)], [.int (lg_cmp (f4 f (x2 + 4)) 65535)], M)) rfl ?_
                    refine ml_if (S1 := (200, [(0, .ref m0), (2, .int x2), (3, .int x3), (4, .int x4), (5, .long (f4 f (x2 + 4))), (7, .int i110_7), (8, .int (f2 f ((x2 + 8) + (Int64.toInt32 (f4 f (x2 + 4)))))), (9, .int (((x2 + 8) + (Int64.toInt32 (f4 f (x2 + 4)))) + 2)), (10, .int ((((x2 + 8) + (Int64.toInt32 (f4 f (x2 + 4)))) + 2) + (8 * (f2 f ((x2 + 8) + (Int64.toInt32 (f4 f (x2 + 4)))))))), (11, .int (f2 f ((((x2 + 8) + (Int64.toInt32 (f4 f (x2 + 4)))) + 2) + (8 * (f2 f ((x2 + 8) + (Int64.toInt32 (f4 f (x2 + 4))))))))), (12, .int i110_12)], [], M)) (S2 := (197, [], [], M)) rfl rfl rfl (fun c_194 => ?_) (fun c_194 => ?_)
                    · have c_194 : (lg_cmp (f4 f (x2 + 4)) 65535) ≤ 0 := of_decide_eq_true c_194
                      refine ml_blk 2 (S' := (202, [(0, .ref m0), (2, .int x2), (3, .int x3), (4, .int x4), (5, .long (f4 f (x2 + 4))), (7, .int i110_7), (8, .int (f2 f ((x2 + 8) + (Int64.toInt32 (f4 f (x2 + 4)))))), (9, .int (((x2 + 8) + (Int64.toInt32 (f4 f (x2 + 4)))) + 2)), (10, .int ((((x2 + 8) + (Int64.toInt32 (f4 f (x2 + 4)))) + 2) + (8 * (f2 f ((x2 + 8) + (Int64.toInt32 (f4 f (x2 + 4)))))))), (11, .int (f2 f ((((x2 + 8) + (Int64.toInt32 (f4 f (x2 + 4)))) + 2) + (8 * (f2 f ((x2 + 8) + (Int64.toInt32 (f4 f (x2 + 4))))))))), (12, .int i110_12)], [.ref m0, .ref m0], M)) rfl ?_
                      refine rg_ref (S' := (205, [(0, .ref m0), (2, .int x2), (3, .int x3), (4, .int x4), (5, .long (f4 f (x2 + 4))), (7, .int i110_7), (8, .int (f2 f ((x2 + 8) + (Int64.toInt32 (f4 f (x2 + 4)))))), (9, .int (((x2 + 8) + (Int64.toInt32 (f4 f (x2 + 4)))) + 2)), (10, .int ((((x2 + 8) + (Int64.toInt32 (f4 f (x2 + 4)))) + 2) + (8 * (f2 f ((x2 + 8) + (Int64.toInt32 (f4 f (x2 + 4)))))))), (11, .int (f2 f ((((x2 + 8) + (Int64.toInt32 (f4 f (x2 + 4)))) + 2) + (8 * (f2 f ((x2 + 8) + (Int64.toInt32 (f4 f (x2 + 4))))))))), (12, .int i110_12)], [.ref (q 36), .ref m0], M)) rfl hR rfl rfl ?_
                      refine ml_st (S' := (207, [(0, .ref m0), (2, .int x2), (3, .int x3), (4, .int x4), (5, .long (f4 f (x2 + 4))), (7, .int i110_7), (8, .int (f2 f ((x2 + 8) + (Int64.toInt32 (f4 f (x2 + 4)))))), (9, .int (((x2 + 8) + (Int64.toInt32 (f4 f (x2 + 4)))) + 2)), (10, .int ((((x2 + 8) + (Int64.toInt32 (f4 f (x2 + 4)))) + 2) + (8 * (f2 f ((x2 + 8) + (Int64.toInt32 (f4 f (x2 + 4)))))))), (11, .int (f2 f ((((x2 + 8) + (Int64.toInt32 (f4 f (x2 + 4)))) + 2) + (8 * (f2 f ((x2 + 8) + (Int64.toInt32 (f4 f (x2 + 4))))))))), (12, .int i110_12)], [.int x4, .ref (q 36), .ref m0], M)) rfl rfl rfl ?_
                      refine ra_ld (k := 36) (S' := (208, [(0, .ref m0), (2, .int x2), (3, .int x3), (4, .int x4), (5, .long (f4 f (x2 + 4))), (7, .int i110_7), (8, .int (f2 f ((x2 + 8) + (Int64.toInt32 (f4 f (x2 + 4)))))), (9, .int (((x2 + 8) + (Int64.toInt32 (f4 f (x2 + 4)))) + 2)), (10, .int ((((x2 + 8) + (Int64.toInt32 (f4 f (x2 + 4)))) + 2) + (8 * (f2 f ((x2 + 8) + (Int64.toInt32 (f4 f (x2 + 4)))))))), (11, .int (f2 f ((((x2 + 8) + (Int64.toInt32 (f4 f (x2 + 4)))) + 2) + (8 * (f2 f ((x2 + 8) + (Int64.toInt32 (f4 f (x2 + 4))))))))), (12, .int i110_12)], [.int ds, .ref m0], M)) rfl hR rfl (vin_lt ho0 (by omega)) (hds) rfl ?_
                      refine ml_call (a := [.ref m0, .int ds]) (rest := []) rfl (hR.okc rfl rfl rfl) rfl rfl (rm_places0 hR hY (hd0) (hd1) (hmt.1) (by omega)) (fun v20 M21 h22 => ?_)
                      obtain ⟨⟨u23, rfl⟩, h22⟩ := h22
                      rw [h22]
                      show ml _ _ _ (211, [(0, .ref m0), (2, .int x2), (3, .int x3), (4, .int x4), (5, .long (f4 f (x2 + 4))), (7, .int i110_7), (8, .int (f2 f ((x2 + 8) + (Int64.toInt32 (f4 f (x2 + 4)))))), (9, .int (((x2 + 8) + (Int64.toInt32 (f4 f (x2 + 4)))) + 2)), (10, .int ((((x2 + 8) + (Int64.toInt32 (f4 f (x2 + 4)))) + 2) + (8 * (f2 f ((x2 + 8) + (Int64.toInt32 (f4 f (x2 + 4)))))))), (11, .int (f2 f ((((x2 + 8) + (Int64.toInt32 (f4 f (x2 + 4)))) + 2) + (8 * (f2 f ((x2 + 8) + (Int64.toInt32 (f4 f (x2 + 4))))))))), (12, .int i110_12)], [.int u23], M) _
                      refine ml_st (S' := (212, [(0, .ref m0), (2, .int x2), (3, .int x3), (4, .int x4), (5, .long (f4 f (x2 + 4))), (7, .int i110_7), (8, .int (f2 f ((x2 + 8) + (Int64.toInt32 (f4 f (x2 + 4)))))), (9, .int (((x2 + 8) + (Int64.toInt32 (f4 f (x2 + 4)))) + 2)), (10, .int ((((x2 + 8) + (Int64.toInt32 (f4 f (x2 + 4)))) + 2) + (8 * (f2 f ((x2 + 8) + (Int64.toInt32 (f4 f (x2 + 4)))))))), (11, .int (f2 f ((((x2 + 8) + (Int64.toInt32 (f4 f (x2 + 4)))) + 2) + (8 * (f2 f ((x2 + 8) + (Int64.toInt32 (f4 f (x2 + 4))))))))), (12, .int i110_12)], [.ref m0, .int u23], M)) rfl rfl rfl ?_
                      refine rg_ref (S' := (215, [(0, .ref m0), (2, .int x2), (3, .int x3), (4, .int x4), (5, .long (f4 f (x2 + 4))), (7, .int i110_7), (8, .int (f2 f ((x2 + 8) + (Int64.toInt32 (f4 f (x2 + 4)))))), (9, .int (((x2 + 8) + (Int64.toInt32 (f4 f (x2 + 4)))) + 2)), (10, .int ((((x2 + 8) + (Int64.toInt32 (f4 f (x2 + 4)))) + 2) + (8 * (f2 f ((x2 + 8) + (Int64.toInt32 (f4 f (x2 + 4)))))))), (11, .int (f2 f ((((x2 + 8) + (Int64.toInt32 (f4 f (x2 + 4)))) + 2) + (8 * (f2 f ((x2 + 8) + (Int64.toInt32 (f4 f (x2 + 4))))))))), (12, .int i110_12)], [.ref (q 34), .int u23], M)) rfl hR rfl rfl ?_
                      refine ml_st (S' := (217, [(0, .ref m0), (2, .int x2), (3, .int x3), (4, .int x4), (5, .long (f4 f (x2 + 4))), (7, .int i110_7), (8, .int (f2 f ((x2 + 8) + (Int64.toInt32 (f4 f (x2 + 4)))))), (9, .int (((x2 + 8) + (Int64.toInt32 (f4 f (x2 + 4)))) + 2)), (10, .int ((((x2 + 8) + (Int64.toInt32 (f4 f (x2 + 4)))) + 2) + (8 * (f2 f ((x2 + 8) + (Int64.toInt32 (f4 f (x2 + 4)))))))), (11, .int (f2 f ((((x2 + 8) + (Int64.toInt32 (f4 f (x2 + 4)))) + 2) + (8 * (f2 f ((x2 + 8) + (Int64.toInt32 (f4 f (x2 + 4))))))))), (12, .int i110_12)], [.int x4, .ref (q 34), .int u23], M)) rfl rfl rfl ?_
                      refine ra_ld (k := 34) (S' := (218, [(0, .ref m0), (2, .int x2), (3, .int x3), (4, .int x4), (5, .long (f4 f (x2 + 4))), (7, .int i110_7), (8, .int (f2 f ((x2 + 8) + (Int64.toInt32 (f4 f (x2 + 4)))))), (9, .int (((x2 + 8) + (Int64.toInt32 (f4 f (x2 + 4)))) + 2)), (10, .int ((((x2 + 8) + (Int64.toInt32 (f4 f (x2 + 4)))) + 2) + (8 * (f2 f ((x2 + 8) + (Int64.toInt32 (f4 f (x2 + 4)))))))), (11, .int (f2 f ((((x2 + 8) + (Int64.toInt32 (f4 f (x2 + 4)))) + 2) + (8 * (f2 f ((x2 + 8) + (Int64.toInt32 (f4 f (x2 + 4))))))))), (12, .int i110_12)], [.int fl, .int u23], M)) rfl hR rfl (vin_lt ho0 (by omega)) (hfl) rfl ?_
                      refine ml_blk 2 (S' := (221, [(0, .ref m0), (2, .int x2), (3, .int x3), (4, .int x4), (5, .long (f4 f (x2 + 4))), (7, .int i110_7), (8, .int (f2 f ((x2 + 8) + (Int64.toInt32 (f4 f (x2 + 4)))))), (9, .int (((x2 + 8) + (Int64.toInt32 (f4 f (x2 + 4)))) + 2)), (10, .int ((((x2 + 8) + (Int64.toInt32 (f4 f (x2 + 4)))) + 2) + (8 * (f2 f ((x2 + 8) + (Int64.toInt32 (f4 f (x2 + 4)))))))), (11, .int (f2 f ((((x2 + 8) + (Int64.toInt32 (f4 f (x2 + 4)))) + 2) + (8 * (f2 f ((x2 + 8) + (Int64.toInt32 (f4 f (x2 + 4))))))))), (12, .int i110_12)], [.int (fl &&& 8), .int u23], M)) rfl ?_
                      have J_229 : ∀ (s229_0 : Int32), ml (mT g) d (mb_196 g).2 (229, [(0, .ref m0), (2, .int x2), (4, .int x4), (5, .long (f4 f (x2 + 4))), (8, .int (f2 f ((x2 + 8) + (Int64.toInt32 (f4 f (x2 + 4)))))), (9, .int (((x2 + 8) + (Int64.toInt32 (f4 f (x2 + 4)))) + 2)), (10, .int ((((x2 + 8) + (Int64.toInt32 (f4 f (x2 + 4)))) + 2) + (8 * (f2 f ((x2 + 8) + (Int64.toInt32 (f4 f (x2 + 4))))))))], [.int s229_0, .int u23], M) (fun v M' => ∃ (x : Int32) (I' : rI) (R' : rR), v = some (.int x) ∧ RS g m0 q z I' R' M' ∧ eqI [47, 48] I I' ∧ eqR [37, 38, 39, 40, 41, 42] R R' ∧ pw x4.toNatClampNeg R R' ∧ MCD f n x4.toNatClampNeg R' ∧ kn [38, 39, 40, 42, 43, 44] x4.toNatClampNeg R') := by
                        intro s229_0
                        refine ml_st (S' := (230, [(0, .ref m0), (2, .int x2), (4, .int x4), (5, .long (f4 f (x2 + 4))), (8, .int (f2 f ((x2 + 8) + (Int64.toInt32 (f4 f (x2 + 4)))))), (9, .int (((x2 + 8) + (Int64.toInt32 (f4 f (x2 + 4)))) + 2)), (10, .int ((((x2 + 8) + (Int64.toInt32 (f4 f (x2 + 4)))) + 2) + (8 * (f2 f ((x2 + 8) + (Int64.toInt32 (f4 f (x2 + 4))))))))], [.int (u23 + s229_0)], M)) rfl rfl rfl ?_
                        refine ml_st (S' := (232, [(12, .int (u23 + s229_0)), (0, .ref m0), (2, .int x2), (4, .int x4), (5, .long (f4 f (x2 + 4))), (8, .int (f2 f ((x2 + 8) + (Int64.toInt32 (f4 f (x2 + 4)))))), (9, .int (((x2 + 8) + (Int64.toInt32 (f4 f (x2 + 4)))) + 2)), (10, .int ((((x2 + 8) + (Int64.toInt32 (f4 f (x2 + 4)))) + 2) + (8 * (f2 f ((x2 + 8) + (Int64.toInt32 (f4 f (x2 + 4))))))))], [], M)) rfl rfl rfl ?_
                        refine ml_blk 3 (S' := (235, [(12, .int (u23 + s229_0)), (0, .ref m0), (2, .int x2), (4, .int x4), (5, .long (f4 f (x2 + 4))), (8, .int (f2 f ((x2 + 8) + (Int64.toInt32 (f4 f (x2 + 4)))))), (9, .int (((x2 + 8) + (Int64.toInt32 (f4 f (x2 + 4)))) + 2)), (10, .int ((((x2 + 8) + (Int64.toInt32 (f4 f (x2 + 4)))) + 2) + (8 * (f2 f ((x2 + 8) + (Int64.toInt32 (f4 f (x2 + 4))))))))], [.int 2, .int x2, .ref m0], M)) rfl ?_
                        refine ml_st (S' := (236, [(12, .int (u23 + s229_0)), (0, .ref m0), (2, .int x2), (4, .int x4), (5, .long (f4 f (x2 + 4))), (8, .int (f2 f ((x2 + 8) + (Int64.toInt32 (f4 f (x2 + 4)))))), (9, .int (((x2 + 8) + (Int64.toInt32 (f4 f (x2 + 4)))) + 2)), (10, .int ((((x2 + 8) + (Int64.toInt32 (f4 f (x2 + 4)))) + 2) + (8 * (f2 f ((x2 + 8) + (Int64.toInt32 (f4 f (x2 + 4))))))))], [.int (x2 + 2), .ref m0], M)) rfl rfl rfl ?_
                        refine ml_call (a := [.ref m0, .int (x2 + 2)]) (rest := []) rfl (hR.okc rfl rfl rfl) rfl rfl (rm_u2 hR hF (by omega) (by omega) (by omega)) (fun v24 M25 h26 => ?_)
                        obtain ⟨rfl, h26⟩ := h26
                        rw [h26]
                        show ml _ _ _ (239, [(12, .int (u23 + s229_0)), (0, .ref m0), (2, .int x2), (4, .int x4), (5, .long (f4 f (x2 + 4))), (8, .int (f2 f ((x2 + 8) + (Int64.toInt32 (f4 f (x2 + 4)))))), (9, .int (((x2 + 8) + (Int64.toInt32 (f4 f (x2 + 4)))) + 2)), (10, .int ((((x2 + 8) + (Int64.toInt32 (f4 f (x2 + 4)))) + 2) + (8 * (f2 f ((x2 + 8) + (Int64.toInt32 (f4 f (x2 + 4))))))))], [.int (f2 f (x2 + 2))], M) _
                        refine ml_st (S' := (241, [(12, .int (u23 + s229_0)), (0, .ref m0), (2, .int x2), (4, .int x4), (5, .long (f4 f (x2 + 4))), (8, .int (f2 f ((x2 + 8) + (Int64.toInt32 (f4 f (x2 + 4)))))), (9, .int (((x2 + 8) + (Int64.toInt32 (f4 f (x2 + 4)))) + 2)), (10, .int ((((x2 + 8) + (Int64.toInt32 (f4 f (x2 + 4)))) + 2) + (8 * (f2 f ((x2 + 8) + (Int64.toInt32 (f4 f (x2 + 4))))))))], [.int (u23 + s229_0), .int (f2 f (x2 + 2))], M)) rfl rfl rfl ?_
                        refine ml_if2 (S1 := (247, [(12, .int (u23 + s229_0)), (0, .ref m0), (2, .int x2), (4, .int x4), (5, .long (f4 f (x2 + 4))), (8, .int (f2 f ((x2 + 8) + (Int64.toInt32 (f4 f (x2 + 4)))))), (9, .int (((x2 + 8) + (Int64.toInt32 (f4 f (x2 + 4)))) + 2)), (10, .int ((((x2 + 8) + (Int64.toInt32 (f4 f (x2 + 4)))) + 2) + (8 * (f2 f ((x2 + 8) + (Int64.toInt32 (f4 f (x2 + 4))))))))], [], M)) (S2 := (244, [(12, .int (u23 + s229_0)), (0, .ref m0), (2, .int x2), (4, .int x4), (5, .long (f4 f (x2 + 4))), (8, .int (f2 f ((x2 + 8) + (Int64.toInt32 (f4 f (x2 + 4)))))), (9, .int (((x2 + 8) + (Int64.toInt32 (f4 f (x2 + 4)))) + 2)), (10, .int ((((x2 + 8) + (Int64.toInt32 (f4 f (x2 + 4)))) + 2) + (8 * (f2 f ((x2 + 8) + (Int64.toInt32 (f4 f (x2 + 4))))))))], [], M)) rfl rfl rfl (fun c_241 => ?_) (fun c_241 => ?_)
                        · have c_241 : (u23 + s229_0) ≤ (f2 f (x2 + 2)) := of_decide_eq_true c_241
                          refine ml_st (S' := (248, [(12, .int (u23 + s229_0)), (0, .ref m0), (2, .int x2), (4, .int x4), (5, .long (f4 f (x2 + 4))), (8, .int (f2 f ((x2 + 8) + (Int64.toInt32 (f4 f (x2 + 4)))))), (9, .int (((x2 + 8) + (Int64.toInt32 (f4 f (x2 + 4)))) + 2)), (10, .int ((((x2 + 8) + (Int64.toInt32 (f4 f (x2 + 4)))) + 2) + (8 * (f2 f ((x2 + 8) + (Int64.toInt32 (f4 f (x2 + 4))))))))], [.int 0], M)) rfl rfl rfl ?_
                          refine ml_st (S' := (250, [(0, .ref m0), (2, .int x2), (4, .int x4), (5, .long (f4 f (x2 + 4))), (8, .int (f2 f ((x2 + 8) + (Int64.toInt32 (f4 f (x2 + 4)))))), (9, .int (((x2 + 8) + (Int64.toInt32 (f4 f (x2 + 4)))) + 2)), (10, .int ((((x2 + 8) + (Int64.toInt32 (f4 f (x2 + 4)))) + 2) + (8 * (f2 f ((x2 + 8) + (Int64.toInt32 (f4 f (x2 + 4)))))))), (13, .int 0)], [], M)) rfl rfl rfl ?_
                          have L_250 : ∀ (n_250 : Nat) (i250_13 : Int32), (2147483648 - i250_13.toInt).toNat ≤ n_250 → 0 ≤ i250_13.toInt → ml (mT g) d (mb_196 g).2 (250, [(0, .ref m0), (2, .int x2), (4, .int x4), (5, .long (f4 f (x2 + 4))), (8, .int (f2 f ((x2 + 8) + (Int64.toInt32 (f4 f (x2 + 4)))))), (9, .int (((x2 + 8) + (Int64.toInt32 (f4 f (x2 + 4)))) + 2)), (10, .int ((((x2 + 8) + (Int64.toInt32 (f4 f (x2 + 4)))) + 2) + (8 * (f2 f ((x2 + 8) + (Int64.toInt32 (f4 f (x2 + 4)))))))), (13, .int i250_13)], [], M) (fun v M' => ∃ (x : Int32) (I' : rI) (R' : rR), v = some (.int x) ∧ RS g m0 q z I' R' M' ∧ eqI [47, 48] I I' ∧ eqR [37, 38, 39, 40, 41, 42] R R' ∧ pw x4.toNatClampNeg R R' ∧ MCD f n x4.toNatClampNeg R' ∧ kn [38, 39, 40, 42, 43, 44] x4.toNatClampNeg R') := by
                            intro n_250
                            induction n_250 with
                            | zero => intro i250_13 hn; exact (loop_zero hn).elim
                            | succ n_250 ih_250 =>
                              intro i250_13 hn_250 hi_250
                              refine ml_blk 2 (S' := (254, [(0, .ref m0), (2, .int x2), (4, .int x4), (5, .long (f4 f (x2 + 4))), (8, .int (f2 f ((x2 + 8) + (Int64.toInt32 (f4 f (x2 + 4)))))), (9, .int (((x2 + 8) + (Int64.toInt32 (f4 f (x2 + 4)))) + 2)), (10, .int ((((x2 + 8) + (Int64.toInt32 (f4 f (x2 + 4)))) + 2) + (8 * (f2 f ((x2 + 8) + (Int64.toInt32 (f4 f (x2 + 4)))))))), (13, .int i250_13)], [.int (f2 f ((x2 + 8) + (Int64.toInt32 (f4 f (x2 + 4))))), .int i250_13], M)) rfl ?_
                              refine ml_if2 (S1 := (353, [(0, .ref m0), (2, .int x2), (4, .int x4), (5, .long (f4 f (x2 + 4))), (8, .int (f2 f ((x2 + 8) + (Int64.toInt32 (f4 f (x2 + 4)))))), (9, .int (((x2 + 8) + (Int64.toInt32 (f4 f (x2 + 4)))) + 2)), (10, .int ((((x2 + 8) + (Int64.toInt32 (f4 f (x2 + 4)))) + 2) + (8 * (f2 f ((x2 + 8) + (Int64.toInt32 (f4 f (x2 + 4)))))))), (13, .int i250_13)], [], M)) (S2 := (257, [(0, .ref m0), (2, .int x2), (4, .int x4), (5, .long (f4 f (x2 + 4))), (8, .int (f2 f ((x2 + 8) + (Int64.toInt32 (f4 f (x2 + 4)))))), (9, .int (((x2 + 8) + (Int64.toInt32 (f4 f (x2 + 4)))) + 2)), (10, .int ((((x2 + 8) + (Int64.toInt32 (f4 f (x2 + 4)))) + 2) + (8 * (f2 f ((x2 + 8) + (Int64.toInt32 (f4 f (x2 + 4)))))))), (13, .int i250_13)], [], M)) rfl rfl rfl (fun c_254 => ?_) (fun c_254 => ?_)
                              · have c_254 : (f2 f ((x2 + 8) + (Int64.toInt32 (f4 f (x2 + 4))))) ≤ i250_13 := of_decide_eq_true c_254
                                refine ml_st (S' := (354, [(0, .ref m0), (2, .int x2), (4, .int x4), (5, .long (f4 f (x2 + 4))), (8, .int (f2 f ((x2 + 8) + (Int64.toInt32 (f4 f (x2 + 4)))))), (9, .int (((x2 + 8) + (Int64.toInt32 (f4 f (x2 + 4)))) + 2)), (10, .int ((((x2 + 8) + (Int64.toInt32 (f4 f (x2 + 4)))) + 2) + (8 * (f2 f ((x2 + 8) + (Int64.toInt32 (f4 f (x2 + 4)))))))), (13, .int i250_13)], [.ref m0], M)) rfl rfl rfl ?_
                                refine rg_ref (S' := (357, [(0, .ref m0), (2, .int x2), (4, .int x4), (5, .long (f4 f (x2 + 4))), (8, .int (f2 f ((x2 + 8) + (Int64.toInt32 (f4 f (x2 + 4)))))), (9, .int (((x2 + 8) + (Int64.toInt32 (f4 f (x2 + 4)))) + 2)), (10, .int ((((x2 + 8) + (Int64.toInt32 (f4 f (x2 + 4)))) + 2) + (8 * (f2 f ((x2 + 8) + (Int64.toInt32 (f4 f (x2 + 4)))))))), (13, .int i250_13)], [.ref (q 39)], M)) rfl hR rfl rfl ?_
                                refine ml_blk 3 (S' := (361, [(0, .ref m0), (2, .int x2), (4, .int x4), (5, .long (f4 f (x2 + 4))), (8, .int (f2 f ((x2 + 8) + (Int64.toInt32 (f4 f (x2 + 4)))))), (9, .int (((x2 + 8) + (Int64.toInt32 (f4 f (x2 + 4)))) + 2)), (10, .int ((((x2 + 8) + (Int64.toInt32 (f4 f (x2 + 4)))) + 2) + (8 * (f2 f ((x2 + 8) + (Int64.toInt32 (f4 f (x2 + 4)))))))), (13, .int i250_13)], [.int x2, .ref m0, .int x4, .ref (q 39)], M)) rfl ?_
                                refine ml_call (a := [.ref m0, .int x2]) (rest := [.int x4, .ref (q 39)]) rfl (hR.okc rfl rfl rfl) rfl rfl (rm_u2 hR hF (by omega) (by omega) (by omega)) (fun v27 M28 h29 => ?_)
                                obtain ⟨rfl, h29⟩ := h29
                                rw [h29]
                                show ml _ _ _ (364, [(0, .ref m0), (2, .int x2), (4, .int x4), (5, .long (f4 f (x2 + 4))), (8, .int (f2 f ((x2 + 8) + (Int64.toInt32 (f4 f (x2 + 4)))))), (9, .int (((x2 + 8) + (Int64.toInt32 (f4 f (x2 + 4)))) + 2)), (10, .int ((((x2 + 8) + (Int64.toInt32 (f4 f (x2 + 4)))) + 2) + (8 * (f2 f ((x2 + 8) + (Int64.toInt32 (f4 f (x2 + 4)))))))), (13, .int i250_13)], [.int (f2 f x2), .int x4, .ref (q 39)], M) _
                                refine ra_st (k := 39) rfl hR rfl (vin_lt ho0 (by omega)) (fun M30 R31 hR32 e33 g34 f35 => ?_)
                                show ml _ _ _ (365, [(0, .ref m0), (2, .int x2), (4, .int x4), (5, .long (f4 f (x2 + 4))), (8, .int (f2 f ((x2 + 8) + (Int64.toInt32 (f4 f (x2 + 4)))))), (9, .int (((x2 + 8) + (Int64.toInt32 (f4 f (x2 + 4)))) + 2)), (10, .int ((((x2 + 8) + (Int64.toInt32 (f4 f (x2 + 4)))) + 2) + (8 * (f2 f ((x2 + 8) + (Int64.toInt32 (f4 f (x2 + 4)))))))), (13, .int i250_13)], [], M30) _
                                refine ml_st (S' := (366, [(0, .ref m0), (2, .int x2), (4, .int x4), (5, .long (f4 f (x2 + 4))), (8, .int (f2 f ((x2 + 8) + (Int64.toInt32 (f4 f (x2 + 4)))))), (9, .int (((x2 + 8) + (Int64.toInt32 (f4 f (x2 + 4)))) + 2)), (10, .int ((((x2 + 8) + (Int64.toInt32 (f4 f (x2 + 4)))) + 2) + (8 * (f2 f ((x2 + 8) + (Int64.toInt32 (f4 f (x2 + 4)))))))), (13, .int i250_13)], [.ref m0], M30)) rfl rfl rfl ?_
                                refine rg_ref (S' := (369, [(0, .ref m0), (2, .int x2), (4, .int x4), (5, .long (f4 f (x2 + 4))), (8, .int (f2 f ((x2 + 8) + (Int64.toInt32 (f4 f (x2 + 4)))))), (9, .int (((x2 + 8) + (Int64.toInt32 (f4 f (x2 + 4)))) + 2)), (10, .int ((((x2 + 8) + (Int64.toInt32 (f4 f (x2 + 4)))) + 2) + (8 * (f2 f ((x2 + 8) + (Int64.toInt32 (f4 f (x2 + 4)))))))), (13, .int i250_13)], [.ref (q 40)], M30)) rfl hR32 rfl rfl ?_
                                refine ml_blk 3 (S' := (373, [(0, .ref m0), (2, .int x2), (4, .int x4), (5, .long (f4 f (x2 + 4))), (8, .int (f2 f ((x2 + 8) + (Int64.toInt32 (f4 f (x2 + 4)))))), (9, .int (((x2 + 8) + (Int64.toInt32 (f4 f (x2 + 4)))) + 2)), (10, .int ((((x2 + 8) + (Int64.toInt32 (f4 f (x2 + 4)))) + 2) + (8 * (f2 f ((x2 + 8) + (Int64.toInt32 (f4 f (x2 + 4)))))))), (13, .int i250_13)], [.int x2, .ref m0, .int x4, .ref (q 40)], M30)) rfl ?_
                                refine ml_blk 2 (S' := (375, [(0, .ref m0), (2, .int x2), (4, .int x4), (5, .long (f4 f (x2 + 4))), (8, .int (f2 f ((x2 + 8) + (Int64.toInt32 (f4 f (x2 + 4)))))), (9, .int (((x2 + 8) + (Int64.toInt32 (f4 f (x2 + 4)))) + 2)), (10, .int ((((x2 + 8) + (Int64.toInt32 (f4 f (x2 + 4)))) + 2) + (8 * (f2 f ((x2 + 8) + (Int64.toInt32 (f4 f (x2 + 4)))))))), (13, .int i250_13)], [.int (x2 + 2), .ref m0, .int x4, .ref (q 40)], M30)) rfl ?_
                                have hF36 : FK n f I R31 := (hF.mono (fun _ _ => rfl) (pRx f35 (by decide)))
                                refine ml_call (a := [.ref m0, .int (x2 + 2)]) (rest := [.int x4, .ref (q 40)]) rfl (hR32.okc rfl rfl rfl) rfl rfl (rm_u2 hR32 hF36 (by omega) (by omega) (by omega)) (fun v37 M38 h39 => ?_)
                                obtain ⟨rfl, h39⟩ := h39
                                rw [h39]
                                show ml _ _ _ (378, [(0, .ref m0), (2, .int x2), (4, .int x4), (5, .long (f4 f (x2 + 4))), (8, .int (f2 f ((x2 + 8) + (Int64.toInt32 (f4 f (x2 + 4)))))), (9, .int (((x2 + 8) + (Int64.toInt32 (f4 f (x2 + 4)))) + 2)), (10, .int ((((x2 + 8) + (Int64.toInt32 (f4 f (x2 + 4)))) + 2) + (8 * (f2 f ((x2 + 8) + (Int64.toInt32 (f4 f (x2 + 4)))))))), (13, .int i250_13)], [.int (f2 f (x2 + 2)), .int x4, .ref (q 40)], M30) _
                                refine ra_st (k := 40) rfl hR32 rfl (vin_lt ho0 (by omega)) (fun M40 R41 hR42 e43 g44 f45 => ?_)
                                show ml _ _ _ (379, [(0, .ref m0), (2, .int x2), (4, .int x4), (5, .long (f4 f (x2 + 4))), (8, .int (f2 f ((x2 + 8) + (Int64.toInt32 (f4 f (x2 + 4)))))), (9, .int (((x2 + 8) + (Int64.toInt32 (f4 f (x2 + 4)))) + 2)), (10, .int ((((x2 + 8) + (Int64.toInt32 (f4 f (x2 + 4)))) + 2) + (8 * (f2 f ((x2 + 8) + (Int64.toInt32 (f4 f (x2 + 4)))))))), (13, .int i250_13)], [], M40) _
                                refine ml_st (S' := (380, [(0, .ref m0), (2, .int x2), (4, .int x4), (5, .long (f4 f (x2 + 4))), (8, .int (f2 f ((x2 + 8) + (Int64.toInt32 (f4 f (x2 + 4)))))), (9, .int (((x2 + 8) + (Int64.toInt32 (f4 f (x2 + 4)))) + 2)), (10, .int ((((x2 + 8) + (Int64.toInt32 (f4 f (x2 + 4)))) + 2) + (8 * (f2 f ((x2 + 8) + (Int64.toInt32 (f4 f (x2 + 4)))))))), (13, .int i250_13)], [.ref m0], M40)) rfl rfl rfl ?_
                                refine rg_ref (S' := (383, [(0, .ref m0), (2, .int x2), (4, .int x4), (5, .long (f4 f (x2 + 4))), (8, .int (f2 f ((x2 + 8) + (Int64.toInt32 (f4 f (x2 + 4)))))), (9, .int (((x2 + 8) + (Int64.toInt32 (f4 f (x2 + 4)))) + 2)), (10, .int ((((x2 + 8) + (Int64.toInt32 (f4 f (x2 + 4)))) + 2) + (8 * (f2 f ((x2 + 8) + (Int64.toInt32 (f4 f (x2 + 4)))))))), (13, .int i250_13)], [.ref (q 38)], M40)) rfl hR42 rfl rfl ?_
                                refine ml_blk 3 (S' := (388, [(0, .ref m0), (2, .int x2), (4, .int x4), (5, .long (f4 f (x2 + 4))), (8, .int (f2 f ((x2 + 8) + (Int64.toInt32 (f4 f (x2 + 4)))))), (9, .int (((x2 + 8) + (Int64.toInt32 (f4 f (x2 + 4)))) + 2)), (10, .int ((((x2 + 8) + (Int64.toInt32 (f4 f (x2 + 4)))) + 2) + (8 * (f2 f ((x2 + 8) + (Int64.toInt32 (f4 f (x2 + 4)))))))), (13, .int i250_13)], [.int (Int64.toInt32 (f4 f (x2 + 4))), .int x4, .ref (q 38)], M40)) rfl ?_
                                refine ra_st (k := 38) rfl hR42 rfl (vin_lt ho0 (by omega)) (fun M46 R47 hR48 e49 g50 f51 => ?_)
                                show ml _ _ _ (389, [(0, .ref m0), (2, .int x2), (4, .int x4), (5, .long (f4 f (x2 + 4))), (8, .int (f2 f ((x2 + 8) + (Int64.toInt32 (f4 f (x2 + 4)))))), (9, .int (((x2 + 8) + (Int64.toInt32 (f4 f (x2 + 4)))) + 2)), (10, .int ((((x2 + 8) + (Int64.toInt32 (f4 f (x2 + 4)))) + 2) + (8 * (f2 f ((x2 + 8) + (Int64.toInt32 (f4 f (x2 + 4)))))))), (13, .int i250_13)], [], M46) _
                                refine ml_st (S' := (390, [(0, .ref m0), (2, .int x2), (4, .int x4), (5, .long (f4 f (x2 + 4))), (8, .int (f2 f ((x2 + 8) + (Int64.toInt32 (f4 f (x2 + 4)))))), (9, .int (((x2 + 8) + (Int64.toInt32 (f4 f (x2 + 4)))) + 2)), (10, .int ((((x2 + 8) + (Int64.toInt32 (f4 f (x2 + 4)))) + 2) + (8 * (f2 f ((x2 + 8) + (Int64.toInt32 (f4 f (x2 + 4)))))))), (13, .int i250_13)], [.ref m0], M46)) rfl rfl rfl ?_
                                refine rg_ref (S' := (393, [(0, .ref m0), (2, .int x2), (4, .int x4), (5, .long (f4 f (x2 + 4))), (8, .int (f2 f ((x2 + 8) + (Int64.toInt32 (f4 f (x2 + 4)))))), (9, .int (((x2 + 8) + (Int64.toInt32 (f4 f (x2 + 4)))) + 2)), (10, .int ((((x2 + 8) + (Int64.toInt32 (f4 f (x2 + 4)))) + 2) + (8 * (f2 f ((x2 + 8) + (Int64.toInt32 (f4 f (x2 + 4)))))))), (13, .int i250_13)], [.ref (q 37)], M46)) rfl hR48 rfl rfl ?_
                                refine ml_blk 2 (S' := (396, [(0, .ref m0), (2, .int x2), (4, .int x4), (5, .long (f4 f (x2 + 4))), (8, .int (f2 f ((x2 + 8) + (Int64.toInt32 (f4 f (x2 + 4)))))), (9, .int (((x2 + 8) + (Int64.toInt32 (f4 f (x2 + 4)))) + 2)), (10, .int ((((x2 + 8) + (Int64.toInt32 (f4 f (x2 + 4)))) + 2) + (8 * (f2 f ((x2 + 8) + (Int64.toInt32 (f4 f (x2 + 4)))))))), (13, .int i250_13)], [.ref m0, .int x4, .ref (q 37)], M46)) rfl ?_
                                refine rg_int (S' := (399, [(0, .ref m0), (2, .int x2), (4, .int x4), (5, .long (f4 f (x2 + 4))), (8, .int (f2 f ((x2 + 8) + (Int64.toInt32 (f4 f (x2 + 4)))))), (9, .int (((x2 + 8) + (Int64.toInt32 (f4 f (x2 + 4)))) + 2)), (10, .int ((((x2 + 8) + (Int64.toInt32 (f4 f (x2 + 4)))) + 2) + (8 * (f2 f ((x2 + 8) + (Int64.toInt32 (f4 f (x2 + 4)))))))), (13, .int i250_13)], [.int 0, .int x4, .ref (q 37)], M46)) rfl hR48 rfl (hF.2.1) rfl ?_
                                refine ml_blk 3 (S' := (403, [(0, .ref m0), (2, .int x2), (4, .int x4), (5, .long (f4 f (x2 + 4))), (8, .int (f2 f ((x2 + 8) + (Int64.toInt32 (f4 f (x2 + 4)))))), (9, .int (((x2 + 8) + (Int64.toInt32 (f4 f (x2 + 4)))) + 2)), (10, .int ((((x2 + 8) + (Int64.toInt32 (f4 f (x2 + 4)))) + 2) + (8 * (f2 f ((x2 + 8) + (Int64.toInt32 (f4 f (x2 + 4)))))))), (13, .int i250_13)], [.int 8, .int (0 + x2), .int x4, .ref (q 37)], M46)) rfl ?_
                                refine ml_st (S' := (404, [(0, .ref m0), (2, .int x2), (4, .int x4), (5, .long (f4 f (x2 + 4))), (8, .int (f2 f ((x2 + 8) + (Int64.toInt32 (f4 f (x2 + 4)))))), (9, .int (((x2 + 8) + (Int64.toInt32 (f4 f (x2 + 4)))) + 2)), (10, .int ((((x2 + 8) + (Int64.toInt32 (f4 f (x2 + 4)))) + 2) + (8 * (f2 f ((x2 + 8) + (Int64.toInt32 (f4 f (x2 + 4)))))))), (13, .int i250_13)], [.int ((0 + x2) + 8), .int x4, .ref (q 37)], M46)) rfl rfl rfl ?_
                                refine ra_st (k := 37) rfl hR48 rfl (vin_lt ho0 (by omega)) (fun M52 R53 hR54 e55 g56 f57 => ?_)
                                show ml _ _ _ (405, [(0, .ref m0), (2, .int x2), (4, .int x4), (5, .long (f4 f (x2 + 4))), (8, .int (f2 f ((x2 + 8) + (Int64.toInt32 (f4 f (x2 + 4)))))), (9, .int (((x2 + 8) + (Int64.toInt32 (f4 f (x2 + 4)))) + 2)), (10, .int ((((x2 + 8) + (Int64.toInt32 (f4 f (x2 + 4)))) + 2) + (8 * (f2 f ((x2 + 8) + (Int64.toInt32 (f4 f (x2 + 4)))))))), (13, .int i250_13)], [], M52) _
                                refine ml_st (S' := (406, [(0, .ref m0), (2, .int x2), (4, .int x4), (5, .long (f4 f (x2 + 4))), (8, .int (f2 f ((x2 + 8) + (Int64.toInt32 (f4 f (x2 + 4)))))), (9, .int (((x2 + 8) + (Int64.toInt32 (f4 f (x2 + 4)))) + 2)), (10, .int ((((x2 + 8) + (Int64.toInt32 (f4 f (x2 + 4)))) + 2) + (8 * (f2 f ((x2 + 8) + (Int64.toInt32 (f4 f (x2 + 4)))))))), (13, .int i250_13)], [.ref m0], M52)) rfl rfl rfl ?_
                                refine rg_ref (S' := (409, [(0, .ref m0), (2, .int x2), (4, .int x4), (5, .long (f4 f (x2 + 4))), (8, .int (f2 f ((x2 + 8) + (Int64.toInt32 (f4 f (x2 + 4)))))), (9, .int (((x2 + 8) + (Int64.toInt32 (f4 f (x2 + 4)))) + 2)), (10, .int ((((x2 + 8) + (Int64.toInt32 (f4 f (x2 + 4)))) + 2) + (8 * (f2 f ((x2 + 8) + (Int64.toInt32 (f4 f (x2 + 4)))))))), (13, .int i250_13)], [.ref (q 41)], M52)) rfl hR54 rfl rfl ?_
                                refine ml_blk 2 (S' := (412, [(0, .ref m0), (2, .int x2), (4, .int x4), (5, .long (f4 f (x2 + 4))), (8, .int (f2 f ((x2 + 8) + (Int64.toInt32 (f4 f (x2 + 4)))))), (9, .int (((x2 + 8) + (Int64.toInt32 (f4 f (x2 + 4)))) + 2)), (10, .int ((((x2 + 8) + (Int64.toInt32 (f4 f (x2 + 4)))) + 2) + (8 * (f2 f ((x2 + 8) + (Int64.toInt32 (f4 f (x2 + 4)))))))), (13, .int i250_13)], [.ref m0, .int x4, .ref (q 41)], M52)) rfl ?_
                                refine rg_int (S' := (415, [(0, .ref m0), (2, .int x2), (4, .int x4), (5, .long (f4 f (x2 + 4))), (8, .int (f2 f ((x2 + 8) + (Int64.toInt32 (f4 f (x2 + 4)))))), (9, .int (((x2 + 8) + (Int64.toInt32 (f4 f (x2 + 4)))) + 2)), (10, .int ((((x2 + 8) + (Int64.toInt32 (f4 f (x2 + 4)))) + 2) + (8 * (f2 f ((x2 + 8) + (Int64.toInt32 (f4 f (x2 + 4)))))))), (13, .int i250_13)], [.int 0, .int x4, .ref (q 41)], M52)) rfl hR54 rfl (hF.2.1) rfl ?_
                                refine ml_blk 2 (S' := (418, [(0, .ref m0), (2, .int x2), (4, .int x4), (5, .long (f4 f (x2 + 4))), (8, .int (f2 f ((x2 + 8) + (Int64.toInt32 (f4 f (x2 + 4)))))), (9, .int (((x2 + 8) + (Int64.toInt32 (f4 f (x2 + 4)))) + 2)), (10, .int ((((x2 + 8) + (Int64.toInt32 (f4 f (x2 + 4)))) + 2) + (8 * (f2 f ((x2 + 8) + (Int64.toInt32 (f4 f (x2 + 4)))))))), (13, .int i250_13)], [.int (0 + (((x2 + 8) + (Int64.toInt32 (f4 f (x2 + 4)))) + 2)), .int x4, .ref (q 41)], M52)) rfl ?_
                                refine ra_st (k := 41) rfl hR54 rfl (vin_lt ho0 (by omega)) (fun M58 R59 hR60 e61 g62 f63 => ?_)
                                show ml _ _ _ (419, [(0, .ref m0), (2, .int x2), (4, .int x4), (5, .long (f4 f (x2 + 4))), (8, .int (f2 f ((x2 + 8) + (Int64.toInt32 (f4 f (x2 + 4)))))), (9, .int (((x2 + 8) + (Int64.toInt32 (f4 f (x2 + 4)))) + 2)), (10, .int ((((x2 + 8) + (Int64.toInt32 (f4 f (x2 + 4)))) + 2) + (8 * (f2 f ((x2 + 8) + (Int64.toInt32 (f4 f (x2 + 4)))))))), (13, .int i250_13)], [], M58) _
                                refine ml_st (S' := (420, [(0, .ref m0), (2, .int x2), (4, .int x4), (5, .long (f4 f (x2 + 4))), (8, .int (f2 f ((x2 + 8) + (Int64.toInt32 (f4 f (x2 + 4)))))), (9, .int (((x2 + 8) + (Int64.toInt32 (f4 f (x2 + 4)))) + 2)), (10, .int ((((x2 + 8) + (Int64.toInt32 (f4 f (x2 + 4)))) + 2) + (8 * (f2 f ((x2 + 8) + (Int64.toInt32 (f4 f (x2 + 4)))))))), (13, .int i250_13)], [.ref m0], M58)) rfl rfl rfl ?_
                                refine rg_ref (S' := (423, [(0, .ref m0), (2, .int x2), (4, .int x4), (5, .long (f4 f (x2 + 4))), (8, .int (f2 f ((x2 + 8) + (Int64.toInt32 (f4 f (x2 + 4)))))), (9, .int (((x2 + 8) + (Int64.toInt32 (f4 f (x2 + 4)))) + 2)), (10, .int ((((x2 + 8) + (Int64.toInt32 (f4 f (x2 + 4)))) + 2) + (8 * (f2 f ((x2 + 8) + (Int64.toInt32 (f4 f (x2 + 4)))))))), (13, .int i250_13)], [.ref (q 42)], M58)) rfl hR60 rfl rfl ?_
                                refine ml_blk 2 (S' := (427, [(0, .ref m0), (2, .int x2), (4, .int x4), (5, .long (f4 f (x2 + 4))), (8, .int (f2 f ((x2 + 8) + (Int64.toInt32 (f4 f (x2 + 4)))))), (9, .int (((x2 + 8) + (Int64.toInt32 (f4 f (x2 + 4)))) + 2)), (10, .int ((((x2 + 8) + (Int64.toInt32 (f4 f (x2 + 4)))) + 2) + (8 * (f2 f ((x2 + 8) + (Int64.toInt32 (f4 f (x2 + 4)))))))), (13, .int i250_13)], [.int (f2 f ((x2 + 8) + (Int64.toInt32 (f4 f (x2 + 4))))), .int x4, .ref (q 42)], M58)) rfl ?_
                                refine ra_st (k := 42) rfl hR60 rfl (vin_lt ho0 (by omega)) (fun M64 R65 hR66 e67 g68 f69 => ?_)
                                show ml _ _ _ (428, [(0, .ref m0), (2, .int x2), (4, .int x4), (5, .long (f4 f (x2 + 4))), (8, .int (f2 f ((x2 + 8) + (Int64.toInt32 (f4 f (x2 + 4)))))), (9, .int (((x2 + 8) + (Int64.toInt32 (f4 f (x2 + 4)))) + 2)), (10, .int ((((x2 + 8) + (Int64.toInt32 (f4 f (x2 + 4)))) + 2) + (8 * (f2 f ((x2 + 8) + (Int64.toInt32 (f4 f (x2 + 4)))))))), (13, .int i250_13)], [], M64) _
                                refine ml_blk 3 (S' := (432, [(0, .ref m0), (2, .int x2), (4, .int x4), (5, .long (f4 f (x2 + 4))), (8, .int (f2 f ((x2 + 8) + (Int64.toInt32 (f4 f (x2 + 4)))))), (9, .int (((x2 + 8) + (Int64.toInt32 (f4 f (x2 + 4)))) + 2)), (10, .int ((((x2 + 8) + (Int64.toInt32 (f4 f (x2 + 4)))) + 2) + (8 * (f2 f ((x2 + 8) + (Int64.toInt32 (f4 f (x2 + 4)))))))), (13, .int i250_13)], [.int 3, .int ((((x2 + 8) + (Int64.toInt32 (f4 f (x2 + 4)))) + 2) + (8 * (f2 f ((x2 + 8) + (Int64.toInt32 (f4 f (x2 + 4))))))), .ref m0], M64)) rfl ?_
                                refine ml_st (S' := (434, [(0, .ref m0), (2, .int x2), (4, .int x4), (5, .long (f4 f (x2 + 4))), (8, .int (f2 f ((x2 + 8) + (Int64.toInt32 (f4 f (x2 + 4)))))), (9, .int (((x2 + 8) + (Int64.toInt32 (f4 f (x2 + 4)))) + 2)), (10, .int ((((x2 + 8) + (Int64.toInt32 (f4 f (x2 + 4)))) + 2) + (8 * (f2 f ((x2 + 8) + (Int64.toInt32 (f4 f (x2 + 4)))))))), (13, .int i250_13)], [.int x4, .int 3, .int ((((x2 + 8) + (Int64.toInt32 (f4 f (x2 + 4)))) + 2) + (8 * (f2 f ((x2 + 8) + (Int64.toInt32 (f4 f (x2 + 4))))))), .ref m0], M64)) rfl rfl rfl ?_
                                have hF70 : FK n f I R65 := (((((hF36.mono (fun _ _ => rfl) (pRx f45 (by decide))).mono (fun _ _ => rfl) (pRx f51 (by decide))).mono (fun _ _ => rfl) (pRx f57 (by decide))).mono (fun _ _ => rfl) (pRx f63 (by decide))).mono (fun _ _ => rfl) (pRx f69 (by decide)))
                                have hY71 : SK S cN sa sl ch I R65 := ((((((hY.mono (fun _ _ => rfl) (pRx f35 (by decide))).mono (fun _ _ => rfl) (pRx f45 (by decide))).mono (fun _ _ => rfl) (pRx f51 (by decide))).mono (fun _ _ => rfl) (pRx f57 (by decide))).mono (fun _ _ => rfl) (pRx f63 (by decide))).mono (fun _ _ => rfl) (pRx f69 (by decide)))
                                have hP72 : PK n f S cp mj pa py I R65 := ((((((hP.mono (fun _ _ => rfl) (pRx f35 (by decide))).mono (fun _ _ => rfl) (pRx f45 (by decide))).mono (fun _ _ => rfl) (pRx f51 (by decide))).mono (fun _ _ => rfl) (pRx f57 (by decide))).mono (fun _ _ => rfl) (pRx f63 (by decide))).mono (fun _ _ => rfl) (pRx f69 (by decide)))
                                have hK73 : KW I R65 := ((((((hK.mono (fun _ _ => rfl) (pRx f35 (by decide))).mono (fun _ _ => rfl) (pRx f45 (by decide))).mono (fun _ _ => rfl) (pRx f51 (by decide))).mono (fun _ _ => rfl) (pRx f57 (by decide))).mono (fun _ _ => rfl) (pRx f63 (by decide))).mono (fun _ _ => rfl) (pRx f69 (by decide)))
                                refine ml_call (a := [.ref m0, .int ((((x2 + 8) + (Int64.toInt32 (f4 f (x2 + 4)))) + 2) + (8 * (f2 f ((x2 + 8) + (Int64.toInt32 (f4 f (x2 + 4))))))), .int 3, .int x4]) (rest := []) rfl (hR66.okc rfl rfl rfl) rfl rfl (rm_checkAttributes3 hR66 hF70 hY71 hP72 hK73 (rfl) (hatt) (by omega)) (fun v74 M75 h76 => ?_)
                                obtain ⟨u82, I77, R78, rfl, hR79, hI80, hV81, w83⟩ := h76
                                show ml _ _ _ (437, [(0, .ref m0), (2, .int x2), (4, .int x4), (5, .long (f4 f (x2 + 4))), (8, .int (f2 f ((x2 + 8) + (Int64.toInt32 (f4 f (x2 + 4)))))), (9, .int (((x2 + 8) + (Int64.toInt32 (f4 f (x2 + 4)))) + 2)), (10, .int ((((x2 + 8) + (Int64.toInt32 (f4 f (x2 + 4)))) + 2) + (8 * (f2 f ((x2 + 8) + (Int64.toInt32 (f4 f (x2 + 4)))))))), (13, .int i250_13)], [.int u82], M75) _
                                refine ml_if (S1 := (444, [(0, .ref m0), (2, .int x2), (4, .int x4), (5, .long (f4 f (x2 + 4))), (8, .int (f2 f ((x2 + 8) + (Int64.toInt32 (f4 f (x2 + 4)))))), (9, .int (((x2 + 8) + (Int64.toInt32 (f4 f (x2 + 4)))) + 2)), (10, .int ((((x2 + 8) + (Int64.toInt32 (f4 f (x2 + 4)))) + 2) + (8 * (f2 f ((x2 + 8) + (Int64.toInt32 (f4 f (x2 + 4)))))))), (13, .int i250_13)], [], M75)) (S2 := (440, [(0, .ref m0), (2, .int x2), (4, .int x4), (5, .long (f4 f (x2 + 4))), (8, .int (f2 f ((x2 + 8) + (Int64.toInt32 (f4 f (x2 + 4)))))), (9, .int (((x2 + 8) + (Int64.toInt32 (f4 f (x2 + 4)))) + 2)), (10, .int ((((x2 + 8) + (Int64.toInt32 (f4 f (x2 + 4)))) + 2) + (8 * (f2 f ((x2 + 8) + (Int64.toInt32 (f4 f (x2 + 4)))))))), (13, .int i250_13)], [], M75)) rfl rfl rfl (fun c_437 => ?_) (fun c_437 => ?_)
                                · have c_437 : 0 ≤ u82 := of_decide_eq_true c_437
                                  refine ml_st (S' := (445, [], [.int 0], M75)) rfl rfl rfl ?_
                                  exact ml_ret rfl (rfl) (⟨_, _, _, rfl, hR79, (eqI.rf.tr hI80 (by decide)), (((((((eqR.rf.put f35 (by decide)).put f45 (by decide)).put f51 (by decide)).put f57 (by decide)).put f63 (by decide)).put f69 (by decide)).tr hV81 (by decide)), ⟨(((((((pw.rf.st g34 f35 rfl).st g44 f45 rfl).st g50 f51 rfl).st g56 f57 rfl).st g62 f63 rfl).st g68 f69 rfl).eq hV81), ⟨_, (congrFun ((hV81 37 (by decide)).trans ((f69 37 (by decide)).trans ((f63 37 (by decide))))) _).trans e55, Or.inr ⟨_, _, _, _, _, (congrFun ((hV81 38 (by decide)).trans ((f69 38 (by decide)).trans ((f63 38 (by decide)).trans ((f57 38 (by decide)))))) _).trans e49, (congrFun ((hV81 41 (by decide)).trans ((f69 41 (by decide)))) _).trans e61, (congrFun ((hV81 42 (by decide))) _).trans e67, (congrFun ((hV81 39 (by decide)).trans ((f69 39 (by decide)).trans ((f63 39 (by decide)).trans ((f57 39 (by decide)).trans ((f51 39 (by decide)).trans ((f45 39 (by decide)))))))) _).trans e33, (congrFun ((hV81 40 (by decide)).trans ((f69 40 (by decide)).trans ((f63 40 (by decide)).trans ((f57 40 (by decide)).trans ((f51 40 (by decide))))))) _).trans e43, by omega, by rw [z_add, i_add (by omega) (by omega), i8_, hdi]; omega, by rw [z_add]; omega, by omega, by rw [z_add]; omega⟩⟩, (kn.eq (kn.st (kn.st (kn.st (kn.st (kn.st (kn.st hkn e33 g34 f35) e43 g44 f45) e49 g50 f51) e55 g56 f57) e61 g62 f63) e67 g68 f69) hV81 (by decide))⟩⟩)
                                · have c_437 : ¬ (0 ≤ u82) := of_decide_eq_false c_437
                                  refine ml_st (S' := (441, [(0, .ref m0), (2, .int x2), (4, .int x4), (5, .long (f4 f (x2 + 4))), (8, .int (f2 f ((x2 + 8) + (Int64.toInt32 (f4 f (x2 + 4)))))), (9, .int (((x2 + 8) + (Int64.toInt32 (f4 f (x2 + 4)))) + 2)), (10, .int ((((x2 + 8) + (Int64.toInt32 (f4 f (x2 + 4)))) + 2) + (8 * (f2 f ((x2 + 8) + (Int64.toInt32 (f4 f (x2 + 4)))))))), (13, .int i250_13)], [.int (-1)], M75)) rfl rfl rfl ?_
                                  refine ml_st (S' := (445, [], [.int (-1)], M75)) rfl rfl rfl ?_
                                  exact ml_ret rfl (rfl) (⟨_, _, _, rfl, hR79, (eqI.rf.tr hI80 (by decide)), (((((((eqR.rf.put f35 (by decide)).put f45 (by decide)).put f51 (by decide)).put f57 (by decide)).put f63 (by decide)).put f69 (by decide)).tr hV81 (by decide)), ⟨(((((((pw.rf.st g34 f35 rfl).st g44 f45 rfl).st g50 f51 rfl).st g56 f57 rfl).st g62 f63 rfl).st g68 f69 rfl).eq hV81), ⟨_, (congrFun ((hV81 37 (by decide)).trans ((f69 37 (by decide)).trans ((f63 37 (by decide))))) _).trans e55, Or.inr ⟨_, _, _, _, _, (congrFun ((hV81 38 (by decide)).trans ((f69 38 (by decide)).trans ((f63 38 (by decide)).trans ((f57 38 (by decide)))))) _).trans e49, (congrFun ((hV81 41 (by decide)).trans ((f69 41 (by decide)))) _).trans e61, (congrFun ((hV81 42 (by decide))) _).trans e67, (congrFun ((hV81 39 (by decide)).trans ((f69 39 (by decide)).trans ((f63 39 (by decide)).trans ((f57 39 (by decide)).trans ((f51 39 (by decide)).trans ((f45 39 (by decide)))))))) _).trans e33, (congrFun ((hV81 40 (by decide)).trans ((f69 40 (by decide)).trans ((f63 40 (by decide)).trans ((f57 40 (by decide)).trans ((f51 40 (by decide))))))) _).trans e43, by omega, by rw [z_add, i_add (by omega) (by omega), i8_, hdi]; omega, by rw [z_add]; omega, by omega, by rw [z_add]; omega⟩⟩, (kn.eq (kn.st (kn.st (kn.st (kn.st (kn.st (kn.st hkn e33 g34 f35) e43 g44 f45) e49 g50 f51) e55 g56 f57) e61 g62 f63) e67 g68 f69) hV81 (by decide))⟩⟩)
                              · have c_254 : ¬ ((f2 f ((x2 + 8) + (Int64.toInt32 (f4 f (x2 + 4))))) ≤ i250_13) := of_decide_eq_false c_254
                                have hrl := i_nle c_254
                                have h8k := eight_k (k := i250_13) hi_250 (by omega)
                                have hrk : (((x2 + 8 + Int64.toInt32 (f4 f (x2 + 4))) + 2) + 8 * i250_13).toInt = x2.toInt + 10 + (f4 f (x2 + 4)).toInt + 8 * i250_13.toInt := by rw [i_add (by omega) (by omega), h8k, hqr]
                                have hk2 : ((((x2 + 8 + Int64.toInt32 (f4 f (x2 + 4))) + 2) + 8 * i250_13) + 2).toInt = (((x2 + 8 + Int64.toInt32 (f4 f (x2 + 4))) + 2) + 8 * i250_13).toInt + 2 := i_add (by have : (2 : Int32).toInt = 2 := rfl; omega) (by have : (2 : Int32).toInt = 2 := rfl; omega)
                                have hk4 : ((((x2 + 8 + Int64.toInt32 (f4 f (x2 + 4))) + 2) + 8 * i250_13) + 4).toInt = (((x2 + 8 + Int64.toInt32 (f4 f (x2 + 4))) + 2) + 8 * i250_13).toInt + 4 := i_add (by have : (4 : Int32).toInt = 4 := rfl; omega) (by have : (4 : Int32).toInt = 4 := rfl; omega)
                                have hk6 : ((((x2 + 8 + Int64.toInt32 (f4 f (x2 + 4))) + 2) + 8 * i250_13) + 6).toInt = (((x2 + 8 + Int64.toInt32 (f4 f (x2 + 4))) + 2) + 8 * i250_13).toInt + 6 := i_add (by have : (6 : Int32).toInt = 6 := rfl; omega) (by have : (6 : Int32).toInt = 6 := rfl; omega)
                                refine ml_blk 3 (S' := (263, [(0, .ref m0), (2, .int x2), (4, .int x4), (5, .long (f4 f (x2 + 4))), (8, .int (f2 f ((x2 + 8) + (Int64.toInt32 (f4 f (x2 + 4)))))), (9, .int (((x2 + 8) + (Int64.toInt32 (f4 f (x2 + 4)))) + 2)), (10, .int ((((x2 + 8) + (Int64.toInt32 (f4 f (x2 + 4)))) + 2) + (8 * (f2 f ((x2 + 8) + (Int64.toInt32 (f4 f (x2 + 4)))))))), (13, .int i250_13)], [.int i250_13, .int 8, .int (((x2 + 8) + (Int64.toInt32 (f4 f (x2 + 4)))) + 2)], M)) rfl ?_
                                refine ml_blk 2 (S' := (265, [(0, .ref m0), (2, .int x2), (4, .int x4), (5, .long (f4 f (x2 + 4))), (8, .int (f2 f ((x2 + 8) + (Int64.toInt32 (f4 f (x2 + 4)))))), (9, .int (((x2 + 8) + (Int64.toInt32 (f4 f (x2 + 4)))) + 2)), (10, .int ((((x2 + 8) + (Int64.toInt32 (f4 f (x2 + 4)))) + 2) + (8 * (f2 f ((x2 + 8) + (Int64.toInt32 (f4 f (x2 + 4)))))))), (13, .int i250_13)], [.int ((((x2 + 8) + (Int64.toInt32 (f4 f (x2 + 4)))) + 2) + (8 * i250_13))], M)) rfl ?_
                                refine ml_st (S' := (267, [(14, .int ((((x2 + 8) + (Int64.toInt32 (f4 f (x2 + 4)))) + 2) + (8 * i250_13))), (0, .ref m0), (2, .int x2), (4, .int x4), (5, .long (f4 f (x2 + 4))), (8, .int (f2 f ((x2 + 8) + (Int64.toInt32 (f4 f (x2 + 4)))))), (9, .int (((x2 + 8) + (Int64.toInt32 (f4 f (x2 + 4)))) + 2)), (10, .int ((((x2 + 8) + (Int64.toInt32 (f4 f (x2 + 4)))) + 2) + (8 * (f2 f ((x2 + 8) + (Int64.toInt32 (f4 f (x2 + 4)))))))), (13, .int i250_13)], [], M)) rfl rfl rfl ?_
                                refine ml_blk 2 (S' := (270, [(14, .int ((((x2 + 8) + (Int64.toInt32 (f4 f (x2 + 4)))) + 2) + (8 * i250_13))), (0, .ref m0), (2, .int x2), (4, .int x4), (5, .long (f4 f (x2 + 4))), (8, .int (f2 f ((x2 + 8) + (Int64.toInt32 (f4 f (x2 + 4)))))), (9, .int (((x2 + 8) + (Int64.toInt32 (f4 f (x2 + 4)))) + 2)), (10, .int ((((x2 + 8) + (Int64.toInt32 (f4 f (x2 + 4)))) + 2) + (8 * (f2 f ((x2 + 8) + (Int64.toInt32 (f4 f (x2 + 4)))))))), (13, .int i250_13)], [.int ((((x2 + 8) + (Int64.toInt32 (f4 f (x2 + 4)))) + 2) + (8 * i250_13)), .ref m0], M)) rfl ?_
                                refine ml_call (a := [.ref m0, .int ((((x2 + 8) + (Int64.toInt32 (f4 f (x2 + 4)))) + 2) + (8 * i250_13))]) (rest := []) rfl (hR.okc rfl rfl rfl) rfl rfl (rm_u2 hR hF (by omega) (by omega) (by omega)) (fun v84 M85 h86 => ?_)
                                obtain ⟨rfl, h86⟩ := h86
                                rw [h86]
                                show ml _ _ _ (273, [(14, .int ((((x2 + 8) + (Int64.toInt32 (f4 f (x2 + 4)))) + 2) + (8 * i250_13))), (0, .ref m0), (2, .int x2), (4, .int x4), (5, .long (f4 f (x2 + 4))), (8, .int (f2 f ((x2 + 8) + (Int64.toInt32 (f4 f (x2 + 4)))))), (9, .int (((x2 + 8) + (Int64.toInt32 (f4 f (x2 + 4)))) + 2)), (10, .int ((((x2 + 8) + (Int64.toInt32 (f4 f (x2 + 4)))) + 2) + (8 * (f2 f ((x2 + 8) + (Int64.toInt32 (f4 f (x2 + 4)))))))), (13, .int i250_13)], [.int (f2 f ((((x2 + 8) + (Int64.toInt32 (f4 f (x2 + 4)))) + 2) + (8 * i250_13)))], M) _
                                refine ml_blk 3 (S' := (277, [(14, .int ((((x2 + 8) + (Int64.toInt32 (f4 f (x2 + 4)))) + 2) + (8 * i250_13))), (0, .ref m0), (2, .int x2), (4, .int x4), (5, .long (f4 f (x2 + 4))), (8, .int (f2 f ((x2 + 8) + (Int64.toInt32 (f4 f (x2 + 4)))))), (9, .int (((x2 + 8) + (Int64.toInt32 (f4 f (x2 + 4)))) + 2)), (10, .int ((((x2 + 8) + (Int64.toInt32 (f4 f (x2 + 4)))) + 2) + (8 * (f2 f ((x2 + 8) + (Int64.toInt32 (f4 f (x2 + 4)))))))), (13, .int i250_13)], [.int 2, .int ((((x2 + 8) + (Int64.toInt32 (f4 f (x2 + 4)))) + 2) + (8 * i250_13)), .ref m0, .int (f2 f ((((x2 + 8) + (Int64.toInt32 (f4 f (x2 + 4)))) + 2) + (8 * i250_13)))], M)) rfl ?_
                                refine ml_st (S' := (278, [(14, .int ((((x2 + 8) + (Int64.toInt32 (f4 f (x2 + 4)))) + 2) + (8 * i250_13))), (0, .ref m0), (2, .int x2), (4, .int x4), (5, .long (f4 f (x2 + 4))), (8, .int (f2 f ((x2 + 8) + (Int64.toInt32 (f4 f (x2 + 4)))))), (9, .int (((x2 + 8) + (Int64.toInt32 (f4 f (x2 + 4)))) + 2)), (10, .int ((((x2 + 8) + (Int64.toInt32 (f4 f (x2 + 4)))) + 2) + (8 * (f2 f ((x2 + 8) + (Int64.toInt32 (f4 f (x2 + 4)))))))), (13, .int i250_13)], [.int (((((x2 + 8) + (Int64.toInt32 (f4 f (x2 + 4)))) + 2) + (8 * i250_13)) + 2), .ref m0, .int (f2 f ((((x2 + 8) + (Int64.toInt32 (f4 f (x2 + 4)))) + 2) + (8 * i250_13)))], M)) rfl rfl rfl ?_
                                refine ml_call (a := [.ref m0, .int (((((x2 + 8) + (Int64.toInt32 (f4 f (x2 + 4)))) + 2) + (8 * i250_13)) + 2)]) (rest := [.int (f2 f ((((x2 + 8) + (Int64.toInt32 (f4 f (x2 + 4)))) + 2) + (8 * i250_13)))]) rfl (hR.okc rfl rfl rfl) rfl rfl (rm_u2 hR hF (by omega) (by omega) (by omega)) (fun v87 M88 h89 => ?_)
                                obtain ⟨rfl, h89⟩ := h89
                                rw [h89]
                                show ml _ _ _ (281, [(14, .int ((((x2 + 8) + (Int64.toInt32 (f4 f (x2 + 4)))) + 2) + (8 * i250_13))), (0, .ref m0), (2, .int x2), (4, .int x4), (5, .long (f4 f (x2 + 4))), (8, .int (f2 f ((x2 + 8) + (Int64.toInt32 (f4 f (x2 + 4)))))), (9, .int (((x2 + 8) + (Int64.toInt32 (f4 f (x2 + 4)))) + 2)), (10, .int ((((x2 + 8) + (Int64.toInt32 (f4 f (x2 + 4)))) + 2) + (8 * (f2 f ((x2 + 8) + (Int64.toInt32 (f4 f (x2 + 4)))))))), (13, .int i250_13)], [.int (f2 f (((((x2 + 8) + (Int64.toInt32 (f4 f (x2 + 4)))) + 2) + (8 * i250_13)) + 2)), .int (f2 f ((((x2 + 8) + (Int64.toInt32 (f4 f (x2 + 4)))) + 2) + (8 * i250_13)))], M) _
                                have J_344 : ml (mT g) d (mb_196 g).2 (344, [], [], M) (fun v M' => ∃ (x : Int32) (I' : rI) (R' : rR), v = some (.int x) ∧ RS g m0 q z I' R' M' ∧ eqI [47, 48] I I' ∧ eqR [37, 38, 39, 40, 41, 42] R R' ∧ pw x4.toNatClampNeg R R' ∧ MCD f n x4.toNatClampNeg R' ∧ kn [38, 39, 40, 42, 43, 44] x4.toNatClampNeg R') := by
                                  refine ml_st (S' := (346, [], [.int 43], M)) rfl rfl rfl ?_
                                  exact ml_ret rfl (rfl) (⟨_, _, _, rfl, hR, eqI.rf, eqR.rf, ⟨pw.rf, hmc, hkn⟩⟩)
                                refine ml_if2 (S1 := (344, [], [], M)) (S2 := (284, [(14, .int ((((x2 + 8) + (Int64.toInt32 (f4 f (x2 + 4)))) + 2) + (8 * i250_13))), (0, .ref m0), (2, .int x2), (4, .int x4), (5, .long (f4 f (x2 + 4))), (8, .int (f2 f ((x2 + 8) + (Int64.toInt32 (f4 f (x2 + 4)))))), (9, .int (((x2 + 8) + (Int64.toInt32 (f4 f (x2 + 4)))) + 2)), (10, .int ((((x2 + 8) + (Int64.toInt32 (f4 f (x2 + 4)))) + 2) + (8 * (f2 f ((x2 + 8) + (Int64.toInt32 (f4 f (x2 + 4)))))))), (13, .int i250_13)], [], M)) rfl rfl rfl (fun c_281 => ?_) (fun c_281 => ?_)
                                · have c_281 : (f2 f (((((x2 + 8) + (Int64.toInt32 (f4 f (x2 + 4)))) + 2) + (8 * i250_13)) + 2)) ≤ (f2 f ((((x2 + 8) + (Int64.toInt32 (f4 f (x2 + 4)))) + 2) + (8 * i250_13))) := of_decide_eq_true c_281
                                  exact J_344 
                                · have c_281 : ¬ ((f2 f (((((x2 + 8) + (Int64.toInt32 (f4 f (x2 + 4)))) + 2) + (8 * i250_13)) + 2)) ≤ (f2 f ((((x2 + 8) + (Int64.toInt32 (f4 f (x2 + 4)))) + 2) + (8 * i250_13)))) := of_decide_eq_false c_281
                                  refine ml_blk 3 (S' := (288, [(14, .int ((((x2 + 8) + (Int64.toInt32 (f4 f (x2 + 4)))) + 2) + (8 * i250_13))), (0, .ref m0), (2, .int x2), (4, .int x4), (5, .long (f4 f (x2 + 4))), (8, .int (f2 f ((x2 + 8) + (Int64.toInt32 (f4 f (x2 + 4)))))), (9, .int (((x2 + 8) + (Int64.toInt32 (f4 f (x2 + 4)))) + 2)), (10, .int ((((x2 + 8) + (Int64.toInt32 (f4 f (x2 + 4)))) + 2) + (8 * (f2 f ((x2 + 8) + (Int64.toInt32 (f4 f (x2 + 4)))))))), (13, .int i250_13)], [.int 2, .int ((((x2 + 8) + (Int64.toInt32 (f4 f (x2 + 4)))) + 2) + (8 * i250_13)), .ref m0], M)) rfl ?_
                                  refine ml_st (S' := (289, [(14, .int ((((x2 + 8) + (Int64.toInt32 (f4 f (x2 + 4)))) + 2) + (8 * i250_13))), (0, .ref m0), (2, .int x2), (4, .int x4), (5, .long (f4 f (x2 + 4))), (8, .int (f2 f ((x2 + 8) + (Int64.toInt32 (f4 f (x2 + 4)))))), (9, .int (((x2 + 8) + (Int64.toInt32 (f4 f (x2 + 4)))) + 2)), (10, .int ((((x2 + 8) + (Int64.toInt32 (f4 f (x2 + 4)))) + 2) + (8 * (f2 f ((x2 + 8) + (Int64.toInt32 (f4 f (x2 + 4)))))))), (13, .int i250_13)], [.int (((((x2 + 8) + (Int64.toInt32 (f4 f (x2 + 4)))) + 2) + (8 * i250_13)) + 2), .ref m0], M)) rfl rfl rfl ?_
                                  refine ml_call (a := [.ref m0, .int (((((x2 + 8) + (Int64.toInt32 (f4 f (x2 + 4)))) + 2) + (8 * i250_13)) + 2)]) (rest := []) rfl (hR.okc rfl rfl rfl) rfl rfl (rm_u2 hR hF (by omega) (by omega) (by omega)) (fun v90 M91 h92 => ?_)
                                  obtain ⟨rfl, h92⟩ := h92
                                  rw [h92]
                                  show ml _ _ _ (292, [(14, .int ((((x2 + 8) + (Int64.toInt32 (f4 f (x2 + 4)))) + 2) + (8 * i250_13))), (0, .ref m0), (2, .int x2), (4, .int x4), (5, .long (f4 f (x2 + 4))), (8, .int (f2 f ((x2 + 8) + (Int64.toInt32 (f4 f (x2 + 4)))))), (9, .int (((x2 + 8) + (Int64.toInt32 (f4 f (x2 + 4)))) + 2)), (10, .int ((((x2 + 8) + (Int64.toInt32 (f4 f (x2 + 4)))) + 2) + (8 * (f2 f ((x2 + 8) + (Int64.toInt32 (f4 f (x2 + 4)))))))), (13, .int i250_13)], [.int (f2 f (((((x2 + 8) + (Int64.toInt32 (f4 f (x2 + 4)))) + 2) + (8 * i250_13)) + 2))], M) _
                                  refine ml_blk 3 (S' := (296, [(14, .int ((((x2 + 8) + (Int64.toInt32 (f4 f (x2 + 4)))) + 2) + (8 * i250_13))), (0, .ref m0), (2, .int x2), (4, .int x4), (5, .long (f4 f (x2 + 4))), (8, .int (f2 f ((x2 + 8) + (Int64.toInt32 (f4 f (x2 + 4)))))), (9, .int (((x2 + 8) + (Int64.toInt32 (f4 f (x2 + 4)))) + 2)), (10, .int ((((x2 + 8) + (Int64.toInt32 (f4 f (x2 + 4)))) + 2) + (8 * (f2 f ((x2 + 8) + (Int64.toInt32 (f4 f (x2 + 4)))))))), (13, .int i250_13)], [.int (lg_cmp (Int32.toInt64 (f2 f (((((x2 + 8) + (Int64.toInt32 (f4 f (x2 + 4)))) + 2) + (8 * i250_13)) + 2))) (f4 f (x2 + 4)))], M)) rfl ?_
                                  refine ml_if (S1 := (344, [], [], M)) (S2 := (299, [(14, .int ((((x2 + 8) + (Int64.toInt32 (f4 f (x2 + 4)))) + 2) + (8 * i250_13))), (0, .ref m0), (2, .int x2), (4, .int x4), (5, .long (f4 f (x2 + 4))), (8, .int (f2 f ((x2 + 8) + (Int64.toInt32 (f4 f (x2 + 4)))))), (9, .int (((x2 + 8) + (Int64.toInt32 (f4 f (x2 + 4)))) + 2)), (10, .int ((((x2 + 8) + (Int64.toInt32 (f4 f (x2 + 4)))) + 2) + (8 * (f2 f ((x2 + 8) + (Int64.toInt32 (f4 f (x2 + 4)))))))), (13, .int i250_13)], [], M)) rfl rfl rfl (fun c_296 => ?_) (fun c_296 => ?_)
                                  · have c_296 : 0 < (lg_cmp (Int32.toInt64 (f2 f (((((x2 + 8) + (Int64.toInt32 (f4 f (x2 + 4)))) + 2) + (8 * i250_13)) + 2))) (f4 f (x2 + 4))) := of_decide_eq_true c_296
                                    exact J_344 
                                  · have c_296 : ¬ (0 < (lg_cmp (Int32.toInt64 (f2 f (((((x2 + 8) + (Int64.toInt32 (f4 f (x2 + 4)))) + 2) + (8 * i250_13)) + 2))) (f4 f (x2 + 4)))) := of_decide_eq_false c_296
                                    refine ml_blk 3 (S' := (303, [(14, .int ((((x2 + 8) + (Int64.toInt32 (f4 f (x2 + 4)))) + 2) + (8 * i250_13))), (0, .ref m0), (2, .int x2), (4, .int x4), (5, .long (f4 f (x2 + 4))), (8, .int (f2 f ((x2 + 8) + (Int64.toInt32 (f4 f (x2 + 4)))))), (9, .int (((x2 + 8) + (Int64.toInt32 (f4 f (x2 + 4)))) + 2)), (10, .int ((((x2 + 8) + (Int64.toInt32 (f4 f (x2 + 4)))) + 2) + (8 * (f2 f ((x2 + 8) + (Int64.toInt32 (f4 f (x2 + 4)))))))), (13, .int i250_13)], [.int 4, .int ((((x2 + 8) + (Int64.toInt32 (f4 f (x2 + 4)))) + 2) + (8 * i250_13)), .ref m0], M)) rfl ?_
                                    refine ml_st (S' := (304, [(14, .int ((((x2 + 8) + (Int64.toInt32 (f4 f (x2 + 4)))) + 2) + (8 * i250_13))), (0, .ref m0), (2, .int x2), (4, .int x4), (5, .long (f4 f (x2 + 4))), (8, .int (f2 f ((x2 + 8) + (Int64.toInt32 (f4 f (x2 + 4)))))), (9, .int (((x2 + 8) + (Int64.toInt32 (f4 f (x2 + 4)))) + 2)), (10, .int ((((x2 + 8) + (Int64.toInt32 (f4 f (x2 + 4)))) + 2) + (8 * (f2 f ((x2 + 8) + (Int64.toInt32 (f4 f (x2 + 4)))))))), (13, .int i250_13)], [.int (((((x2 + 8) + (Int64.toInt32 (f4 f (x2 + 4)))) + 2) + (8 * i250_13)) + 4), .ref m0], M)) rfl rfl rfl ?_
                                    refine ml_call (a := [.ref m0, .int (((((x2 + 8) + (Int64.toInt32 (f4 f (x2 + 4)))) + 2) + (8 * i250_13)) + 4)]) (rest := []) rfl (hR.okc rfl rfl rfl) rfl rfl (rm_u2 hR hF (by omega) (by omega) (by omega)) (fun v93 M94 h95 => ?_)
                                    obtain ⟨rfl, h95⟩ := h95
                                    rw [h95]
                                    show ml _ _ _ (307, [(14, .int ((((x2 + 8) + (Int64.toInt32 (f4 f (x2 + 4)))) + 2) + (8 * i250_13))), (0, .ref m0), (2, .int x2), (4, .int x4), (5, .long (f4 f (x2 + 4))), (8, .int (f2 f ((x2 + 8) + (Int64.toInt32 (f4 f (x2 + 4)))))), (9, .int (((x2 + 8) + (Int64.toInt32 (f4 f (x2 + 4)))) + 2)), (10, .int ((((x2 + 8) + (Int64.toInt32 (f4 f (x2 + 4)))) + 2) + (8 * (f2 f ((x2 + 8) + (Int64.toInt32 (f4 f (x2 + 4)))))))), (13, .int i250_13)], [.int (f2 f (((((x2 + 8) + (Int64.toInt32 (f4 f (x2 + 4)))) + 2) + (8 * i250_13)) + 4))], M) _
                                    refine ml_blk 3 (S' := (311, [(14, .int ((((x2 + 8) + (Int64.toInt32 (f4 f (x2 + 4)))) + 2) + (8 * i250_13))), (0, .ref m0), (2, .int x2), (4, .int x4), (5, .long (f4 f (x2 + 4))), (8, .int (f2 f ((x2 + 8) + (Int64.toInt32 (f4 f (x2 + 4)))))), (9, .int (((x2 + 8) + (Int64.toInt32 (f4 f (x2 + 4)))) + 2)), (10, .int ((((x2 + 8) + (Int64.toInt32 (f4 f (x2 + 4)))) + 2) + (8 * (f2 f ((x2 + 8) + (Int64.toInt32 (f4 f (x2 + 4)))))))), (13, .int i250_13)], [.int (lg_cmp (Int32.toInt64 (f2 f (((((x2 + 8) + (Int64.toInt32 (f4 f (x2 + 4)))) + 2) + (8 * i250_13)) + 4))) (f4 f (x2 + 4)))], M)) rfl ?_
                                    refine ml_if (S1 := (344, [], [], M)) (S2 := (314, [(14, .int ((((x2 + 8) + (Int64.toInt32 (f4 f (x2 + 4)))) + 2) + (8 * i250_13))), (0, .ref m0), (2, .int x2), (4, .int x4), (5, .long (f4 f (x2 + 4))), (8, .int (f2 f ((x2 + 8) + (Int64.toInt32 (f4 f (x2 + 4)))))), (9, .int (((x2 + 8) + (Int64.toInt32 (f4 f (x2 + 4)))) + 2)), (10, .int ((((x2 + 8) + (Int64.toInt32 (f4 f (x2 + 4)))) + 2) + (8 * (f2 f ((x2 + 8) + (Int64.toInt32 (f4 f (x2 + 4)))))))), (13, .int i250_13)], [], M)) rfl rfl rfl (fun c_311 => ?_) (fun c_311 => ?_)
                                    · have c_311 : 0 ≤ (lg_cmp (Int32.toInt64 (f2 f (((((x2 + 8) + (Int64.toInt32 (f4 f (x2 + 4)))) + 2) + (8 * i250_13)) + 4))) (f4 f (x2 + 4))) := of_decide_eq_true c_311
                                      exact J_344 
                                    · have c_311 : ¬ (0 ≤ (lg_cmp (Int32.toInt64 (f2 f (((((x2 + 8) + (Int64.toInt32 (f4 f (x2 + 4)))) + 2) + (8 * i250_13)) + 4))) (f4 f (x2 + 4)))) := of_decide_eq_false c_311
                                      refine ml_blk 3 (S' := (319, [(14, .int ((((x2 + 8) + (Int64.toInt32 (f4 f (x2 + 4)))) + 2) + (8 * i250_13))), (0, .ref m0), (2, .int x2), (4, .int x4), (5, .long (f4 f (x2 + 4))), (8, .int (f2 f ((x2 + 8) + (Int64.toInt32 (f4 f (x2 + 4)))))), (9, .int (((x2 + 8) + (Int64.toInt32 (f4 f (x2 + 4)))) + 2)), (10, .int ((((x2 + 8) + (Int64.toInt32 (f4 f (x2 + 4)))) + 2) + (8 * (f2 f ((x2 + 8) + (Int64.toInt32 (f4 f (x2 + 4)))))))), (13, .int i250_13)], [.int 6, .int ((((x2 + 8) + (Int64.toInt32 (f4 f (x2 + 4)))) + 2) + (8 * i250_13)), .ref m0], M)) rfl ?_
                                      refine ml_st (S' := (320, [(14, .int ((((x2 + 8) + (Int64.toInt32 (f4 f (x2 + 4)))) + 2) + (8 * i250_13))), (0, .ref m0), (2, .int x2), (4, .int x4), (5, .long (f4 f (x2 + 4))), (8, .int (f2 f ((x2 + 8) + (Int64.toInt32 (f4 f (x2 + 4)))))), (9, .int (((x2 + 8) + (Int64.toInt32 (f4 f (x2 + 4)))) + 2)), (10, .int ((((x2 + 8) + (Int64.toInt32 (f4 f (x2 + 4)))) + 2) + (8 * (f2 f ((x2 + 8) + (Int64.toInt32 (f4 f (x2 + 4)))))))), (13, .int i250_13)], [.int (((((x2 + 8) + (Int64.toInt32 (f4 f (x2 + 4)))) + 2) + (8 * i250_13)) + 6), .ref m0], M)) rfl rfl rfl ?_
                                      refine ml_call (a := [.ref m0, .int (((((x2 + 8) + (Int64.toInt32 (f4 f (x2 + 4)))) + 2) + (8 * i250_13)) + 6)]) (rest := []) rfl (hR.okc rfl rfl rfl) rfl rfl (rm_u2 hR hF (by omega) (by omega) (by omega)) (fun v96 M97 h98 => ?_)
                                      obtain ⟨rfl, h98⟩ := h98
                                      rw [h98]
                                      show ml _ _ _ (323, [(14, .int ((((x2 + 8) + (Int64.toInt32 (f4 f (x2 + 4)))) + 2) + (8 * i250_13))), (0, .ref m0), (2, .int x2), (4, .int x4), (5, .long (f4 f (x2 + 4))), (8, .int (f2 f ((x2 + 8) + (Int64.toInt32 (f4 f (x2 + 4)))))), (9, .int (((x2 + 8) + (Int64.toInt32 (f4 f (x2 + 4)))) + 2)), (10, .int ((((x2 + 8) + (Int64.toInt32 (f4 f (x2 + 4)))) + 2) + (8 * (f2 f ((x2 + 8) + (Int64.toInt32 (f4 f (x2 + 4)))))))), (13, .int i250_13)], [.int (f2 f (((((x2 + 8) + (Int64.toInt32 (f4 f (x2 + 4)))) + 2) + (8 * i250_13)) + 6))], M) _
                                      refine ml_if (S1 := (347, [(0, .ref m0), (2, .int x2), (4, .int x4), (5, .long (f4 f (x2 + 4))), (8, .int (f2 f ((x2 + 8) + (Int64.toInt32 (f4 f (x2 + 4)))))), (9, .int (((x2 + 8) + (Int64.toInt32 (f4 f (x2 + 4)))) + 2)), (10, .int ((((x2 + 8) + (Int64.toInt32 (f4 f (x2 + 4)))) + 2) + (8 * (f2 f ((x2 + 8) + (Int64.toInt32 (f4 f (x2 + 4)))))))), (13, .int i250_13)], [], M)) (S2 := (326, [(14, .int ((((x2 + 8) + (Int64.toInt32 (f4 f (x2 + 4)))) + 2) + (8 * i250_13))), (0, .ref m0), (2, .int x2), (4, .int x4), (5, .long (f4 f (x2 + 4))), (8, .int (f2 f ((x2 + 8) + (Int64.toInt32 (f4 f (x2 + 4)))))), (9, .int (((x2 + 8) + (Int64.toInt32 (f4 f (x2 + 4)))) + 2)), (10, .int ((((x2 + 8) + (Int64.toInt32 (f4 f (x2 + 4)))) + 2) + (8 * (f2 f ((x2 + 8) + (Int64.toInt32 (f4 f (x2 + 4)))))))), (13, .int i250_13)], [], M)) rfl rfl rfl (fun c_323 => ?_) (fun c_323 => ?_)
                                      · have c_323 : (f2 f (((((x2 + 8) + (Int64.toInt32 (f4 f (x2 + 4)))) + 2) + (8 * i250_13)) + 6)) = 0 := of_decide_eq_true c_323
                                        refine ml_st (S' := (350, [(13, .int (i250_13 + 1)), (0, .ref m0), (2, .int x2), (4, .int x4), (5, .long (f4 f (x2 + 4))), (8, .int (f2 f ((x2 + 8) + (Int64.toInt32 (f4 f (x2 + 4)))))), (9, .int (((x2 + 8) + (Int64.toInt32 (f4 f (x2 + 4)))) + 2)), (10, .int ((((x2 + 8) + (Int64.toInt32 (f4 f (x2 + 4)))) + 2) + (8 * (f2 f ((x2 + 8) + (Int64.toInt32 (f4 f (x2 + 4))))))))], [], M)) rfl rfl rfl ?_
                                        refine ml_st (S' := (250, [(0, .ref m0), (2, .int x2), (4, .int x4), (5, .long (f4 f (x2 + 4))), (8, .int (f2 f ((x2 + 8) + (Int64.toInt32 (f4 f (x2 + 4)))))), (9, .int (((x2 + 8) + (Int64.toInt32 (f4 f (x2 + 4)))) + 2)), (10, .int ((((x2 + 8) + (Int64.toInt32 (f4 f (x2 + 4)))) + 2) + (8 * (f2 f ((x2 + 8) + (Int64.toInt32 (f4 f (x2 + 4)))))))), (13, .int (i250_13 + 1))], [], M)) rfl rfl rfl ?_
                                        exact ih_250 (i250_13 + 1) (loop_inc (Int32.not_le.mp c_254) hn_250) (by rw [inc_lt (Int32.not_le.mp c_254)]; omega)
                                      · have c_323 : ¬ ((f2 f (((((x2 + 8) + (Int64.toInt32 (f4 f (x2 + 4)))) + 2) + (8 * i250_13)) + 6)) = 0) := of_decide_eq_false c_323
                                        refine ml_blk 3 (S' := (330, [(14, .int ((((x2 + 8) + (Int64.toInt32 (f4 f (x2 + 4)))) + 2) + (8 * i250_13))), (0, .ref m0), (2, .int x2), (4, .int x4), (5, .long (f4 f (x2 + 4))), (8, .int (f2 f ((x2 + 8) + (Int64.toInt32 (f4 f (x2 + 4)))))), (9, .int (((x2 + 8) + (Int64.toInt32 (f4 f (x2 + 4)))) + 2)), (10, .int ((((x2 + 8) + (Int64.toInt32 (f4 f (x2 + 4)))) + 2) + (8 * (f2 f ((x2 + 8) + (Int64.toInt32 (f4 f (x2 + 4)))))))), (13, .int i250_13)], [.int ((((x2 + 8) + (Int64.toInt32 (f4 f (x2 + 4)))) + 2) + (8 * i250_13)), .ref m0, .ref m0], M)) rfl ?_
                                        refine ml_blk 2 (S' := (333, [(14, .int ((((x2 + 8) + (Int64.toInt32 (f4 f (x2 + 4)))) + 2) + (8 * i250_13))), (0, .ref m0), (2, .int x2), (4, .int x4), (5, .long (f4 f (x2 + 4))), (8, .int (f2 f ((x2 + 8) + (Int64.toInt32 (f4 f (x2 + 4)))))), (9, .int (((x2 + 8) + (Int64.toInt32 (f4 f (x2 + 4)))) + 2)), (10, .int ((((x2 + 8) + (Int64.toInt32 (f4 f (x2 + 4)))) + 2) + (8 * (f2 f ((x2 + 8) + (Int64.toInt32 (f4 f (x2 + 4)))))))), (13, .int i250_13)], [.int (((((x2 + 8) + (Int64.toInt32 (f4 f (x2 + 4)))) + 2) + (8 * i250_13)) + 6), .ref m0, .ref m0], M)) rfl ?_
                                        refine ml_call (a := [.ref m0, .int (((((x2 + 8) + (Int64.toInt32 (f4 f (x2 + 4)))) + 2) + (8 * i250_13)) + 6)]) (rest := [.ref m0]) rfl (hR.okc rfl rfl rfl) rfl rfl (rm_u2 hR hF (by omega) (by omega) (by omega)) (fun v99 M100 h101 => ?_)
                                        obtain ⟨rfl, h101⟩ := h101
                                        rw [h101]
                                        show ml _ _ _ (336, [(14, .int ((((x2 + 8) + (Int64.toInt32 (f4 f (x2 + 4)))) + 2) + (8 * i250_13))), (0, .ref m0), (2, .int x2), (4, .int x4), (5, .long (f4 f (x2 + 4))), (8, .int (f2 f ((x2 + 8) + (Int64.toInt32 (f4 f (x2 + 4)))))), (9, .int (((x2 + 8) + (Int64.toInt32 (f4 f (x2 + 4)))) + 2)), (10, .int ((((x2 + 8) + (Int64.toInt32 (f4 f (x2 + 4)))) + 2) + (8 * (f2 f ((x2 + 8) + (Int64.toInt32 (f4 f (x2 + 4)))))))), (13, .int i250_13)], [.int (f2 f (((((x2 + 8) + (Int64.toInt32 (f4 f (x2 + 4)))) + 2) + (8 * i250_13)) + 6)), .ref m0], M) _
                                        refine ml_call (a := [.ref m0, .int (f2 f (((((x2 + 8) + (Int64.toInt32 (f4 f (x2 + 4)))) + 2) + (8 * i250_13)) + 6))]) (rest := []) rfl (hR.okc rfl rfl rfl) rfl rfl (rm_tag hR hF hP (by omega)) (fun v102 M103 h104 => ?_)
                                        obtain ⟨rfl, h104⟩ := h104
                                        rw [h104]
                                        show ml _ _ _ (339, [(14, .int ((((x2 + 8) + (Int64.toInt32 (f4 f (x2 + 4)))) + 2) + (8 * i250_13))), (0, .ref m0), (2, .int x2), (4, .int x4), (5, .long (f4 f (x2 + 4))), (8, .int (f2 f ((x2 + 8) + (Int64.toInt32 (f4 f (x2 + 4)))))), (9, .int (((x2 + 8) + (Int64.toInt32 (f4 f (x2 + 4)))) + 2)), (10, .int ((((x2 + 8) + (Int64.toInt32 (f4 f (x2 + 4)))) + 2) + (8 * (f2 f ((x2 + 8) + (Int64.toInt32 (f4 f (x2 + 4)))))))), (13, .int i250_13)], [.int (tgf f cp pa (f2 f (((((x2 + 8) + (Int64.toInt32 (f4 f (x2 + 4)))) + 2) + (8 * i250_13)) + 6)))], M) _
                                        refine ml_st (S' := (341, [(14, .int ((((x2 + 8) + (Int64.toInt32 (f4 f (x2 + 4)))) + 2) + (8 * i250_13))), (0, .ref m0), (2, .int x2), (4, .int x4), (5, .long (f4 f (x2 + 4))), (8, .int (f2 f ((x2 + 8) + (Int64.toInt32 (f4 f (x2 + 4)))))), (9, .int (((x2 + 8) + (Int64.toInt32 (f4 f (x2 + 4)))) + 2)), (10, .int ((((x2 + 8) + (Int64.toInt32 (f4 f (x2 + 4)))) + 2) + (8 * (f2 f ((x2 + 8) + (Int64.toInt32 (f4 f (x2 + 4)))))))), (13, .int i250_13)], [.int 7, .int (tgf f cp pa (f2 f (((((x2 + 8) + (Int64.toInt32 (f4 f (x2 + 4)))) + 2) + (8 * i250_13)) + 6)))], M)) rfl rfl rfl ?_
                                        refine ml_if2 (S1 := (347, [(0, .ref m0), (2, .int x2), (4, .int x4), (5, .long (f4 f (x2 + 4))), (8, .int (f2 f ((x2 + 8) + (Int64.toInt32 (f4 f (x2 + 4)))))), (9, .int (((x2 + 8) + (Int64.toInt32 (f4 f (x2 + 4)))) + 2)), (10, .int ((((x2 + 8) + (Int64.toInt32 (f4 f (x2 + 4)))) + 2) + (8 * (f2 f ((x2 + 8) + (Int64.toInt32 (f4 f (x2 + 4)))))))), (13, .int i250_13)], [], M)) (S2 := (344, [], [], M)) rfl rfl rfl (fun c_341 => ?_) (fun c_341 => ?_)
                                        · have c_341 : (tgf f cp pa (f2 f (((((x2 + 8) + (Int64.toInt32 (f4 f (x2 + 4)))) + 2) + (8 * i250_13)) + 6))) = 7 := of_decide_eq_true c_341
                                          refine ml_st (S' := (350, [(13, .int (i250_13 + 1)), (0, .ref m0), (2, .int x2), (4, .int x4), (5, .long (f4 f (x2 + 4))), (8, .int (f2 f ((x2 + 8) + (Int64.toInt32 (f4 f (x2 + 4)))))), (9, .int (((x2 + 8) + (Int64.toInt32 (f4 f (x2 + 4)))) + 2)), (10, .int ((((x2 + 8) + (Int64.toInt32 (f4 f (x2 + 4)))) + 2) + (8 * (f2 f ((x2 + 8) + (Int64.toInt32 (f4 f (x2 + 4))))))))], [], M)) rfl rfl rfl ?_
                                          refine ml_st (S' := (250, [(0, .ref m0), (2, .int x2), (4, .int x4), (5, .long (f4 f (x2 + 4))), (8, .int (f2 f ((x2 + 8) + (Int64.toInt32 (f4 f (x2 + 4)))))), (9, .int (((x2 + 8) + (Int64.toInt32 (f4 f (x2 + 4)))) + 2)), (10, .int ((((x2 + 8) + (Int64.toInt32 (f4 f (x2 + 4)))) + 2) + (8 * (f2 f ((x2 + 8) + (Int64.toInt32 (f4 f (x2 + 4)))))))), (13, .int (i250_13 + 1))], [], M)) rfl rfl rfl ?_
                                          exact ih_250 (i250_13 + 1) (loop_inc (Int32.not_le.mp c_254) hn_250) (by rw [inc_lt (Int32.not_le.mp c_254)]; omega)
                                        · have c_341 : ¬ ((tgf f cp pa (f2 f (((((x2 + 8) + (Int64.toInt32 (f4 f (x2 + 4)))) + 2) + (8 * i250_13)) + 6))) = 7) := of_decide_eq_false c_341
                                          exact J_344 
                          exact L_250 _ 0 (Nat.le_refl _) (by decide)
                        · have c_241 : ¬ ((u23 + s229_0) ≤ (f2 f (x2 + 2))) := of_decide_eq_false c_241
                          refine ml_st (S' := (246, [(12, .int (u23 + s229_0)), (0, .ref m0), (2, .int x2), (4, .int x4), (5, .long (f4 f (x2 + 4))), (8, .int (f2 f ((x2 + 8) + (Int64.toInt32 (f4 f (x2 + 4)))))), (9, .int (((x2 + 8) + (Int64.toInt32 (f4 f (x2 + 4)))) + 2)), (10, .int ((((x2 + 8) + (Int64.toInt32 (f4 f (x2 + 4)))) + 2) + (8 * (f2 f ((x2 + 8) + (Int64.toInt32 (f4 f (x2 + 4))))))))], [.int 42], M)) rfl rfl rfl ?_
                          exact ml_ret rfl (rfl) (⟨_, _, _, rfl, hR, eqI.rf, eqR.rf, ⟨pw.rf, hmc, hkn⟩⟩)
                      refine ml_if (S1 := (228, [(0, .ref m0), (2, .int x2), (3, .int x3), (4, .int x4), (5, .long (f4 f (x2 + 4))), (7, .int i110_7), (8, .int (f2 f ((x2 + 8) + (Int64.toInt32 (f4 f (x2 + 4)))))), (9, .int (((x2 + 8) + (Int64.toInt32 (f4 f (x2 + 4)))) + 2)), (10, .int ((((x2 + 8) + (Int64.toInt32 (f4 f (x2 + 4)))) + 2) + (8 * (f2 f ((x2 + 8) + (Int64.toInt32 (f4 f (x2 + 4)))))))), (11, .int (f2 f ((((x2 + 8) + (Int64.toInt32 (f4 f (x2 + 4)))) + 2) + (8 * (f2 f ((x2 + 8) + (Int64.toInt32 (f4 f (x2 + 4))))))))), (12, .int i110_12)], [.int u23], M)) (S2 := (224, [(0, .ref m0), (2, .int x2), (3, .int x3), (4, .int x4), (5, .long (f4 f (x2 + 4))), (7, .int i110_7), (8, .int (f2 f ((x2 + 8) + (Int64.toInt32 (f4 f (x2 + 4)))))), (9, .int (((x2 + 8) + (Int64.toInt32 (f4 f (x2 + 4)))) + 2)), (10, .int ((((x2 + 8) + (Int64.toInt32 (f4 f (x2 + 4)))) + 2) + (8 * (f2 f ((x2 + 8) + (Int64.toInt32 (f4 f (x2 + 4)))))))), (11, .int (f2 f ((((x2 + 8) + (Int64.toInt32 (f4 f (x2 + 4)))) + 2) + (8 * (f2 f ((x2 + 8) + (Int64.toInt32 (f4 f (x2 + 4))))))))), (12, .int i110_12)], [.int u23], M)) rfl rfl rfl (fun c_221 => ?_) (fun c_221 => ?_)
                      · have c_221 : ¬ (fl &&& 8) = 0 := of_decide_eq_true c_221
                        refine ml_st (S' := (229, [(0, .ref m0), (2, .int x2), (4, .int x4), (5, .long (f4 f (x2 + 4))), (8, .int (f2 f ((x2 + 8) + (Int64.toInt32 (f4 f (x2 + 4)))))), (9, .int (((x2 + 8) + (Int64.toInt32 (f4 f (x2 + 4)))) + 2)), (10, .int ((((x2 + 8) + (Int64.toInt32 (f4 f (x2 + 4)))) + 2) + (8 * (f2 f ((x2 + 8) + (Int64.toInt32 (f4 f (x2 + 4))))))))], [.int 0, .int u23], M)) rfl rfl rfl ?_
                        exact J_229 0
                      · have c_221 : ¬ (¬ (fl &&& 8) = 0) := of_decide_eq_false c_221
                        refine ml_st (S' := (225, [(0, .ref m0), (2, .int x2), (3, .int x3), (4, .int x4), (5, .long (f4 f (x2 + 4))), (7, .int i110_7), (8, .int (f2 f ((x2 + 8) + (Int64.toInt32 (f4 f (x2 + 4)))))), (9, .int (((x2 + 8) + (Int64.toInt32 (f4 f (x2 + 4)))) + 2)), (10, .int ((((x2 + 8) + (Int64.toInt32 (f4 f (x2 + 4)))) + 2) + (8 * (f2 f ((x2 + 8) + (Int64.toInt32 (f4 f (x2 + 4)))))))), (11, .int (f2 f ((((x2 + 8) + (Int64.toInt32 (f4 f (x2 + 4)))) + 2) + (8 * (f2 f ((x2 + 8) + (Int64.toInt32 (f4 f (x2 + 4))))))))), (12, .int i110_12)], [.int 1, .int u23], M)) rfl rfl rfl ?_
                        refine ml_st (S' := (229, [(0, .ref m0), (2, .int x2), (4, .int x4), (5, .long (f4 f (x2 + 4))), (8, .int (f2 f ((x2 + 8) + (Int64.toInt32 (f4 f (x2 + 4)))))), (9, .int (((x2 + 8) + (Int64.toInt32 (f4 f (x2 + 4)))) + 2)), (10, .int ((((x2 + 8) + (Int64.toInt32 (f4 f (x2 + 4)))) + 2) + (8 * (f2 f ((x2 + 8) + (Int64.toInt32 (f4 f (x2 + 4))))))))], [.int 1, .int u23], M)) rfl rfl rfl ?_
                        exact J_229 1
                    · have c_194 : ¬ ((lg_cmp (f4 f (x2 + 4)) 65535) ≤ 0) := of_decide_eq_false c_194
                      refine ml_st (S' := (199, [], [.int 41], M)) rfl rfl rfl ?_
                      exact ml_ret rfl (rfl) (⟨_, _, _, rfl, hR, eqI.rf, eqR.rf, ⟨pw.rf, hmc, hkn⟩⟩)
                · have c_175 : ¬ (i110_7 = x3) := of_decide_eq_false c_175
                  refine ml_st (S' := (180, [(0, .ref m0), (2, .int x2), (3, .int x3), (4, .int x4), (5, .long (f4 f (x2 + 4))), (7, .int i110_7), (8, .int (f2 f ((x2 + 8) + (Int64.toInt32 (f4 f (x2 + 4)))))), (9, .int (((x2 + 8) + (Int64.toInt32 (f4 f (x2 + 4)))) + 2)), (10, .int ((((x2 + 8) + (Int64.toInt32 (f4 f (x2 + 4)))) + 2) + (8 * (f2 f ((x2 + 8) + (Int64.toInt32 (f4 f (x2 + 4)))))))), (11, .int (f2 f ((((x2 + 8) + (Int64.toInt32 (f4 f (x2 + 4)))) + 2) + (8 * (f2 f ((x2 + 8) + (Int64.toInt32 (f4 f (x2 + 4))))))))), (12, .int i110_12)], [.int 30], M)) rfl rfl rfl ?_
                  exact ml_ret rfl (rfl) (⟨_, _, _, rfl, hR, eqI.rf, eqR.rf, ⟨pw.rf, hmc, hkn⟩⟩)
              · have c_114 : ¬ ((f2 f ((((x2 + 8) + (Int64.toInt32 (f4 f (x2 + 4)))) + 2) + (8 * (f2 f ((x2 + 8) + (Int64.toInt32 (f4 f (x2 + 4)))))))) ≤ i110_12) := of_decide_eq_false c_114
                refine ml_blk 3 (S' := (122, [(0, .ref m0), (2, .int x2), (3, .int x3), (4, .int x4), (5, .long (f4 f (x2 + 4))), (7, .int i110_7), (8, .int (f2 f ((x2 + 8) + (Int64.toInt32 (f4 f (x2 + 4)))))), (9, .int (((x2 + 8) + (Int64.toInt32 (f4 f (x2 + 4)))) + 2)), (10, .int ((((x2 + 8) + (Int64.toInt32 (f4 f (x2 + 4)))) + 2) + (8 * (f2 f ((x2 + 8) + (Int64.toInt32 (f4 f (x2 + 4)))))))), (11, .int (f2 f ((((x2 + 8) + (Int64.toInt32 (f4 f (x2 + 4)))) + 2) + (8 * (f2 f ((x2 + 8) + (Int64.toInt32 (f4 f (x2 + 4))))))))), (12, .int i110_12)], [.int (i110_7 + 6)], M)) rfl ?_
                refine ml_st (S' := (123, [(0, .ref m0), (2, .int x2), (3, .int x3), (4, .int x4), (5, .long (f4 f (x2 + 4))), (7, .int i110_7), (8, .int (f2 f ((x2 + 8) + (Int64.toInt32 (f4 f (x2 + 4)))))), (9, .int (((x2 + 8) + (Int64.toInt32 (f4 f (x2 + 4)))) + 2)), (10, .int ((((x2 + 8) + (Int64.toInt32 (f4 f (x2 + 4)))) + 2) + (8 * (f2 f ((x2 + 8) + (Int64.toInt32 (f4 f (x2 + 4)))))))), (11, .int (f2 f ((((x2 + 8) + (Int64.toInt32 (f4 f (x2 + 4)))) + 2) + (8 * (f2 f ((x2 + 8) + (Int64.toInt32 (f4 f (x2 + 4))))))))), (12, .int i110_12)], [.int x3, .int (i110_7 + 6)], M)) rfl rfl rfl ?_
                refine ml_if2 (S1 := (146, [], [], M)) (S2 := (126, [(0, .ref m0), (2, .int x2), (3, .int x3), (4, .int x4), (5, .long (f4 f (x2 + 4))), (7, .int i110_7), (8, .int (f2 f ((x2 + 8) + (Int64.toInt32 (f4 f (x2 + 4)))))), (9, .int (((x2 + 8) + (Int64.toInt32 (f4 f (x2 + 4)))) + 2)), (10, .int ((((x2 + 8) + (Int64.toInt32 (f4 f (x2 + 4)))) + 2) + (8 * (f2 f ((x2 + 8) + (Int64.toInt32 (f4 f (x2 + 4)))))))), (11, .int (f2 f ((((x2 + 8) + (Int64.toInt32 (f4 f (x2 + 4)))) + 2) + (8 * (f2 f ((x2 + 8) + (Int64.toInt32 (f4 f (x2 + 4))))))))), (12, .int i110_12)], [], M)) rfl rfl rfl (fun c_123 => ?_) (fun c_123 => ?_)
                · have c_123 : x3 < (i110_7 + 6) := of_decide_eq_true c_123
                  refine ml_st (S' := (148, [], [.int 30], M)) rfl rfl rfl ?_
                  exact ml_ret rfl (rfl) (⟨_, _, _, rfl, hR, eqI.rf, eqR.rf, ⟨pw.rf, hmc, hkn⟩⟩)
                · have c_123 : ¬ (x3 < (i110_7 + 6)) := of_decide_eq_false c_123
                  have hs6 := i_nlt c_123
                  rw [i_add (by have : (6 : Int32).toInt = 6 := rfl; omega) (by have : (6 : Int32).toInt = 6 := rfl; omega)] at hs6
                  have i6_ : (6 : Int32).toInt = 6 := rfl
                  have er2 : (i110_7 + 2).toInt = i110_7.toInt + 2 := i_add (by have : (2 : Int32).toInt = 2 := rfl; omega) (by have : (2 : Int32).toInt = 2 := rfl; omega)
                  refine ml_blk 3 (S' := (130, [(0, .ref m0), (2, .int x2), (3, .int x3), (4, .int x4), (5, .long (f4 f (x2 + 4))), (7, .int i110_7), (8, .int (f2 f ((x2 + 8) + (Int64.toInt32 (f4 f (x2 + 4)))))), (9, .int (((x2 + 8) + (Int64.toInt32 (f4 f (x2 + 4)))) + 2)), (10, .int ((((x2 + 8) + (Int64.toInt32 (f4 f (x2 + 4)))) + 2) + (8 * (f2 f ((x2 + 8) + (Int64.toInt32 (f4 f (x2 + 4)))))))), (11, .int (f2 f ((((x2 + 8) + (Int64.toInt32 (f4 f (x2 + 4)))) + 2) + (8 * (f2 f ((x2 + 8) + (Int64.toInt32 (f4 f (x2 + 4))))))))), (12, .int i110_12)], [.int 2, .int i110_7, .ref m0], M)) rfl ?_
                  refine ml_st (S' := (131, [(0, .ref m0), (2, .int x2), (3, .int x3), (4, .int x4), (5, .long (f4 f (x2 + 4))), (7, .int i110_7), (8, .int (f2 f ((x2 + 8) + (Int64.toInt32 (f4 f (x2 + 4)))))), (9, .int (((x2 + 8) + (Int64.toInt32 (f4 f (x2 + 4)))) + 2)), (10, .int ((((x2 + 8) + (Int64.toInt32 (f4 f (x2 + 4)))) + 2) + (8 * (f2 f ((x2 + 8) + (Int64.toInt32 (f4 f (x2 + 4)))))))), (11, .int (f2 f ((((x2 + 8) + (Int64.toInt32 (f4 f (x2 + 4)))) + 2) + (8 * (f2 f ((x2 + 8) + (Int64.toInt32 (f4 f (x2 + 4))))))))), (12, .int i110_12)], [.int (i110_7 + 2), .ref m0], M)) rfl rfl rfl ?_
                  refine ml_call (a := [.ref m0, .int (i110_7 + 2)]) (rest := []) rfl (hR.okc rfl rfl rfl) rfl rfl (rm_u4 hR hF (by omega) (by omega) (by omega)) (fun v105 M106 h107 => ?_)
                  obtain ⟨rfl, h107⟩ := h107
                  rw [h107]
                  show ml _ _ _ (134, [(0, .ref m0), (2, .int x2), (3, .int x3), (4, .int x4), (5, .long (f4 f (x2 + 4))), (7, .int i110_7), (8, .int (f2 f ((x2 + 8) + (Int64.toInt32 (f4 f (x2 + 4)))))), (9, .int (((x2 + 8) + (Int64.toInt32 (f4 f (x2 + 4)))) + 2)), (10, .int ((((x2 + 8) + (Int64.toInt32 (f4 f (x2 + 4)))) + 2) + (8 * (f2 f ((x2 + 8) + (Int64.toInt32 (f4 f (x2 + 4)))))))), (11, .int (f2 f ((((x2 + 8) + (Int64.toInt32 (f4 f (x2 + 4)))) + 2) + (8 * (f2 f ((x2 + 8) + (Int64.toInt32 (f4 f (x2 + 4))))))))), (12, .int i110_12)], [.long (f4 f (i110_7 + 2))], M) _
                  refine ml_blk 3 (S' := (138, [(0, .ref m0), (2, .int x2), (3, .int x3), (4, .int x4), (5, .long (f4 f (x2 + 4))), (7, .int i110_7), (8, .int (f2 f ((x2 + 8) + (Int64.toInt32 (f4 f (x2 + 4)))))), (9, .int (((x2 + 8) + (Int64.toInt32 (f4 f (x2 + 4)))) + 2)), (10, .int ((((x2 + 8) + (Int64.toInt32 (f4 f (x2 + 4)))) + 2) + (8 * (f2 f ((x2 + 8) + (Int64.toInt32 (f4 f (x2 + 4)))))))), (11, .int (f2 f ((((x2 + 8) + (Int64.toInt32 (f4 f (x2 + 4)))) + 2) + (8 * (f2 f ((x2 + 8) + (Int64.toInt32 (f4 f (x2 + 4))))))))), (12, .int i110_12)], [.int (x3 - i110_7), .long (f4 f (i110_7 + 2))], M)) rfl ?_
                  refine ml_blk 3 (S' := (142, [(0, .ref m0), (2, .int x2), (3, .int x3), (4, .int x4), (5, .long (f4 f (x2 + 4))), (7, .int i110_7), (8, .int (f2 f ((x2 + 8) + (Int64.toInt32 (f4 f (x2 + 4)))))), (9, .int (((x2 + 8) + (Int64.toInt32 (f4 f (x2 + 4)))) + 2)), (10, .int ((((x2 + 8) + (Int64.toInt32 (f4 f (x2 + 4)))) + 2) + (8 * (f2 f ((x2 + 8) + (Int64.toInt32 (f4 f (x2 + 4)))))))), (11, .int (f2 f ((((x2 + 8) + (Int64.toInt32 (f4 f (x2 + 4)))) + 2) + (8 * (f2 f ((x2 + 8) + (Int64.toInt32 (f4 f (x2 + 4))))))))), (12, .int i110_12)], [.long (Int32.toInt64 ((x3 - i110_7) - 6)), .long (f4 f (i110_7 + 2))], M)) rfl ?_
                  refine ml_st (S' := (143, [(0, .ref m0), (2, .int x2), (3, .int x3), (4, .int x4), (5, .long (f4 f (x2 + 4))), (7, .int i110_7), (8, .int (f2 f ((x2 + 8) + (Int64.toInt32 (f4 f (x2 + 4)))))), (9, .int (((x2 + 8) + (Int64.toInt32 (f4 f (x2 + 4)))) + 2)), (10, .int ((((x2 + 8) + (Int64.toInt32 (f4 f (x2 + 4)))) + 2) + (8 * (f2 f ((x2 + 8) + (Int64.toInt32 (f4 f (x2 + 4)))))))), (11, .int (f2 f ((((x2 + 8) + (Int64.toInt32 (f4 f (x2 + 4)))) + 2) + (8 * (f2 f ((x2 + 8) + (Int64.toInt32 (f4 f (x2 + 4))))))))), (12, .int i110_12)], [.int (lg_cmp (f4 f (i110_7 + 2)) (Int32.toInt64 ((x3 - i110_7) - 6)))], M)) rfl rfl rfl ?_
                  refine ml_if (S1 := (149, [(0, .ref m0), (2, .int x2), (3, .int x3), (4, .int x4), (5, .long (f4 f (x2 + 4))), (7, .int i110_7), (8, .int (f2 f ((x2 + 8) + (Int64.toInt32 (f4 f (x2 + 4)))))), (9, .int (((x2 + 8) + (Int64.toInt32 (f4 f (x2 + 4)))) + 2)), (10, .int ((((x2 + 8) + (Int64.toInt32 (f4 f (x2 + 4)))) + 2) + (8 * (f2 f ((x2 + 8) + (Int64.toInt32 (f4 f (x2 + 4)))))))), (11, .int (f2 f ((((x2 + 8) + (Int64.toInt32 (f4 f (x2 + 4)))) + 2) + (8 * (f2 f ((x2 + 8) + (Int64.toInt32 (f4 f (x2 + 4))))))))), (12, .int i110_12)], [], M)) (S2 := (146, [], [], M)) rfl rfl rfl (fun c_143 => ?_) (fun c_143 => ?_)
                  · have c_143 : (lg_cmp (f4 f (i110_7 + 2)) (Int32.toInt64 ((x3 - i110_7) - 6))) ≤ 0 := of_decide_eq_true c_143
                    have hr7 := lc_le c_143
                    rw [l_of, i_sub (by rw [i_sub (by omega) (by omega)]; omega) (by rw [i_sub (by omega) (by omega)]; omega), i_sub (by omega) (by omega)] at hr7
                    have hra := ra_of (f := f) hn (by omega : 0 ≤ i110_7.toInt) (by omega)
                    refine ml_blk 3 (S' := (154, [(0, .ref m0), (2, .int x2), (3, .int x3), (4, .int x4), (5, .long (f4 f (x2 + 4))), (7, .int i110_7), (8, .int (f2 f ((x2 + 8) + (Int64.toInt32 (f4 f (x2 + 4)))))), (9, .int (((x2 + 8) + (Int64.toInt32 (f4 f (x2 + 4)))) + 2)), (10, .int ((((x2 + 8) + (Int64.toInt32 (f4 f (x2 + 4)))) + 2) + (8 * (f2 f ((x2 + 8) + (Int64.toInt32 (f4 f (x2 + 4)))))))), (11, .int (f2 f ((((x2 + 8) + (Int64.toInt32 (f4 f (x2 + 4)))) + 2) + (8 * (f2 f ((x2 + 8) + (Int64.toInt32 (f4 f (x2 + 4))))))))), (12, .int i110_12)], [.ref m0, .int 6, .int i110_7], M)) rfl ?_
                    refine ml_blk 3 (S' := (158, [(0, .ref m0), (2, .int x2), (3, .int x3), (4, .int x4), (5, .long (f4 f (x2 + 4))), (7, .int i110_7), (8, .int (f2 f ((x2 + 8) + (Int64.toInt32 (f4 f (x2 + 4)))))), (9, .int (((x2 + 8) + (Int64.toInt32 (f4 f (x2 + 4)))) + 2)), (10, .int ((((x2 + 8) + (Int64.toInt32 (f4 f (x2 + 4)))) + 2) + (8 * (f2 f ((x2 + 8) + (Int64.toInt32 (f4 f (x2 + 4)))))))), (11, .int (f2 f ((((x2 + 8) + (Int64.toInt32 (f4 f (x2 + 4)))) + 2) + (8 * (f2 f ((x2 + 8) + (Int64.toInt32 (f4 f (x2 + 4))))))))), (12, .int i110_12)], [.int (i110_7 + 2), .ref m0, .int 6, .int i110_7], M)) rfl ?_
                    refine ml_call (a := [.ref m0, .int (i110_7 + 2)]) (rest := [.int 6, .int i110_7]) rfl (hR.okc rfl rfl rfl) rfl rfl (rm_u4 hR hF (by omega) (by omega) (by omega)) (fun v108 M109 h110 => ?_)
                    obtain ⟨rfl, h110⟩ := h110
                    rw [h110]
                    show ml _ _ _ (161, [(0, .ref m0), (2, .int x2), (3, .int x3), (4, .int x4), (5, .long (f4 f (x2 + 4))), (7, .int i110_7), (8, .int (f2 f ((x2 + 8) + (Int64.toInt32 (f4 f (x2 + 4)))))), (9, .int (((x2 + 8) + (Int64.toInt32 (f4 f (x2 + 4)))) + 2)), (10, .int ((((x2 + 8) + (Int64.toInt32 (f4 f (x2 + 4)))) + 2) + (8 * (f2 f ((x2 + 8) + (Int64.toInt32 (f4 f (x2 + 4)))))))), (11, .int (f2 f ((((x2 + 8) + (Int64.toInt32 (f4 f (x2 + 4)))) + 2) + (8 * (f2 f ((x2 + 8) + (Int64.toInt32 (f4 f (x2 + 4))))))))), (12, .int i110_12)], [.long (f4 f (i110_7 + 2)), .int 6, .int i110_7], M) _
                    refine ml_blk 3 (S' := (164, [(0, .ref m0), (2, .int x2), (3, .int x3), (4, .int x4), (5, .long (f4 f (x2 + 4))), (7, .int i110_7), (8, .int (f2 f ((x2 + 8) + (Int64.toInt32 (f4 f (x2 + 4)))))), (9, .int (((x2 + 8) + (Int64.toInt32 (f4 f (x2 + 4)))) + 2)), (10, .int ((((x2 + 8) + (Int64.toInt32 (f4 f (x2 + 4)))) + 2) + (8 * (f2 f ((x2 + 8) + (Int64.toInt32 (f4 f (x2 + 4)))))))), (11, .int (f2 f ((((x2 + 8) + (Int64.toInt32 (f4 f (x2 + 4)))) + 2) + (8 * (f2 f ((x2 + 8) + (Int64.toInt32 (f4 f (x2 + 4))))))))), (12, .int i110_12)], [.int (i110_7 + (6 + (Int64.toInt32 (f4 f (i110_7 + 2)))))], M)) rfl ?_
                    refine ml_st (S' := (166, [(7, .int (i110_7 + (6 + (Int64.toInt32 (f4 f (i110_7 + 2)))))), (0, .ref m0), (2, .int x2), (3, .int x3), (4, .int x4), (5, .long (f4 f (x2 + 4))), (8, .int (f2 f ((x2 + 8) + (Int64.toInt32 (f4 f (x2 + 4)))))), (9, .int (((x2 + 8) + (Int64.toInt32 (f4 f (x2 + 4)))) + 2)), (10, .int ((((x2 + 8) + (Int64.toInt32 (f4 f (x2 + 4)))) + 2) + (8 * (f2 f ((x2 + 8) + (Int64.toInt32 (f4 f (x2 + 4)))))))), (11, .int (f2 f ((((x2 + 8) + (Int64.toInt32 (f4 f (x2 + 4)))) + 2) + (8 * (f2 f ((x2 + 8) + (Int64.toInt32 (f4 f (x2 + 4))))))))), (12, .int i110_12)], [], M)) rfl rfl rfl ?_
                    refine ml_st (S' := (169, [(12, .int (i110_12 + 1)), (7, .int (i110_7 + (6 + (Int64.toInt32 (f4 f (i110_7 + 2)))))), (0, .ref m0), (2, .int x2), (3, .int x3), (4, .int x4), (5, .long (f4 f (x2 + 4))), (8, .int (f2 f ((x2 + 8) + (Int64.toInt32 (f4 f (x2 + 4)))))), (9, .int (((x2 + 8) + (Int64.toInt32 (f4 f (x2 + 4)))) + 2)), (10, .int ((((x2 + 8) + (Int64.toInt32 (f4 f (x2 + 4)))) + 2) + (8 * (f2 f ((x2 + 8) + (Int64.toInt32 (f4 f (x2 + 4)))))))), (11, .int (f2 f ((((x2 + 8) + (Int64.toInt32 (f4 f (x2 + 4)))) + 2) + (8 * (f2 f ((x2 + 8) + (Int64.toInt32 (f4 f (x2 + 4)))))))))], [], M)) rfl rfl rfl ?_
                    refine ml_st (S' := (110, [(0, .ref m0), (2, .int x2), (3, .int x3), (4, .int x4), (5, .long (f4 f (x2 + 4))), (7, .int (i110_7 + (6 + (Int64.toInt32 (f4 f (i110_7 + 2)))))), (8, .int (f2 f ((x2 + 8) + (Int64.toInt32 (f4 f (x2 + 4)))))), (9, .int (((x2 + 8) + (Int64.toInt32 (f4 f (x2 + 4)))) + 2)), (10, .int ((((x2 + 8) + (Int64.toInt32 (f4 f (x2 + 4)))) + 2) + (8 * (f2 f ((x2 + 8) + (Int64.toInt32 (f4 f (x2 + 4)))))))), (11, .int (f2 f ((((x2 + 8) + (Int64.toInt32 (f4 f (x2 + 4)))) + 2) + (8 * (f2 f ((x2 + 8) + (Int64.toInt32 (f4 f (x2 + 4))))))))), (12, .int (i110_12 + 1))], [], M)) rfl rfl rfl ?_
                    exact ih_110 (i110_7 + (6 + (Int64.toInt32 (f4 f (i110_7 + 2))))) (i110_12 + 1) (loop_inc (Int32.not_le.mp c_114) hn_110) (⟨by rw [hra]; have := f4_pos (f := f) (x := i110_7 + 2); omega, by rw [hra]; omega, by rw [inc_lt (Int32.not_le.mp c_114)]; omega, by rw [inc_lt (Int32.not_le.mp c_114)]; have := i_nle c_114; omega, itr_inc hk0 c_114 hit ⟨by omega, by omega, by omega, hra⟩⟩)
                  · have c_143 : ¬ ((lg_cmp (f4 f (i110_7 + 2)) (Int32.toInt64 ((x3 - i110_7) - 6))) ≤ 0) := of_decide_eq_false c_143
                    refine ml_st (S' := (148, [], [.int 30], M)) rfl rfl rfl ?_
                    exact ml_ret rfl (rfl) (⟨_, _, _, rfl, hR, eqI.rf, eqR.rf, ⟨pw.rf, hmc, hkn⟩⟩)
          exact L_110 _ (((((x2 + 8) + (Int64.toInt32 (f4 f (x2 + 4)))) + 2) + (8 * (f2 f ((x2 + 8) + (Int64.toInt32 (f4 f (x2 + 4))))))) + 2) 0 (Nat.le_refl _) (⟨by omega, by omega, by decide, by show (0 : Int) ≤ _; omega, rfl⟩)
        · have c_86 : ¬ ((((((x2 + 8) + (Int64.toInt32 (f4 f (x2 + 4)))) + 2) + (8 * (f2 f ((x2 + 8) + (Int64.toInt32 (f4 f (x2 + 4))))))) + 2) ≤ x3) := of_decide_eq_false c_86
          refine ml_st (S' := (91, [(7, .int ((((x2 + 8) + (Int64.toInt32 (f4 f (x2 + 4)))) + 2) + (8 * (f2 f ((x2 + 8) + (Int64.toInt32 (f4 f (x2 + 4)))))))), (9, .int (((x2 + 8) + (Int64.toInt32 (f4 f (x2 + 4)))) + 2)), (8, .int (f2 f ((x2 + 8) + (Int64.toInt32 (f4 f (x2 + 4)))))), (5, .long (f4 f (x2 + 4))), (0, .ref m0), (1, .int x1), (2, .int x2), (3, .int x3), (4, .int x4)], [.int 30], M)) rfl rfl rfl ?_
          exact ml_ret rfl (rfl) (⟨_, _, _, rfl, hR, eqI.rf, eqR.rf, ⟨pw.rf, hmc, hkn⟩⟩)
      · have c_51 : ¬ ((((x2 + 8) + (Int64.toInt32 (f4 f (x2 + 4)))) + 2) ≤ x3) := of_decide_eq_false c_51
        refine ml_st (S' := (56, [(7, .int ((x2 + 8) + (Int64.toInt32 (f4 f (x2 + 4))))), (5, .long (f4 f (x2 + 4))), (0, .ref m0), (1, .int x1), (2, .int x2), (3, .int x3), (4, .int x4)], [.int 30], M)) rfl rfl rfl ?_
        exact ml_ret rfl (rfl) (⟨_, _, _, rfl, hR, eqI.rf, eqR.rf, ⟨pw.rf, hmc, hkn⟩⟩)
    · have c_30 : ¬ ((lg_cmp (f4 f (x2 + 4)) (Int32.toInt64 ((x3 - x2) - 8))) ≤ 0) := of_decide_eq_false c_30
      refine ml_st (S' := (35, [(5, .long (f4 f (x2 + 4))), (0, .ref m0), (1, .int x1), (2, .int x2), (3, .int x3), (4, .int x4)], [.int 30], M)) rfl rfl rfl ?_
      exact ml_ret rfl (rfl) (⟨_, _, _, rfl, hR, eqI.rf, eqR.rf, ⟨pw.rf, hmc, hkn⟩⟩)
  · have c_5 : ¬ (8 ≤ (x3 - x2)) := of_decide_eq_false c_5
    refine ml_st (S' := (10, [(0, .ref m0), (1, .int x1), (2, .int x2), (3, .int x3), (4, .int x4)], [.int 30], M)) rfl rfl rfl ?_
    exact ml_ret rfl (rfl) (⟨_, _, _, rfl, hR, eqI.rf, eqR.rf, ⟨pw.rf, hmc, hkn⟩⟩)
end
section
set_option maxHeartbeats 2000000 in
theorem rm_attr2 {g : xe_G}  {m0 : Nat} {q : Nat → Nat} {z : Nat × Nat} {I : rI} {R : rR} {M : mi_H} {x1 x2 x3 x4 x5 x6 : Int32} {n : Nat} {f : Nat → Int32} {S cN : Nat} {sa sl ch : Nat → Int32} {cp mj : Int32} {pa py : Nat → Int32} {fl ds : Int32}  (hR : RS g m0 q z I R M) (hF : FK n f I R) (hY : SK S cN sa sl ch I R) (hP : PK n f S cp mj pa py I R) (hK : KW I R) (hw : x1 = 1 ∨ x1 = 2) (h0 : 0 ≤ x3.toInt) (h1 : x3.toInt ≤ x4.toInt) (h2 : x4.toInt ≤ n) (ho0 : 0 ≤ x5.toInt) (ho1 : x5.toInt < 8300) (hfl : R 34 x5.toNatClampNeg = some fl) (hds : R 36 x5.toNatClampNeg = some ds) (hd0 : 0 ≤ ds.toInt) (hd1 : ds.toInt < S) (hmt : MTX sa sl ch ds) (hmc : MCD f n x5.toNatClampNeg R) (hkn : kn [38, 39, 40, 42, 43, 44] x5.toNatClampNeg R) {d : Nat} (hd : 6 ≤ d) : mt (mT g) d 177 [.ref m0, .int x1, .int x2, .int x3, .int x4, .int x5, .int x6] M (fun v M' => ∃ (x : Int32) (I' : rI) (R' : rR), v = some (.int x) ∧ RS g m0 q z I' R' M' ∧ eqI [47, 48] I I' ∧ eqR [37, 38, 39, 40, 41, 42, 44] R R' ∧ pw x5.toNatClampNeg R R' ∧ MCD f n x5.toNatClampNeg R' ∧ kn [38, 39, 40, 42, 43, 44] x5.toNatClampNeg R') := by
  obtain ⟨d, rfl⟩ : ∃ e, d = e + 1 := ⟨d - 1, by omega⟩
  refine mt_in (b := mb_177 g) rfl rfl ?_
  show ml (mT g) d (mb_177 g).2 (0, [(0, .ref m0), (1, .int x1), (2, .int x2), (3, .int x3), (4, .int x4), (5, .int x5), (6, .int x6)], [], M) _
  have hn := hF.1
  refine ml_st (S' := (1, [(0, .ref m0), (1, .int x1), (2, .int x2), (3, .int x3), (4, .int x4), (5, .int x5), (6, .int x6)], [.int x1], M)) rfl rfl rfl ?_
  refine ml_sw rfl (fun t_1 ht_1 => ?_)
  have kt_1 := ht_1
  have ht_1 : t_1 ∈ [56, 208, 219, 398, 400, 542, 550, 600] := mi_sw_sub ht_1 (by decide)
  simp only [List.mem_cons, List.not_mem_nil, or_false] at ht_1
  rcases ht_1 with rfl | rfl | rfl | rfl | rfl | rfl | rfl | rfl
  · show ml _ _ _ (56, [(0, .ref m0), (1, .int x1), (2, .int x2), (3, .int x3), (4, .int x4), (5, .int x5), (6, .int x6)], [], M) _
    exfalso
    rcases hw with h | h <;> (rw [h] at kt_1; exact absurd kt_1 (by decide))
  · show ml _ _ _ (208, [(0, .ref m0), (1, .int x1), (2, .int x2), (3, .int x3), (4, .int x4), (5, .int x5), (6, .int x6)], [], M) _
    refine ml_blk 3 (S' := (211, [(0, .ref m0), (1, .int x1), (2, .int x2), (3, .int x3), (4, .int x4), (5, .int x5), (6, .int x6)], [.int x3, .int x2, .ref m0], M)) rfl ?_
    refine ml_blk 2 (S' := (215, [(0, .ref m0), (1, .int x1), (2, .int x2), (3, .int x3), (4, .int x4), (5, .int x5), (6, .int x6)], [.int x5, .int x4, .int x3, .int x2, .ref m0], M)) rfl ?_
    refine ml_call (a := [.ref m0, .int x2, .int x3, .int x4, .int x5]) (rest := []) rfl (hR.okc rfl rfl rfl) rfl rfl (rm_code hR hF hY hP hK (h0) (h1) (h2) (ho0) (ho1) (hfl) (hds) (hd0) (hd1) (hmt) (hmc) (hkn) (by omega)) (fun v11 M12 h13 => ?_)
    obtain ⟨u19, I14, R15, rfl, hR16, hI17, hV18, w20⟩ := h13
    show ml _ _ _ (218, [(0, .ref m0), (1, .int x1), (2, .int x2), (3, .int x3), (4, .int x4), (5, .int x5), (6, .int x6)], [.int u19], M12) _
    exact ml_ret rfl (rfl) (⟨_, _, _, rfl, hR16, (eqI.rf.tr hI17 (by decide)), (eqR.rf.tr hV18 (by decide)), w20⟩)
  · show ml _ _ _ (219, [(0, .ref m0), (1, .int x1), (2, .int x2), (3, .int x3), (4, .int x4), (5, .int x5), (6, .int x6)], [], M) _
    have hw2 : x1 = 2 := hw.resolve_left (fun h => by rw [h] at kt_1; exact absurd kt_1 (by decide))
    refine ml_blk 3 (S' := (223, [(0, .ref m0), (1, .int x1), (2, .int x2), (3, .int x3), (4, .int x4), (5, .int x5), (6, .int x6)], [.int (x4 - x3)], M)) rfl ?_
    refine ml_st (S' := (224, [(0, .ref m0), (1, .int x1), (2, .int x2), (3, .int x3), (4, .int x4), (5, .int x5), (6, .int x6)], [.int 2, .int (x4 - x3)], M)) rfl rfl rfl ?_
    refine ml_if2 (S1 := (243, [], [], M)) (S2 := (227, [(0, .ref m0), (1, .int x1), (2, .int x2), (3, .int x3), (4, .int x4), (5, .int x5), (6, .int x6)], [], M)) rfl rfl rfl (fun c_224 => ?_) (fun c_224 => ?_)
    · have c_224 : (x4 - x3) < 2 := of_decide_eq_true c_224
      refine ml_st (S' := (245, [], [.int 30], M)) rfl rfl rfl ?_
      exact ml_ret rfl (rfl) (⟨_, _, _, rfl, hR, eqI.rf, eqR.rf, ⟨pw.rf, hmc, hkn⟩⟩)
    · have c_224 : ¬ ((x4 - x3) < 2) := of_decide_eq_false c_224
      have hd2 := i_nlt c_224
      rw [i_sub (by omega) (by omega)] at hd2
      have i2_ : (2 : Int32).toInt = 2 := rfl
      have hc0 := f2_pos (f := f) (x := x3)
      have hc1 := f2_le (f := f) (x := x3)
      refine ml_blk 3 (S' := (231, [(0, .ref m0), (1, .int x1), (2, .int x2), (3, .int x3), (4, .int x4), (5, .int x5), (6, .int x6)], [.int (x4 - x3)], M)) rfl ?_
      refine ml_blk 3 (S' := (234, [(0, .ref m0), (1, .int x1), (2, .int x2), (3, .int x3), (4, .int x4), (5, .int x5), (6, .int x6)], [.ref m0, .int 2, .int 2, .int (x4 - x3)], M)) rfl ?_
      refine ml_st (S' := (235, [(0, .ref m0), (1, .int x1), (2, .int x2), (3, .int x3), (4, .int x4), (5, .int x5), (6, .int x6)], [.int x3, .ref m0, .int 2, .int 2, .int (x4 - x3)], M)) rfl rfl rfl ?_
      refine ml_call (a := [.ref m0, .int x3]) (rest := [.int 2, .int 2, .int (x4 - x3)]) rfl (hR.okc rfl rfl rfl) rfl rfl (rm_u2 hR hF (h0) (by omega) (by omega)) (fun v21 M22 h23 => ?_)
      obtain ⟨rfl, h23⟩ := h23
      rw [h23]
      show ml _ _ _ (238, [(0, .ref m0), (1, .int x1), (2, .int x2), (3, .int x3), (4, .int x4), (5, .int x5), (6, .int x6)], [.int (f2 f x3), .int 2, .int 2, .int (x4 - x3)], M) _
      refine ml_blk 2 (S' := (240, [(0, .ref m0), (1, .int x1), (2, .int x2), (3, .int x3), (4, .int x4), (5, .int x5), (6, .int x6)], [.int (2 + (2 * (f2 f x3))), .int (x4 - x3)], M)) rfl ?_
      refine ml_if2 (S1 := (246, [(0, .ref m0), (1, .int x1), (2, .int x2), (3, .int x3), (4, .int x4), (5, .int x5), (6, .int x6)], [], M)) (S2 := (243, [], [], M)) rfl rfl rfl (fun c_240 => ?_) (fun c_240 => ?_)
      · have c_240 : (x4 - x3) = (2 + (2 * (f2 f x3))) := of_decide_eq_true c_240
        have hde : (x4 - x3).toInt = (2 + 2 * f2 f x3).toInt := congrArg Int32.toInt c_240
        rw [i_sub (by omega) (by omega), i_add (by rw [two_k hc0 (by omega)]; omega) (by rw [two_k hc0 (by omega)]; omega), two_k hc0 (by omega)] at hde
        refine ml_blk 2 (S' := (249, [(0, .ref m0), (1, .int x1), (2, .int x2), (3, .int x3), (4, .int x4), (5, .int x5), (6, .int x6)], [.int 9, .int x1], M)) rfl ?_
        refine ml_if2 (S1 := (265, [(0, .ref m0), (1, .int x1), (3, .int x3), (5, .int x5), (6, .int x6)], [], M)) (S2 := (252, [(0, .ref m0), (1, .int x1), (2, .int x2), (3, .int x3), (4, .int x4), (5, .int x5), (6, .int x6)], [], M)) rfl rfl rfl (fun c_249 => ?_) (fun c_249 => ?_)
        rotate_left
        · exact absurd ((by rw [hw2]; decide : ¬ x1 = 9)) (of_decide_eq_false c_249)
        refine ml_st (S' := (266, [(0, .ref m0), (1, .int x1), (3, .int x3), (5, .int x5), (6, .int x6)], [.int 0], M)) rfl rfl rfl ?_
        refine ml_st (S' := (268, [(0, .ref m0), (1, .int x1), (3, .int x3), (5, .int x5), (6, .int x6), (9, .int 0)], [], M)) rfl rfl rfl ?_
        have L_268 : ∀ (n_268 : Nat) (i268_9 : Int32), (2147483648 - i268_9.toInt).toNat ≤ n_268 → 0 ≤ i268_9.toInt → ml (mT g) d (mb_177 g).2 (268, [(0, .ref m0), (1, .int x1), (3, .int x3), (5, .int x5), (6, .int x6), (9, .int i268_9)], [], M) (fun v M' => ∃ (x : Int32) (I' : rI) (R' : rR), v = some (.int x) ∧ RS g m0 q z I' R' M' ∧ eqI [47, 48] I I' ∧ eqR [37, 38, 39, 40, 41, 42, 44] R R' ∧ pw x5.toNatClampNeg R R' ∧ MCD f n x5.toNatClampNeg R' ∧ kn [38, 39, 40, 42, 43, 44] x5.toNatClampNeg R') := by
          intro n_268
          induction n_268 with
          | zero => intro i268_9 hn; exact (loop_zero hn).elim
          | succ n_268 ih_268 =>
            intro i268_9 hn_268 hi_268
            refine ml_blk 3 (S' := (272, [(0, .ref m0), (1, .int x1), (3, .int x3), (5, .int x5), (6, .int x6), (9, .int i268_9)], [.int x3, .ref m0, .int i268_9], M)) rfl ?_
            refine ml_call (a := [.ref m0, .int x3]) (rest := [.int i268_9]) rfl (hR.okc rfl rfl rfl) rfl rfl (rm_u2 hR hF (h0) (by omega) (by omega)) (fun v24 M25 h26 => ?_)
            obtain ⟨rfl, h26⟩ := h26
            rw [h26]
            show ml _ _ _ (275, [(0, .ref m0), (1, .int x1), (3, .int x3), (5, .int x5), (6, .int x6), (9, .int i268_9)], [.int (f2 f x3), .int i268_9], M) _
            refine ml_if2 (S1 := (329, [(0, .ref m0), (1, .int x1), (3, .int x3), (5, .int x5), (6, .int x6), (9, .int i268_9)], [], M)) (S2 := (278, [(0, .ref m0), (1, .int x1), (3, .int x3), (5, .int x5), (6, .int x6), (9, .int i268_9)], [], M)) rfl rfl rfl (fun c_275 => ?_) (fun c_275 => ?_)
            · have c_275 : (f2 f x3) ≤ i268_9 := of_decide_eq_true c_275
              refine ml_blk 2 (S' := (332, [(0, .ref m0), (1, .int x1), (3, .int x3), (5, .int x5), (6, .int x6), (9, .int i268_9)], [.int 7, .int x1], M)) rfl ?_
              refine ml_if2 (S1 := (349, [(0, .ref m0), (1, .int x1), (3, .int x3), (5, .int x5)], [], M)) (S2 := (335, [(0, .ref m0), (1, .int x1), (3, .int x3), (5, .int x5), (6, .int x6), (9, .int i268_9)], [], M)) rfl rfl rfl (fun c_332 => ?_) (fun c_332 => ?_)
              rotate_left
              · exact absurd ((by rw [hw2]; decide : ¬ x1 = 7)) (of_decide_eq_false c_332)
              refine ml_blk 2 (S' := (351, [(0, .ref m0), (1, .int x1), (3, .int x3), (5, .int x5)], [.int 2, .int x1], M)) rfl ?_
              refine ml_if2 (S1 := (366, [(0, .ref m0), (1, .int x1), (3, .int x3)], [], M)) (S2 := (354, [(0, .ref m0), (1, .int x1), (3, .int x3), (5, .int x5)], [], M)) rfl rfl rfl (fun c_351 => ?_) (fun c_351 => ?_)
              · exact absurd (of_decide_eq_true c_351) ((fun h => h hw2))
              refine ml_st (S' := (355, [(0, .ref m0), (1, .int x1), (3, .int x3), (5, .int x5)], [.ref m0], M)) rfl rfl rfl ?_
              refine rg_ref (S' := (358, [(0, .ref m0), (1, .int x1), (3, .int x3), (5, .int x5)], [.ref (q 44)], M)) rfl hR rfl rfl ?_
              refine ml_blk 3 (S' := (362, [(0, .ref m0), (1, .int x1), (3, .int x3), (5, .int x5)], [.int x3, .ref m0, .int x5, .ref (q 44)], M)) rfl ?_
              refine ml_call (a := [.ref m0, .int x3]) (rest := [.int x5, .ref (q 44)]) rfl (hR.okc rfl rfl rfl) rfl rfl (rm_u2 hR hF (h0) (by omega) (by omega)) (fun v27 M28 h29 => ?_)
              obtain ⟨rfl, h29⟩ := h29
              rw [h29]
              show ml _ _ _ (365, [(0, .ref m0), (1, .int x1), (3, .int x3), (5, .int x5)], [.int (f2 f x3), .int x5, .ref (q 44)], M) _
              refine ra_st (k := 44) rfl hR rfl (vin_lt ho0 (by omega)) (fun M30 R31 hR32 e33 g34 f35 => ?_)
              show ml _ _ _ (366, [(0, .ref m0), (1, .int x1), (3, .int x3)], [], M30) _
              refine ml_blk 2 (S' := (369, [(0, .ref m0), (1, .int x1), (3, .int x3)], [.int 7, .int x1], M30)) rfl ?_
              refine ml_if2 (S1 := (381, [(0, .ref m0), (1, .int x1), (3, .int x3)], [], M30)) (S2 := (372, [(0, .ref m0), (1, .int x1), (3, .int x3)], [], M30)) rfl rfl rfl (fun c_369 => ?_) (fun c_369 => ?_)
              rotate_left
              · exact absurd ((by rw [hw2]; decide : ¬ x1 = 7)) (of_decide_eq_false c_369)
              refine ml_blk 2 (S' := (384, [(0, .ref m0), (1, .int x1), (3, .int x3)], [.int 9, .int x1], M30)) rfl ?_
              refine ml_if2 (S1 := (396, [], [], M30)) (S2 := (387, [(0, .ref m0), (1, .int x1), (3, .int x3)], [], M30)) rfl rfl rfl (fun c_384 => ?_) (fun c_384 => ?_)
              rotate_left
              · exact absurd ((by rw [hw2]; decide : ¬ x1 = 9)) (of_decide_eq_false c_384)
              refine ml_st (S' := (397, [], [.int 0], M30)) rfl rfl rfl ?_
              exact ml_ret rfl (rfl) (⟨_, _, _, rfl, hR32, eqI.rf, (eqR.rf.put f35 (by decide)), ⟨(pw.rf.st g34 f35 rfl), hmc.fr (fun k hk => congrFun (f35 k (fun e => absurd (e ▸ hk) (by decide))) _), (kn.st hkn e33 g34 f35)⟩⟩)
            · have c_275 : ¬ ((f2 f x3) ≤ i268_9) := of_decide_eq_false c_275
              have hjl := i_nle c_275
              have hjk : (x3 + 2 + 2 * i268_9).toInt = x3.toInt + 2 + 2 * i268_9.toInt := by have d2 : (x3 + 2).toInt = x3.toInt + 2 := (by rw [i_add (by omega) (by omega), i2_]); rw [i_add (by rw [two_k hi_268 (by omega)]; omega) (by rw [two_k hi_268 (by omega)]; omega), two_k hi_268 (by omega), d2]
              refine ml_blk 3 (S' := (281, [(0, .ref m0), (1, .int x1), (3, .int x3), (5, .int x5), (6, .int x6), (9, .int i268_9)], [.int x3, .ref m0, .ref m0], M)) rfl ?_
              refine ml_blk 3 (S' := (284, [(0, .ref m0), (1, .int x1), (3, .int x3), (5, .int x5), (6, .int x6), (9, .int i268_9)], [.int 2, .int (x3 + 2), .ref m0, .ref m0], M)) rfl ?_
              refine ml_blk 3 (S' := (288, [(0, .ref m0), (1, .int x1), (3, .int x3), (5, .int x5), (6, .int x6), (9, .int i268_9)], [.int ((x3 + 2) + (2 * i268_9)), .ref m0, .ref m0], M)) rfl ?_
              refine ml_call (a := [.ref m0, .int ((x3 + 2) + (2 * i268_9))]) (rest := [.ref m0]) rfl (hR.okc rfl rfl rfl) rfl rfl (rm_u2 hR hF (by omega) (by omega) (by omega)) (fun v36 M37 h38 => ?_)
              obtain ⟨rfl, h38⟩ := h38
              rw [h38]
              show ml _ _ _ (291, [(0, .ref m0), (1, .int x1), (3, .int x3), (5, .int x5), (6, .int x6), (9, .int i268_9)], [.int (f2 f ((x3 + 2) + (2 * i268_9))), .ref m0], M) _
              refine ml_call (a := [.ref m0, .int (f2 f ((x3 + 2) + (2 * i268_9)))]) (rest := []) rfl (hR.okc rfl rfl rfl) rfl rfl (rm_tag hR hF hP (by omega)) (fun v39 M40 h41 => ?_)
              obtain ⟨rfl, h41⟩ := h41
              rw [h41]
              show ml _ _ _ (294, [(0, .ref m0), (1, .int x1), (3, .int x3), (5, .int x5), (6, .int x6), (9, .int i268_9)], [.int (tgf f cp pa (f2 f ((x3 + 2) + (2 * i268_9))))], M) _
              refine ml_st (S' := (296, [(0, .ref m0), (1, .int x1), (3, .int x3), (5, .int x5), (6, .int x6), (9, .int i268_9)], [.int 7, .int (tgf f cp pa (f2 f ((x3 + 2) + (2 * i268_9))))], M)) rfl rfl rfl ?_
              refine ml_if2 (S1 := (323, [(0, .ref m0), (1, .int x1), (3, .int x3), (5, .int x5), (6, .int x6), (9, .int i268_9)], [], M)) (S2 := (299, [(0, .ref m0), (1, .int x1), (3, .int x3), (5, .int x5), (6, .int x6), (9, .int i268_9)], [], M)) rfl rfl rfl (fun c_296 => ?_) (fun c_296 => ?_)
              · have c_296 : (tgf f cp pa (f2 f ((x3 + 2) + (2 * i268_9)))) = 7 := of_decide_eq_true c_296
                refine ml_st (S' := (326, [(9, .int (i268_9 + 1)), (0, .ref m0), (1, .int x1), (3, .int x3), (5, .int x5), (6, .int x6)], [], M)) rfl rfl rfl ?_
                refine ml_st (S' := (268, [(0, .ref m0), (1, .int x1), (3, .int x3), (5, .int x5), (6, .int x6), (9, .int (i268_9 + 1))], [], M)) rfl rfl rfl ?_
                exact ih_268 (i268_9 + 1) (loop_inc (Int32.not_le.mp c_275) hn_268) (by rw [inc_lt (Int32.not_le.mp c_275)]; omega)
              · have c_296 : ¬ ((tgf f cp pa (f2 f ((x3 + 2) + (2 * i268_9)))) = 7) := of_decide_eq_false c_296
                refine ml_blk 2 (S' := (301, [(0, .ref m0), (1, .int x1), (3, .int x3), (5, .int x5), (6, .int x6), (9, .int i268_9)], [.int 2, .int x1], M)) rfl ?_
                refine ml_if2 (S1 := (309, [(0, .ref m0), (1, .int x1), (3, .int x3), (5, .int x5), (6, .int x6), (9, .int i268_9)], [], M)) (S2 := (304, [(0, .ref m0), (1, .int x1), (3, .int x3), (5, .int x5), (6, .int x6), (9, .int i268_9)], [], M)) rfl rfl rfl (fun c_301 => ?_) (fun c_301 => ?_)
                · exact absurd (of_decide_eq_true c_301) ((fun h => h hw2))
                refine ml_st (S' := (306, [(0, .ref m0), (1, .int x1), (3, .int x3), (5, .int x5), (6, .int x6), (9, .int i268_9)], [.int 32], M)) rfl rfl rfl ?_
                refine ml_st (S' := (322, [], [.int 32], M)) rfl rfl rfl ?_
                exact ml_ret rfl (rfl) (⟨_, _, _, rfl, hR, eqI.rf, eqR.rf, ⟨pw.rf, hmc, hkn⟩⟩)
        exact L_268 _ 0 (Nat.le_refl _) (by decide)
      · have c_240 : ¬ ((x4 - x3) = (2 + (2 * (f2 f x3)))) := of_decide_eq_false c_240
        refine ml_st (S' := (245, [], [.int 30], M)) rfl rfl rfl ?_
        exact ml_ret rfl (rfl) (⟨_, _, _, rfl, hR, eqI.rf, eqR.rf, ⟨pw.rf, hmc, hkn⟩⟩)
  · show ml _ _ _ (398, [(0, .ref m0), (1, .int x1), (2, .int x2), (3, .int x3), (4, .int x4), (5, .int x5), (6, .int x6)], [], M) _
    exfalso
    rcases hw with h | h <;> (rw [h] at kt_1; exact absurd kt_1 (by decide))
  · show ml _ _ _ (400, [(0, .ref m0), (1, .int x1), (2, .int x2), (3, .int x3), (4, .int x4), (5, .int x5), (6, .int x6)], [], M) _
    exfalso
    rcases hw with h | h <;> (rw [h] at kt_1; exact absurd kt_1 (by decide))
  · show ml _ _ _ (542, [(0, .ref m0), (1, .int x1), (2, .int x2), (3, .int x3), (4, .int x4), (5, .int x5), (6, .int x6)], [], M) _
    exfalso
    rcases hw with h | h <;> (rw [h] at kt_1; exact absurd kt_1 (by decide))
  · show ml _ _ _ (550, [(0, .ref m0), (1, .int x1), (2, .int x2), (3, .int x3), (4, .int x4), (5, .int x5), (6, .int x6)], [], M) _
    exfalso
    rcases hw with h | h <;> (rw [h] at kt_1; exact absurd kt_1 (by decide))
  · show ml _ _ _ (600, [(0, .ref m0), (1, .int x1), (2, .int x2), (3, .int x3), (4, .int x4), (5, .int x5), (6, .int x6)], [], M) _
    exfalso
    rcases hw with h | h <;> (rw [h] at kt_1; exact absurd kt_1 (by decide))
set_option maxHeartbeats 2000000 in
theorem rm_checkAttributes2 {g : xe_G}  {m0 : Nat} {q : Nat → Nat} {z : Nat × Nat} {I : rI} {R : rR} {M : mi_H} {x1 x2 x3 : Int32} {n : Nat} {f : Nat → Int32} {S cN : Nat} {sa sl ch : Nat → Int32} {cp mj : Int32} {pa py : Nat → Int32} {e : Int32} {fl ds : Int32}  (hR : RS g m0 q z I R M) (hF : FK n f I R) (hY : SK S cN sa sl ch I R) (hP : PK n f S cp mj pa py I R) (hK : KW I R) (hw : x2 = 2) (hat : AT f n x1 e) (ho0 : 0 ≤ x3.toInt) (ho1 : x3.toInt < 8300) (hfl : R 34 x3.toNatClampNeg = some fl) (hds : R 36 x3.toNatClampNeg = some ds) (hd0 : 0 ≤ ds.toInt) (hd1 : ds.toInt < S) (hmt : MTX sa sl ch ds) (hmc : MCD f n x3.toNatClampNeg R) (hkn : kn [38, 39, 40, 42, 43, 44] x3.toNatClampNeg R) {d : Nat} (hd : 7 ≤ d) : mt (mT g) d 187 [.ref m0, .int x1, .int x2, .int x3] M (fun v M' => ∃ (x : Int32) (I' : rI) (R' : rR), v = some (.int x) ∧ RS g m0 q z I' R' M' ∧ eqI [47, 48] I I' ∧ eqR [37, 38, 39, 40, 41, 42, 43, 44] R R' ∧ (x.toInt < 0 ∨ x = e) ∧ pw x3.toNatClampNeg R R' ∧ MCD f n x3.toNatClampNeg R' ∧ kn [38, 39, 40, 42, 43, 44] x3.toNatClampNeg R') := by
  obtain ⟨d, rfl⟩ : ∃ e, d = e + 1 := ⟨d - 1, by omega⟩
  refine mt_in (b := mb_187 g) rfl rfl ?_
  show ml (mT g) d (mb_187 g).2 (0, [(0, .ref m0), (1, .int x1), (2, .int x2), (3, .int x3)], [], M) _
  have hn := hF.1
  refine ml_blk 2 (S' := (2, [(0, .ref m0), (1, .int x1), (2, .int x2), (3, .int x3)], [.int x1, .ref m0], M)) rfl ?_
  refine ml_call (a := [.ref m0, .int x1]) (rest := []) rfl (hR.okc rfl rfl rfl) rfl rfl (rm_u2 hR hF (hat.1) (hat.2.1) (by omega)) (fun v11 M12 h13 => ?_)
  obtain ⟨rfl, h13⟩ := h13
  rw [h13]
  show ml _ _ _ (5, [(0, .ref m0), (1, .int x1), (2, .int x2), (3, .int x3)], [.int (f2 f x1)], M) _
  refine ml_st (S' := (7, [(4, .int (f2 f x1)), (0, .ref m0), (1, .int x1), (2, .int x2), (3, .int x3)], [], M)) rfl rfl rfl ?_
  refine ml_blk 3 (S' := (10, [(4, .int (f2 f x1)), (0, .ref m0), (1, .int x1), (2, .int x2), (3, .int x3)], [.int (x1 + 2)], M)) rfl ?_
  refine ml_st (S' := (12, [(5, .int (x1 + 2)), (4, .int (f2 f x1)), (0, .ref m0), (1, .int x1), (2, .int x2), (3, .int x3)], [], M)) rfl rfl rfl ?_
  refine ml_st (S' := (13, [(5, .int (x1 + 2)), (4, .int (f2 f x1)), (0, .ref m0), (1, .int x1), (2, .int x2), (3, .int x3)], [.int 0], M)) rfl rfl rfl ?_
  refine ml_st (S' := (15, [(6, .int 0), (5, .int (x1 + 2)), (4, .int (f2 f x1)), (0, .ref m0), (1, .int x1), (2, .int x2), (3, .int x3)], [], M)) rfl rfl rfl ?_
  refine ml_st (S' := (16, [(6, .int 0), (5, .int (x1 + 2)), (4, .int (f2 f x1)), (0, .ref m0), (1, .int x1), (2, .int x2), (3, .int x3)], [.int 0], M)) rfl rfl rfl ?_
  refine ml_st (S' := (18, [(0, .ref m0), (2, .int x2), (3, .int x3), (4, .int (f2 f x1)), (5, .int (x1 + 2)), (6, .int 0), (7, .int 0)], [], M)) rfl rfl rfl ?_
  have L_18 : ∀ (n_18 : Nat) (i18_5 : Int32) (i18_6 : Int32) (i18_7 : Int32) (M_18 : mi_H) (I_18 : rI) (R_18 : rR), (2147483648 - i18_7.toInt).toNat ≤ n_18 → RS g m0 q z I_18 R_18 M_18 → eqI [47, 48] I I_18 → eqR [37, 38, 39, 40, 41, 42, 43, 44] R R_18 → (0 ≤ i18_7.toInt ∧ i18_7.toInt ≤ (f2 f x1).toInt ∧ itr (RA1 f n) ((f2 f x1).toInt - i18_7.toInt).toNat i18_5 e ∧ pw x3.toNatClampNeg R R_18 ∧ MCD f n x3.toNatClampNeg R_18 ∧ kn [38, 39, 40, 42, 43, 44] x3.toNatClampNeg R_18) → ml (mT g) d (mb_187 g).2 (18, [(0, .ref m0), (2, .int x2), (3, .int x3), (4, .int (f2 f x1)), (5, .int i18_5), (6, .int i18_6), (7, .int i18_7)], [], M_18) (fun v M' => ∃ (x : Int32) (I' : rI) (R' : rR), v = some (.int x) ∧ RS g m0 q z I' R' M' ∧ eqI [47, 48] I I' ∧ eqR [37, 38, 39, 40, 41, 42, 43, 44] R R' ∧ (x.toInt < 0 ∨ x = e) ∧ pw x3.toNatClampNeg R R' ∧ MCD f n x3.toNatClampNeg R' ∧ kn [38, 39, 40, 42, 43, 44] x3.toNatClampNeg R') := by
    intro n_18
    induction n_18 with
    | zero => intro i18_5 i18_6 i18_7 M_18 I_18 R_18 hn; exact (loop_zero hn).elim
    | succ n_18 ih_18 =>
      intro i18_5 i18_6 i18_7 M_18 I_18 R_18 hn_18 hR_18 hI_18 hV_18 hi_18
      obtain ⟨hk0, hk1, hit, hpw18, hmc18, hkn18⟩ := hi_18
      refine ml_blk 2 (S' := (22, [(0, .ref m0), (2, .int x2), (3, .int x3), (4, .int (f2 f x1)), (5, .int i18_5), (6, .int i18_6), (7, .int i18_7)], [.int (f2 f x1), .int i18_7], M_18)) rfl ?_
      refine ml_if2 (S1 := (284, [(0, .ref m0), (2, .int x2), (3, .int x3), (4, .int (f2 f x1)), (5, .int i18_5), (6, .int i18_6), (7, .int i18_7)], [], M_18)) (S2 := (25, [(0, .ref m0), (2, .int x2), (3, .int x3), (4, .int (f2 f x1)), (5, .int i18_5), (6, .int i18_6), (7, .int i18_7)], [], M_18)) rfl rfl rfl (fun c_22 => ?_) (fun c_22 => ?_)
      · have c_22 : (f2 f x1) ≤ i18_7 := of_decide_eq_true c_22
        refine ml_st (S' := (286, [(0, .ref m0), (2, .int x2), (3, .int x3), (4, .int (f2 f x1)), (5, .int i18_5), (6, .int i18_6), (7, .int i18_7)], [.int i18_5], M_18)) rfl rfl rfl ?_
        exact ml_ret rfl (rfl) (⟨_, _, _, rfl, hR_18, (eqI.rf.tr hI_18 (by decide)), (eqR.rf.tr hV_18 (by decide)), ⟨Or.inr (itr_one hit (by have := i_le c_22; omega)).symm, (pw.rf.tr hpw18), hmc18, hkn18⟩⟩)
      · have c_22 : ¬ ((f2 f x1) ≤ i18_7) := of_decide_eq_false c_22
        obtain ⟨b1, hb1, hnx⟩ := itr_next hit c_22
        have hb2 := hb1
        obtain ⟨g0, g1, g2, g3⟩ := hb2
        have ep2 : (i18_5 + 2).toInt = i18_5.toInt + 2 := i_add (by have : (2 : Int32).toInt = 2 := rfl; omega) (by have : (2 : Int32).toInt = 2 := rfl; omega)
        have ep6 : (i18_5 + 6).toInt = i18_5.toInt + 6 := i_add (by have : (6 : Int32).toInt = 6 := rfl; omega) (by have : (6 : Int32).toInt = 6 := rfl; omega)
        have hra := ra_of (f := f) hn g0 g2
        have hl0 := f4_pos (f := f) (x := i18_5 + 2)
        have hle : (i18_5 + 6 + Int64.toInt32 (f4 f (i18_5 + 2))).toInt = i18_5.toInt + 6 + (f4 f (i18_5 + 2)).toInt := by have di : (Int64.toInt32 (f4 f (i18_5 + 2))).toInt = (f4 f (i18_5 + 2)).toInt := i_of (by omega) (by omega); rw [i_add (by omega) (by omega), di, ep6]
        refine ml_blk 3 (S' := (29, [(0, .ref m0), (2, .int x2), (3, .int x3), (4, .int (f2 f x1)), (5, .int i18_5), (6, .int i18_6), (7, .int i18_7)], [.int 2, .int i18_5, .ref m0], M_18)) rfl ?_
        refine ml_st (S' := (30, [(0, .ref m0), (2, .int x2), (3, .int x3), (4, .int (f2 f x1)), (5, .int i18_5), (6, .int i18_6), (7, .int i18_7)], [.int (i18_5 + 2), .ref m0], M_18)) rfl rfl rfl ?_
        have hF14 : FK n f I_18 R_18 := (hF.mono (cIx hI_18 (by decide)) (cRx hV_18 (by decide)))
        refine ml_call (a := [.ref m0, .int (i18_5 + 2)]) (rest := []) rfl (hR_18.okc rfl rfl rfl) rfl rfl (rm_u4 hR_18 hF14 (by omega) (by omega) (by omega)) (fun v15 M16 h17 => ?_)
        obtain ⟨rfl, h17⟩ := h17
        rw [h17]
        show ml _ _ _ (33, [(0, .ref m0), (2, .int x2), (3, .int x3), (4, .int (f2 f x1)), (5, .int i18_5), (6, .int i18_6), (7, .int i18_7)], [.long (f4 f (i18_5 + 2))], M_18) _
        refine ml_st (S' := (34, [(0, .ref m0), (2, .int x2), (3, .int x3), (4, .int (f2 f x1)), (5, .int i18_5), (6, .int i18_6), (7, .int i18_7)], [.int (Int64.toInt32 (f4 f (i18_5 + 2)))], M_18)) rfl rfl rfl ?_
        refine ml_st (S' := (36, [(8, .int (Int64.toInt32 (f4 f (i18_5 + 2)))), (0, .ref m0), (2, .int x2), (3, .int x3), (4, .int (f2 f x1)), (5, .int i18_5), (6, .int i18_6), (7, .int i18_7)], [], M_18)) rfl rfl rfl ?_
        refine ml_blk 3 (S' := (40, [(8, .int (Int64.toInt32 (f4 f (i18_5 + 2)))), (0, .ref m0), (2, .int x2), (3, .int x3), (4, .int (f2 f x1)), (5, .int i18_5), (6, .int i18_6), (7, .int i18_7)], [.int i18_5, .ref m0, .ref m0], M_18)) rfl ?_
        refine ml_call (a := [.ref m0, .int i18_5]) (rest := [.ref m0]) rfl (hR_18.okc rfl rfl rfl) rfl rfl (rm_u2 hR_18 hF14 (g0) (by omega) (by omega)) (fun v18 M19 h20 => ?_)
        obtain ⟨rfl, h20⟩ := h20
        rw [h20]
        show ml _ _ _ (43, [(8, .int (Int64.toInt32 (f4 f (i18_5 + 2)))), (0, .ref m0), (2, .int x2), (3, .int x3), (4, .int (f2 f x1)), (5, .int i18_5), (6, .int i18_6), (7, .int i18_7)], [.int (f2 f i18_5), .ref m0], M_18) _
        have hP21 : PK n f S cp mj pa py I_18 R_18 := (hP.mono (cIx hI_18 (by decide)) (cRx hV_18 (by decide)))
        refine ml_call (a := [.ref m0, .int (f2 f i18_5)]) (rest := []) rfl (hR_18.okc rfl rfl rfl) rfl rfl (rm_tag hR_18 hF14 hP21 (by omega)) (fun v22 M23 h24 => ?_)
        obtain ⟨rfl, h24⟩ := h24
        rw [h24]
        show ml _ _ _ (46, [(8, .int (Int64.toInt32 (f4 f (i18_5 + 2)))), (0, .ref m0), (2, .int x2), (3, .int x3), (4, .int (f2 f x1)), (5, .int i18_5), (6, .int i18_6), (7, .int i18_7)], [.int (tgf f cp pa (f2 f i18_5))], M_18) _
        refine ml_st (S' := (47, [(8, .int (Int64.toInt32 (f4 f (i18_5 + 2)))), (0, .ref m0), (2, .int x2), (3, .int x3), (4, .int (f2 f x1)), (5, .int i18_5), (6, .int i18_6), (7, .int i18_7)], [.int 1, .int (tgf f cp pa (f2 f i18_5))], M_18)) rfl rfl rfl ?_
        refine ml_if2 (S1 := (61, [(8, .int (Int64.toInt32 (f4 f (i18_5 + 2)))), (0, .ref m0), (2, .int x2), (3, .int x3), (4, .int (f2 f x1)), (5, .int i18_5), (6, .int i18_6), (7, .int i18_7)], [], M_18)) (S2 := (50, [(8, .int (Int64.toInt32 (f4 f (i18_5 + 2)))), (0, .ref m0), (2, .int x2), (3, .int x3), (4, .int (f2 f x1)), (5, .int i18_5), (6, .int i18_6), (7, .int i18_7)], [], M_18)) rfl rfl rfl (fun c_47 => ?_) (fun c_47 => ?_)
        · have c_47 : (tgf f cp pa (f2 f i18_5)) = 1 := of_decide_eq_true c_47
          refine ml_blk 3 (S' := (65, [(8, .int (Int64.toInt32 (f4 f (i18_5 + 2)))), (0, .ref m0), (2, .int x2), (3, .int x3), (4, .int (f2 f x1)), (5, .int i18_5), (6, .int i18_6), (7, .int i18_7)], [.int i18_5, .ref m0, .ref m0], M_18)) rfl ?_
          refine ml_call (a := [.ref m0, .int i18_5]) (rest := [.ref m0]) rfl (hR_18.okc rfl rfl rfl) rfl rfl (rm_u2 hR_18 hF14 (g0) (by omega) (by omega)) (fun v25 M26 h27 => ?_)
          obtain ⟨rfl, h27⟩ := h27
          rw [h27]
          show ml _ _ _ (68, [(8, .int (Int64.toInt32 (f4 f (i18_5 + 2)))), (0, .ref m0), (2, .int x2), (3, .int x3), (4, .int (f2 f x1)), (5, .int i18_5), (6, .int i18_6), (7, .int i18_7)], [.int (f2 f i18_5), .ref m0], M_18) _
          refine ml_call (a := [.ref m0, .int (f2 f i18_5)]) (rest := []) rfl (hR_18.okc rfl rfl rfl) rfl rfl (rm_symOf hR_18 hP21 (c_47) (by omega)) (fun v28 M29 h30 => ?_)
          obtain ⟨rfl, h30⟩ := h30
          rw [h30]
          show ml _ _ _ (71, [(8, .int (Int64.toInt32 (f4 f (i18_5 + 2)))), (0, .ref m0), (2, .int x2), (3, .int x3), (4, .int (f2 f x1)), (5, .int i18_5), (6, .int i18_6), (7, .int i18_7)], [.int (pyf py (f2 f i18_5))], M_18) _
          refine ml_st (S' := (73, [(9, .int (pyf py (f2 f i18_5))), (8, .int (Int64.toInt32 (f4 f (i18_5 + 2)))), (0, .ref m0), (2, .int x2), (3, .int x3), (4, .int (f2 f x1)), (5, .int i18_5), (6, .int i18_6), (7, .int i18_7)], [], M_18)) rfl rfl rfl ?_
          have hy9 := hP.y (show tgf f cp pa (f2 f i18_5) = 1 from c_47)
          refine ml_st (S' := (74, [(9, .int (pyf py (f2 f i18_5))), (8, .int (Int64.toInt32 (f4 f (i18_5 + 2)))), (0, .ref m0), (2, .int x2), (3, .int x3), (4, .int (f2 f x1)), (5, .int i18_5), (6, .int i18_6), (7, .int i18_7)], [.int (-1)], M_18)) rfl rfl rfl ?_
          refine ml_st (S' := (76, [(10, .int (-1)), (9, .int (pyf py (f2 f i18_5))), (8, .int (Int64.toInt32 (f4 f (i18_5 + 2)))), (0, .ref m0), (2, .int x2), (3, .int x3), (4, .int (f2 f x1)), (5, .int i18_5), (6, .int i18_6), (7, .int i18_7)], [], M_18)) rfl rfl rfl ?_
          refine ml_st (S' := (77, [(10, .int (-1)), (9, .int (pyf py (f2 f i18_5))), (8, .int (Int64.toInt32 (f4 f (i18_5 + 2)))), (0, .ref m0), (2, .int x2), (3, .int x3), (4, .int (f2 f x1)), (5, .int i18_5), (6, .int i18_6), (7, .int i18_7)], [.int 0], M_18)) rfl rfl rfl ?_
          refine ml_st (S' := (79, [(0, .ref m0), (2, .int x2), (3, .int x3), (4, .int (f2 f x1)), (5, .int i18_5), (6, .int i18_6), (7, .int i18_7), (8, .int (Int64.toInt32 (f4 f (i18_5 + 2)))), (9, .int (pyf py (f2 f i18_5))), (10, .int (-1)), (11, .int 0)], [], M_18)) rfl rfl rfl ?_
          have L_79 : ∀ (n_79 : Nat) (i79_10 : Int32) (i79_11 : Int32), (2147483648 - i79_11.toInt).toNat ≤ n_79 → (0 ≤ i79_11.toInt ∧ (i79_10 < 0 ∨ (0 ≤ i79_10.toInt ∧ i79_10.toInt < 10 ∧ kin i79_10 = x2))) → ml (mT g) d (mb_187 g).2 (79, [(0, .ref m0), (2, .int x2), (3, .int x3), (4, .int (f2 f x1)), (5, .int i18_5), (6, .int i18_6), (7, .int i18_7), (8, .int (Int64.toInt32 (f4 f (i18_5 + 2)))), (9, .int (pyf py (f2 f i18_5))), (10, .int i79_10), (11, .int i79_11)], [], M_18) (fun v M' => ∃ (x : Int32) (I' : rI) (R' : rR), v = some (.int x) ∧ RS g m0 q z I' R' M' ∧ eqI [47, 48] I I' ∧ eqR [37, 38, 39, 40, 41, 42, 43, 44] R R' ∧ (x.toInt < 0 ∨ x = e) ∧ pw x3.toNatClampNeg R R' ∧ MCD f n x3.toNatClampNeg R' ∧ kn [38, 39, 40, 42, 43, 44] x3.toNatClampNeg R') := by
            intro n_79
            induction n_79 with
            | zero => intro i79_10 i79_11 hn; exact (loop_zero hn).elim
            | succ n_79 ih_79 =>
              intro i79_10 i79_11 hn_79 hi_79
              obtain ⟨hj0, hjw⟩ := hi_79
              refine ml_blk 2 (S' := (82, [(0, .ref m0), (2, .int x2), (3, .int x3), (4, .int (f2 f x1)), (5, .int i18_5), (6, .int i18_6), (7, .int i18_7), (8, .int (Int64.toInt32 (f4 f (i18_5 + 2)))), (9, .int (pyf py (f2 f i18_5))), (10, .int i79_10), (11, .int i79_11)], [.ref m0, .int i79_11], M_18)) rfl ?_
              refine rg_ref (S' := (85, [(0, .ref m0), (2, .int x2), (3, .int x3), (4, .int (f2 f x1)), (5, .int i18_5), (6, .int i18_6), (7, .int i18_7), (8, .int (Int64.toInt32 (f4 f (i18_5 + 2)))), (9, .int (pyf py (f2 f i18_5))), (10, .int i79_10), (11, .int i79_11)], [.ref (q 62), .int i79_11], M_18)) rfl hR_18 rfl rfl ?_
              refine rl_kn (S' := (86, [(0, .ref m0), (2, .int x2), (3, .int x3), (4, .int (f2 f x1)), (5, .int i18_5), (6, .int i18_6), (7, .int i18_7), (8, .int (Int64.toInt32 (f4 f (i18_5 + 2)))), (9, .int (pyf py (f2 f i18_5))), (10, .int i79_10), (11, .int i79_11)], [.int (nI 10), .int i79_11], M_18)) rfl hR_18 rfl ?_
              refine ml_if2 (S1 := (140, [(0, .ref m0), (2, .int x2), (3, .int x3), (4, .int (f2 f x1)), (5, .int i18_5), (6, .int i18_6), (7, .int i18_7), (8, .int (Int64.toInt32 (f4 f (i18_5 + 2)))), (9, .int (pyf py (f2 f i18_5))), (10, .int i79_10), (11, .int i79_11)], [], M_18)) (S2 := (89, [(0, .ref m0), (2, .int x2), (3, .int x3), (4, .int (f2 f x1)), (5, .int i18_5), (6, .int i18_6), (7, .int i18_7), (8, .int (Int64.toInt32 (f4 f (i18_5 + 2)))), (9, .int (pyf py (f2 f i18_5))), (10, .int i79_10), (11, .int i79_11)], [], M_18)) rfl rfl rfl (fun c_86 => ?_) (fun c_86 => ?_)
              · have c_86 : (nI 10) ≤ i79_11 := of_decide_eq_true c_86
                refine ml_st (S' := (142, [(0, .ref m0), (2, .int x2), (3, .int x3), (4, .int (f2 f x1)), (5, .int i18_5), (6, .int i18_6), (7, .int i18_7), (8, .int (Int64.toInt32 (f4 f (i18_5 + 2)))), (9, .int (pyf py (f2 f i18_5))), (10, .int i79_10), (11, .int i79_11)], [.int i79_10], M_18)) rfl rfl rfl ?_
                refine ml_if (S1 := (268, [(0, .ref m0), (2, .int x2), (3, .int x3), (4, .int (f2 f x1)), (5, .int i18_5), (6, .int i18_6), (7, .int i18_7), (8, .int (Int64.toInt32 (f4 f (i18_5 + 2))))], [], M_18)) (S2 := (145, [(0, .ref m0), (2, .int x2), (3, .int x3), (4, .int (f2 f x1)), (5, .int i18_5), (6, .int i18_6), (7, .int i18_7), (8, .int (Int64.toInt32 (f4 f (i18_5 + 2)))), (9, .int (pyf py (f2 f i18_5))), (10, .int i79_10), (11, .int i79_11)], [], M_18)) rfl rfl rfl (fun c_142 => ?_) (fun c_142 => ?_)
                · have c_142 : i79_10 < 0 := of_decide_eq_true c_142
                  refine ml_blk 3 (S' := (274, [(0, .ref m0), (2, .int x2), (3, .int x3), (4, .int (f2 f x1)), (5, .int i18_5), (6, .int i18_6), (7, .int i18_7), (8, .int (Int64.toInt32 (f4 f (i18_5 + 2))))], [.int (Int64.toInt32 (f4 f (i18_5 + 2))), .int 6, .int i18_5], M_18)) rfl ?_
                  refine ml_blk 2 (S' := (276, [(0, .ref m0), (2, .int x2), (3, .int x3), (4, .int (f2 f x1)), (5, .int i18_5), (6, .int i18_6), (7, .int i18_7), (8, .int (Int64.toInt32 (f4 f (i18_5 + 2))))], [.int (i18_5 + (6 + (Int64.toInt32 (f4 f (i18_5 + 2)))))], M_18)) rfl ?_
                  refine ml_st (S' := (278, [(5, .int (i18_5 + (6 + (Int64.toInt32 (f4 f (i18_5 + 2)))))), (0, .ref m0), (2, .int x2), (3, .int x3), (4, .int (f2 f x1)), (6, .int i18_6), (7, .int i18_7), (8, .int (Int64.toInt32 (f4 f (i18_5 + 2))))], [], M_18)) rfl rfl rfl ?_
                  refine ml_st (S' := (281, [(7, .int (i18_7 + 1)), (5, .int (i18_5 + (6 + (Int64.toInt32 (f4 f (i18_5 + 2)))))), (0, .ref m0), (2, .int x2), (3, .int x3), (4, .int (f2 f x1)), (6, .int i18_6), (8, .int (Int64.toInt32 (f4 f (i18_5 + 2))))], [], M_18)) rfl rfl rfl ?_
                  refine ml_st (S' := (18, [(0, .ref m0), (2, .int x2), (3, .int x3), (4, .int (f2 f x1)), (5, .int (i18_5 + (6 + (Int64.toInt32 (f4 f (i18_5 + 2)))))), (6, .int i18_6), (7, .int (i18_7 + 1))], [], M_18)) rfl rfl rfl ?_
                  exact ih_18 (i18_5 + (6 + (Int64.toInt32 (f4 f (i18_5 + 2))))) i18_6 (i18_7 + 1) _ _ _ (loop_inc (Int32.not_le.mp c_22) hn_18) hR_18 (eqI.rf.tr hI_18 (by decide)) (eqR.rf.tr hV_18 (by decide)) (⟨by rw [inc_lt (Int32.not_le.mp c_22)]; omega, by rw [inc_lt (Int32.not_le.mp c_22)]; have := i_nle c_22; omega, hb1.eq hra ▸ hnx, (pw.rf.tr hpw18), hmc18, hkn18⟩)
                · have c_142 : ¬ (i79_10 < 0) := of_decide_eq_false c_142
                  have hwn := hjw.resolve_left c_142
                  refine ml_blk 2 (S' := (147, [(0, .ref m0), (2, .int x2), (3, .int x3), (4, .int (f2 f x1)), (5, .int i18_5), (6, .int i18_6), (7, .int i18_7), (8, .int (Int64.toInt32 (f4 f (i18_5 + 2)))), (9, .int (pyf py (f2 f i18_5))), (10, .int i79_10), (11, .int i79_11)], [.int 1, .int x2], M_18)) rfl ?_
                  refine ml_if2 (S1 := (160, [(0, .ref m0), (2, .int x2), (3, .int x3), (4, .int (f2 f x1)), (5, .int i18_5), (6, .int i18_6), (7, .int i18_7), (8, .int (Int64.toInt32 (f4 f (i18_5 + 2)))), (10, .int i79_10)], [], M_18)) (S2 := (150, [(0, .ref m0), (2, .int x2), (3, .int x3), (4, .int (f2 f x1)), (5, .int i18_5), (6, .int i18_6), (7, .int i18_7), (8, .int (Int64.toInt32 (f4 f (i18_5 + 2)))), (9, .int (pyf py (f2 f i18_5))), (10, .int i79_10), (11, .int i79_11)], [], M_18)) rfl rfl rfl (fun c_147 => ?_) (fun c_147 => ?_)
                  rotate_left
                  · exact absurd ((by rw [hw]; decide : ¬ x2 = 1)) (of_decide_eq_false c_147)
                  refine ml_blk 2 (S' := (162, [(0, .ref m0), (2, .int x2), (3, .int x3), (4, .int (f2 f x1)), (5, .int i18_5), (6, .int i18_6), (7, .int i18_7), (8, .int (Int64.toInt32 (f4 f (i18_5 + 2)))), (10, .int i79_10)], [.int 2, .int x2], M_18)) rfl ?_
                  refine ml_if2 (S1 := (175, [(0, .ref m0), (2, .int x2), (3, .int x3), (4, .int (f2 f x1)), (5, .int i18_5), (6, .int i18_6), (7, .int i18_7), (8, .int (Int64.toInt32 (f4 f (i18_5 + 2)))), (10, .int i79_10)], [], M_18)) (S2 := (165, [(0, .ref m0), (2, .int x2), (3, .int x3), (4, .int (f2 f x1)), (5, .int i18_5), (6, .int i18_6), (7, .int i18_7), (8, .int (Int64.toInt32 (f4 f (i18_5 + 2)))), (10, .int i79_10)], [], M_18)) rfl rfl rfl (fun c_162 => ?_) (fun c_162 => ?_)
                  · exact absurd (of_decide_eq_true c_162) ((fun h => h hw))
                  refine ml_st (S' := (166, [(0, .ref m0), (2, .int x2), (3, .int x3), (4, .int (f2 f x1)), (5, .int i18_5), (6, .int i18_6), (7, .int i18_7), (8, .int (Int64.toInt32 (f4 f (i18_5 + 2)))), (10, .int i79_10)], [.ref m0], M_18)) rfl rfl rfl ?_
                  refine rg_ref (S' := (169, [(0, .ref m0), (2, .int x2), (3, .int x3), (4, .int (f2 f x1)), (5, .int i18_5), (6, .int i18_6), (7, .int i18_7), (8, .int (Int64.toInt32 (f4 f (i18_5 + 2)))), (10, .int i79_10)], [.ref (q 43)], M_18)) rfl hR_18 rfl rfl ?_
                  refine ml_blk 2 (S' := (171, [(0, .ref m0), (2, .int x2), (3, .int x3), (4, .int (f2 f x1)), (5, .int i18_5), (6, .int i18_6), (7, .int i18_7), (8, .int (Int64.toInt32 (f4 f (i18_5 + 2)))), (10, .int i79_10)], [.int x3, .ref (q 43), .int x3, .ref (q 43)], M_18)) rfl ?_
                  obtain ⟨v171, hv171⟩ := hkn18 43 (by decide)
                  refine ra_ld (k := 43) (S' := (172, [(0, .ref m0), (2, .int x2), (3, .int x3), (4, .int (f2 f x1)), (5, .int i18_5), (6, .int i18_6), (7, .int i18_7), (8, .int (Int64.toInt32 (f4 f (i18_5 + 2)))), (10, .int i79_10)], [.int v171, .int x3, .ref (q 43)], M_18)) rfl hR_18 rfl (vin_lt ho0 (by omega)) (hv171) rfl ?_
                  refine ml_blk 2 (S' := (174, [(0, .ref m0), (2, .int x2), (3, .int x3), (4, .int (f2 f x1)), (5, .int i18_5), (6, .int i18_6), (7, .int i18_7), (8, .int (Int64.toInt32 (f4 f (i18_5 + 2)))), (10, .int i79_10)], [.int (v171 + 1), .int x3, .ref (q 43)], M_18)) rfl ?_
                  refine ra_st (k := 43) rfl hR_18 rfl (vin_lt ho0 (by omega)) (fun M31 R32 hR33 e34 g35 f36 => ?_)
                  show ml _ _ _ (175, [(0, .ref m0), (2, .int x2), (3, .int x3), (4, .int (f2 f x1)), (5, .int i18_5), (6, .int i18_6), (7, .int i18_7), (8, .int (Int64.toInt32 (f4 f (i18_5 + 2)))), (10, .int i79_10)], [], M31) _
                  refine ml_blk 2 (S' := (177, [(0, .ref m0), (2, .int x2), (3, .int x3), (4, .int (f2 f x1)), (5, .int i18_5), (6, .int i18_6), (7, .int i18_7), (8, .int (Int64.toInt32 (f4 f (i18_5 + 2)))), (10, .int i79_10)], [.int 4, .int x2], M31)) rfl ?_
                  refine ml_if2 (S1 := (190, [(0, .ref m0), (2, .int x2), (3, .int x3), (4, .int (f2 f x1)), (5, .int i18_5), (6, .int i18_6), (7, .int i18_7), (8, .int (Int64.toInt32 (f4 f (i18_5 + 2)))), (10, .int i79_10)], [], M31)) (S2 := (180, [(0, .ref m0), (2, .int x2), (3, .int x3), (4, .int (f2 f x1)), (5, .int i18_5), (6, .int i18_6), (7, .int i18_7), (8, .int (Int64.toInt32 (f4 f (i18_5 + 2)))), (10, .int i79_10)], [], M31)) rfl rfl rfl (fun c_177 => ?_) (fun c_177 => ?_)
                  rotate_left
                  · exact absurd ((by rw [hw]; decide : ¬ x2 = 4)) (of_decide_eq_false c_177)
                  refine ml_blk 3 (S' := (195, [(0, .ref m0), (2, .int x2), (3, .int x3), (4, .int (f2 f x1)), (5, .int i18_5), (6, .int i18_6), (7, .int i18_7), (8, .int (Int64.toInt32 (f4 f (i18_5 + 2)))), (10, .int i79_10)], [.int (i18_6 >>> (i79_10 &&& 31))], M31)) rfl ?_
                  refine ml_blk 3 (S' := (198, [(0, .ref m0), (2, .int x2), (3, .int x3), (4, .int (f2 f x1)), (5, .int i18_5), (6, .int i18_6), (7, .int i18_7), (8, .int (Int64.toInt32 (f4 f (i18_5 + 2)))), (10, .int i79_10)], [.int 1, .int ((i18_6 >>> (i79_10 &&& 31)) &&& 1)], M31)) rfl ?_
                  refine ml_if2 (S1 := (212, [(0, .ref m0), (2, .int x2), (3, .int x3), (4, .int (f2 f x1)), (5, .int i18_5), (6, .int i18_6), (7, .int i18_7), (8, .int (Int64.toInt32 (f4 f (i18_5 + 2)))), (10, .int i79_10)], [], M31)) (S2 := (201, [(0, .ref m0), (2, .int x2), (3, .int x3), (4, .int (f2 f x1)), (5, .int i18_5), (6, .int i18_6), (7, .int i18_7), (8, .int (Int64.toInt32 (f4 f (i18_5 + 2)))), (10, .int i79_10)], [], M31)) rfl rfl rfl (fun c_198 => ?_) (fun c_198 => ?_)
                  · have c_198 : ¬ ((i18_6 >>> (i79_10 &&& 31)) &&& 1) = 1 := of_decide_eq_true c_198
                    refine ml_blk 3 (S' := (217, [(0, .ref m0), (2, .int x2), (3, .int x3), (4, .int (f2 f x1)), (5, .int i18_5), (6, .int i18_6), (7, .int i18_7), (8, .int (Int64.toInt32 (f4 f (i18_5 + 2)))), (10, .int i79_10)], [.int i18_5, .int i79_10, .ref m0], M31)) rfl ?_
                    refine ml_blk 3 (S' := (222, [(0, .ref m0), (2, .int x2), (3, .int x3), (4, .int (f2 f x1)), (5, .int i18_5), (6, .int i18_6), (7, .int i18_7), (8, .int (Int64.toInt32 (f4 f (i18_5 + 2)))), (10, .int i79_10)], [.int (i18_5 + 6), .int i18_5, .int i79_10, .ref m0], M31)) rfl ?_
                    refine ml_blk 3 (S' := (227, [(0, .ref m0), (2, .int x2), (3, .int x3), (4, .int (f2 f x1)), (5, .int i18_5), (6, .int i18_6), (7, .int i18_7), (8, .int (Int64.toInt32 (f4 f (i18_5 + 2)))), (10, .int i79_10)], [.int (i18_5 + 6), .int (i18_5 + 6), .int i18_5, .int i79_10, .ref m0], M31)) rfl ?_
                    refine ml_blk 3 (S' := (231, [(0, .ref m0), (2, .int x2), (3, .int x3), (4, .int (f2 f x1)), (5, .int i18_5), (6, .int i18_6), (7, .int i18_7), (8, .int (Int64.toInt32 (f4 f (i18_5 + 2)))), (10, .int i79_10)], [.int x3, .int ((i18_5 + 6) + (Int64.toInt32 (f4 f (i18_5 + 2)))), .int (i18_5 + 6), .int i18_5, .int i79_10, .ref m0], M31)) rfl ?_
                    refine ml_st (S' := (233, [(0, .ref m0), (2, .int x2), (3, .int x3), (4, .int (f2 f x1)), (5, .int i18_5), (6, .int i18_6), (7, .int i18_7), (8, .int (Int64.toInt32 (f4 f (i18_5 + 2)))), (10, .int i79_10)], [.int i18_6, .int x3, .int ((i18_5 + 6) + (Int64.toInt32 (f4 f (i18_5 + 2)))), .int (i18_5 + 6), .int i18_5, .int i79_10, .ref m0], M31)) rfl rfl rfl ?_
                    have hF37 : FK n f I_18 R32 := (hF14.mono (fun _ _ => rfl) (pRx f36 (by decide)))
                    have hY38 : SK S cN sa sl ch I_18 R32 := ((hY.mono (cIx hI_18 (by decide)) (cRx hV_18 (by decide))).mono (fun _ _ => rfl) (pRx f36 (by decide)))
                    have hP39 : PK n f S cp mj pa py I_18 R32 := (hP21.mono (fun _ _ => rfl) (pRx f36 (by decide)))
                    have hK40 : KW I_18 R32 := ((hK.mono (cIx hI_18 (by decide)) (cRx hV_18 (by decide))).mono (fun _ _ => rfl) (pRx f36 (by decide)))
                    refine ml_call (a := [.ref m0, .int i79_10, .int i18_5, .int (i18_5 + 6), .int ((i18_5 + 6) + (Int64.toInt32 (f4 f (i18_5 + 2)))), .int x3, .int i18_6]) (rest := []) rfl (hR33.okc rfl rfl rfl) rfl rfl (rm_attr2 hR33 hF37 hY38 hP39 hK40 (kin_2 (hwn.2.2.trans hw)) (by omega) (by rw [hle]; omega) (by rw [hle]; omega) (ho0) (ho1) ((congrFun ((f36 34 (by decide)).trans ((hV_18 34 (by decide)))) _).trans hfl) ((congrFun ((f36 36 (by decide)).trans ((hV_18 36 (by decide)))) _).trans hds) (hd0) (hd1) (hmt) (hmc18.fr (fun k hk => by simp only [List.mem_cons, List.not_mem_nil, or_false] at hk; rcases hk with rfl | rfl | rfl | rfl | rfl | rfl; exact (congrFun ((f36 37 (by decide))) _); exact (congrFun ((f36 38 (by decide))) _); exact (congrFun ((f36 39 (by decide))) _); exact (congrFun ((f36 40 (by decide))) _); exact (congrFun ((f36 41 (by decide))) _); exact (congrFun ((f36 42 (by decide))) _))) ((kn.st hkn18 e34 g35 f36)) (by omega)) (fun v41 M42 h43 => ?_)
                    obtain ⟨u49, I44, R45, rfl, hR46, hI47, hV48, w50⟩ := h43
                    show ml _ _ _ (236, [(0, .ref m0), (2, .int x2), (3, .int x3), (4, .int (f2 f x1)), (5, .int i18_5), (6, .int i18_6), (7, .int i18_7), (8, .int (Int64.toInt32 (f4 f (i18_5 + 2)))), (10, .int i79_10)], [.int u49], M42) _
                    obtain ⟨hp51, hm52, hk53⟩ := w50
                    refine ml_st (S' := (238, [(11, .int u49), (0, .ref m0), (2, .int x2), (3, .int x3), (4, .int (f2 f x1)), (5, .int i18_5), (6, .int i18_6), (7, .int i18_7), (8, .int (Int64.toInt32 (f4 f (i18_5 + 2)))), (10, .int i79_10)], [], M42)) rfl rfl rfl ?_
                    refine ml_blk 3 (S' := (243, [(11, .int u49), (0, .ref m0), (2, .int x2), (3, .int x3), (4, .int (f2 f x1)), (5, .int i18_5), (6, .int i18_6), (7, .int i18_7), (8, .int (Int64.toInt32 (f4 f (i18_5 + 2)))), (10, .int i79_10)], [.int i79_10, .int 1, .int i18_6], M42)) rfl ?_
                    refine ml_blk 2 (S' := (245, [(11, .int u49), (0, .ref m0), (2, .int x2), (3, .int x3), (4, .int (f2 f x1)), (5, .int i18_5), (6, .int i18_6), (7, .int i18_7), (8, .int (Int64.toInt32 (f4 f (i18_5 + 2)))), (10, .int i79_10)], [.int (i18_6 ||| (1 <<< (i79_10 &&& 31)))], M42)) rfl ?_
                    refine ml_st (S' := (247, [(6, .int (i18_6 ||| (1 <<< (i79_10 &&& 31)))), (11, .int u49), (0, .ref m0), (2, .int x2), (3, .int x3), (4, .int (f2 f x1)), (5, .int i18_5), (7, .int i18_7), (8, .int (Int64.toInt32 (f4 f (i18_5 + 2)))), (10, .int i79_10)], [], M42)) rfl rfl rfl ?_
                    refine ml_st (S' := (249, [(6, .int (i18_6 ||| (1 <<< (i79_10 &&& 31)))), (11, .int u49), (0, .ref m0), (2, .int x2), (3, .int x3), (4, .int (f2 f x1)), (5, .int i18_5), (7, .int i18_7), (8, .int (Int64.toInt32 (f4 f (i18_5 + 2)))), (10, .int i79_10)], [.int u49], M42)) rfl rfl rfl ?_
                    refine ml_if (S1 := (261, [(0, .ref m0), (2, .int x2), (3, .int x3), (4, .int (f2 f x1)), (5, .int i18_5), (6, .int (i18_6 ||| (1 <<< (i79_10 &&& 31)))), (7, .int i18_7), (8, .int (Int64.toInt32 (f4 f (i18_5 + 2)))), (11, .int u49)], [], M42)) (S2 := (252, [(6, .int (i18_6 ||| (1 <<< (i79_10 &&& 31)))), (11, .int u49), (0, .ref m0), (2, .int x2), (3, .int x3), (4, .int (f2 f x1)), (5, .int i18_5), (7, .int i18_7), (8, .int (Int64.toInt32 (f4 f (i18_5 + 2)))), (10, .int i79_10)], [], M42)) rfl rfl rfl (fun c_249 => ?_) (fun c_249 => ?_)
                    · have c_249 : u49 ≤ 0 := of_decide_eq_true c_249
                      refine ml_st (S' := (263, [(0, .ref m0), (2, .int x2), (3, .int x3), (4, .int (f2 f x1)), (5, .int i18_5), (6, .int (i18_6 ||| (1 <<< (i79_10 &&& 31)))), (7, .int i18_7), (8, .int (Int64.toInt32 (f4 f (i18_5 + 2)))), (11, .int u49)], [.int u49], M42)) rfl rfl rfl ?_
                      refine ml_if (S1 := (268, [(0, .ref m0), (2, .int x2), (3, .int x3), (4, .int (f2 f x1)), (5, .int i18_5), (6, .int (i18_6 ||| (1 <<< (i79_10 &&& 31)))), (7, .int i18_7), (8, .int (Int64.toInt32 (f4 f (i18_5 + 2))))], [], M42)) (S2 := (266, [(0, .ref m0), (2, .int x2), (3, .int x3), (4, .int (f2 f x1)), (5, .int i18_5), (6, .int (i18_6 ||| (1 <<< (i79_10 &&& 31)))), (7, .int i18_7), (8, .int (Int64.toInt32 (f4 f (i18_5 + 2)))), (11, .int u49)], [], M42)) rfl rfl rfl (fun c_263 => ?_) (fun c_263 => ?_)
                      · have c_263 : u49 = 0 := of_decide_eq_true c_263
                        refine ml_blk 3 (S' := (274, [(0, .ref m0), (2, .int x2), (3, .int x3), (4, .int (f2 f x1)), (5, .int i18_5), (6, .int (i18_6 ||| (1 <<< (i79_10 &&& 31)))), (7, .int i18_7), (8, .int (Int64.toInt32 (f4 f (i18_5 + 2))))], [.int (Int64.toInt32 (f4 f (i18_5 + 2))), .int 6, .int i18_5], M42)) rfl ?_
                        refine ml_blk 2 (S' := (276, [(0, .ref m0), (2, .int x2), (3, .int x3), (4, .int (f2 f x1)), (5, .int i18_5), (6, .int (i18_6 ||| (1 <<< (i79_10 &&& 31)))), (7, .int i18_7), (8, .int (Int64.toInt32 (f4 f (i18_5 + 2))))], [.int (i18_5 + (6 + (Int64.toInt32 (f4 f (i18_5 + 2)))))], M42)) rfl ?_
                        refine ml_st (S' := (278, [(5, .int (i18_5 + (6 + (Int64.toInt32 (f4 f (i18_5 + 2)))))), (0, .ref m0), (2, .int x2), (3, .int x3), (4, .int (f2 f x1)), (6, .int (i18_6 ||| (1 <<< (i79_10 &&& 31)))), (7, .int i18_7), (8, .int (Int64.toInt32 (f4 f (i18_5 + 2))))], [], M42)) rfl rfl rfl ?_
                        refine ml_st (S' := (281, [(7, .int (i18_7 + 1)), (5, .int (i18_5 + (6 + (Int64.toInt32 (f4 f (i18_5 + 2)))))), (0, .ref m0), (2, .int x2), (3, .int x3), (4, .int (f2 f x1)), (6, .int (i18_6 ||| (1 <<< (i79_10 &&& 31)))), (8, .int (Int64.toInt32 (f4 f (i18_5 + 2))))], [], M42)) rfl rfl rfl ?_
                        refine ml_st (S' := (18, [(0, .ref m0), (2, .int x2), (3, .int x3), (4, .int (f2 f x1)), (5, .int (i18_5 + (6 + (Int64.toInt32 (f4 f (i18_5 + 2)))))), (6, .int (i18_6 ||| (1 <<< (i79_10 &&& 31)))), (7, .int (i18_7 + 1))], [], M42)) rfl rfl rfl ?_
                        exact ih_18 (i18_5 + (6 + (Int64.toInt32 (f4 f (i18_5 + 2))))) (i18_6 ||| (1 <<< (i79_10 &&& 31))) (i18_7 + 1) _ _ _ (loop_inc (Int32.not_le.mp c_22) hn_18) hR46 ((eqI.rf.tr hI_18 (by decide)).tr hI47 (by decide)) (((eqR.rf.tr hV_18 (by decide)).put f36 (by decide)).tr hV48 (by decide)) (⟨by rw [inc_lt (Int32.not_le.mp c_22)]; omega, by rw [inc_lt (Int32.not_le.mp c_22)]; have := i_nle c_22; omega, hb1.eq hra ▸ hnx, (((pw.rf.tr hpw18).st g35 f36 rfl).tr hp51), hm52, hk53⟩)
                      · have c_263 : ¬ (u49 = 0) := of_decide_eq_false c_263
                        refine ml_st (S' := (267, [(0, .ref m0), (2, .int x2), (3, .int x3), (4, .int (f2 f x1)), (5, .int i18_5), (6, .int (i18_6 ||| (1 <<< (i79_10 &&& 31)))), (7, .int i18_7), (8, .int (Int64.toInt32 (f4 f (i18_5 + 2)))), (11, .int u49)], [.int (-1)], M42)) rfl rfl rfl ?_
                        exact ml_ret rfl (rfl) (⟨_, _, _, rfl, hR46, ((eqI.rf.tr hI_18 (by decide)).tr hI47 (by decide)), (((eqR.rf.tr hV_18 (by decide)).put f36 (by decide)).tr hV48 (by decide)), ⟨Or.inl (by decide), (((pw.rf.tr hpw18).st g35 f36 rfl).tr hp51), hm52, hk53⟩⟩)
                    · have c_249 : ¬ (u49 ≤ 0) := of_decide_eq_false c_249
                      refine ml_blk 3 (S' := (257, [(6, .int (i18_6 ||| (1 <<< (i79_10 &&& 31)))), (11, .int u49), (0, .ref m0), (2, .int x2), (3, .int x3), (4, .int (f2 f x1)), (5, .int i18_5), (7, .int i18_7), (8, .int (Int64.toInt32 (f4 f (i18_5 + 2)))), (10, .int i79_10)], [.int i18_5, .int u49, .ref m0], M42)) rfl ?_
                      refine ml_call (a := [.ref m0, .int u49, .int i18_5]) (rest := []) rfl (hR46.okc rfl rfl rfl) rfl rfl (rm_wrong hR46 (by omega)) (fun v54 M55 h56 => ?_)
                      obtain ⟨u62, I57, R58, rfl, hR59, hI60, hV61, z63, w64⟩ := h56
                      show ml _ _ _ (260, [(6, .int (i18_6 ||| (1 <<< (i79_10 &&& 31)))), (11, .int u49), (0, .ref m0), (2, .int x2), (3, .int x3), (4, .int (f2 f x1)), (5, .int i18_5), (7, .int i18_7), (8, .int (Int64.toInt32 (f4 f (i18_5 + 2)))), (10, .int i79_10)], [.int u62], M55) _
                      refine ml_st (S' := (261, [(0, .ref m0), (2, .int x2), (3, .int x3), (4, .int (f2 f x1)), (5, .int i18_5), (6, .int (i18_6 ||| (1 <<< (i79_10 &&& 31)))), (7, .int i18_7), (8, .int (Int64.toInt32 (f4 f (i18_5 + 2)))), (11, .int u49)], [], M55)) rfl rfl rfl ?_
                      refine ml_st (S' := (263, [(0, .ref m0), (2, .int x2), (3, .int x3), (4, .int (f2 f x1)), (5, .int i18_5), (6, .int (i18_6 ||| (1 <<< (i79_10 &&& 31)))), (7, .int i18_7), (8, .int (Int64.toInt32 (f4 f (i18_5 + 2)))), (11, .int u49)], [.int u49], M55)) rfl rfl rfl ?_
                      refine ml_if (S1 := (268, [(0, .ref m0), (2, .int x2), (3, .int x3), (4, .int (f2 f x1)), (5, .int i18_5), (6, .int (i18_6 ||| (1 <<< (i79_10 &&& 31)))), (7, .int i18_7), (8, .int (Int64.toInt32 (f4 f (i18_5 + 2))))], [], M55)) (S2 := (266, [(0, .ref m0), (2, .int x2), (3, .int x3), (4, .int (f2 f x1)), (5, .int i18_5), (6, .int (i18_6 ||| (1 <<< (i79_10 &&& 31)))), (7, .int i18_7), (8, .int (Int64.toInt32 (f4 f (i18_5 + 2)))), (11, .int u49)], [], M55)) rfl rfl rfl (fun c_263 => ?_) (fun c_263 => ?_)
                      · have c_263 : u49 = 0 := of_decide_eq_true c_263
                        refine ml_blk 3 (S' := (274, [(0, .ref m0), (2, .int x2), (3, .int x3), (4, .int (f2 f x1)), (5, .int i18_5), (6, .int (i18_6 ||| (1 <<< (i79_10 &&& 31)))), (7, .int i18_7), (8, .int (Int64.toInt32 (f4 f (i18_5 + 2))))], [.int (Int64.toInt32 (f4 f (i18_5 + 2))), .int 6, .int i18_5], M55)) rfl ?_
                        refine ml_blk 2 (S' := (276, [(0, .ref m0), (2, .int x2), (3, .int x3), (4, .int (f2 f x1)), (5, .int i18_5), (6, .int (i18_6 ||| (1 <<< (i79_10 &&& 31)))), (7, .int i18_7), (8, .int (Int64.toInt32 (f4 f (i18_5 + 2))))], [.int (i18_5 + (6 + (Int64.toInt32 (f4 f (i18_5 + 2)))))], M55)) rfl ?_
                        refine ml_st (S' := (278, [(5, .int (i18_5 + (6 + (Int64.toInt32 (f4 f (i18_5 + 2)))))), (0, .ref m0), (2, .int x2), (3, .int x3), (4, .int (f2 f x1)), (6, .int (i18_6 ||| (1 <<< (i79_10 &&& 31)))), (7, .int i18_7), (8, .int (Int64.toInt32 (f4 f (i18_5 + 2))))], [], M55)) rfl rfl rfl ?_
                        refine ml_st (S' := (281, [(7, .int (i18_7 + 1)), (5, .int (i18_5 + (6 + (Int64.toInt32 (f4 f (i18_5 + 2)))))), (0, .ref m0), (2, .int x2), (3, .int x3), (4, .int (f2 f x1)), (6, .int (i18_6 ||| (1 <<< (i79_10 &&& 31)))), (8, .int (Int64.toInt32 (f4 f (i18_5 + 2))))], [], M55)) rfl rfl rfl ?_
                        refine ml_st (S' := (18, [(0, .ref m0), (2, .int x2), (3, .int x3), (4, .int (f2 f x1)), (5, .int (i18_5 + (6 + (Int64.toInt32 (f4 f (i18_5 + 2)))))), (6, .int (i18_6 ||| (1 <<< (i79_10 &&& 31)))), (7, .int (i18_7 + 1))], [], M55)) rfl rfl rfl ?_
                        exact ih_18 (i18_5 + (6 + (Int64.toInt32 (f4 f (i18_5 + 2))))) (i18_6 ||| (1 <<< (i79_10 &&& 31))) (i18_7 + 1) _ _ _ (loop_inc (Int32.not_le.mp c_22) hn_18) hR59 (((eqI.rf.tr hI_18 (by decide)).tr hI47 (by decide)).tr hI60 (by decide)) ((((eqR.rf.tr hV_18 (by decide)).put f36 (by decide)).tr hV48 (by decide)).tr hV61 (by decide)) (⟨by rw [inc_lt (Int32.not_le.mp c_22)]; omega, by rw [inc_lt (Int32.not_le.mp c_22)]; have := i_nle c_22; omega, hb1.eq hra ▸ hnx, ((((pw.rf.tr hpw18).st g35 f36 rfl).tr hp51).eq hV61), hm52.fr (fun k hk => by simp only [List.mem_cons, List.not_mem_nil, or_false] at hk; rcases hk with rfl | rfl | rfl | rfl | rfl | rfl; exact (congrFun ((hV61 37 (by decide))) _); exact (congrFun ((hV61 38 (by decide))) _); exact (congrFun ((hV61 39 (by decide))) _); exact (congrFun ((hV61 40 (by decide))) _); exact (congrFun ((hV61 41 (by decide))) _); exact (congrFun ((hV61 42 (by decide))) _)), (kn.eq hk53 hV61 (by decide))⟩)
                      · have c_263 : ¬ (u49 = 0) := of_decide_eq_false c_263
                        refine ml_st (S' := (267, [(0, .ref m0), (2, .int x2), (3, .int x3), (4, .int (f2 f x1)), (5, .int i18_5), (6, .int (i18_6 ||| (1 <<< (i79_10 &&& 31)))), (7, .int i18_7), (8, .int (Int64.toInt32 (f4 f (i18_5 + 2)))), (11, .int u49)], [.int (-1)], M55)) rfl rfl rfl ?_
                        exact ml_ret rfl (rfl) (⟨_, _, _, rfl, hR59, (((eqI.rf.tr hI_18 (by decide)).tr hI47 (by decide)).tr hI60 (by decide)), ((((eqR.rf.tr hV_18 (by decide)).put f36 (by decide)).tr hV48 (by decide)).tr hV61 (by decide)), ⟨Or.inl (by decide), ((((pw.rf.tr hpw18).st g35 f36 rfl).tr hp51).eq hV61), hm52.fr (fun k hk => by simp only [List.mem_cons, List.not_mem_nil, or_false] at hk; rcases hk with rfl | rfl | rfl | rfl | rfl | rfl; exact (congrFun ((hV61 37 (by decide))) _); exact (congrFun ((hV61 38 (by decide))) _); exact (congrFun ((hV61 39 (by decide))) _); exact (congrFun ((hV61 40 (by decide))) _); exact (congrFun ((hV61 41 (by decide))) _); exact (congrFun ((hV61 42 (by decide))) _)), (kn.eq hk53 hV61 (by decide))⟩⟩)
                  · have c_198 : ¬ (¬ ((i18_6 >>> (i79_10 &&& 31)) &&& 1) = 1) := of_decide_eq_false c_198
                    refine ml_blk 3 (S' := (206, [(0, .ref m0), (2, .int x2), (3, .int x3), (4, .int (f2 f x1)), (5, .int i18_5), (6, .int i18_6), (7, .int i18_7), (8, .int (Int64.toInt32 (f4 f (i18_5 + 2)))), (10, .int i79_10)], [.int i18_5, .int 29, .ref m0], M31)) rfl ?_
                    refine ml_call (a := [.ref m0, .int 29, .int i18_5]) (rest := []) rfl (hR33.okc rfl rfl rfl) rfl rfl (rm_wrong hR33 (by omega)) (fun v65 M66 h67 => ?_)
                    obtain ⟨u73, I68, R69, rfl, hR70, hI71, hV72, z74, w75⟩ := h67
                    show ml _ _ _ (209, [(0, .ref m0), (2, .int x2), (3, .int x3), (4, .int (f2 f x1)), (5, .int i18_5), (6, .int i18_6), (7, .int i18_7), (8, .int (Int64.toInt32 (f4 f (i18_5 + 2)))), (10, .int i79_10)], [.int u73], M66) _
                    refine ml_blk 2 (S' := (211, [(0, .ref m0), (2, .int x2), (3, .int x3), (4, .int (f2 f x1)), (5, .int i18_5), (6, .int i18_6), (7, .int i18_7), (8, .int (Int64.toInt32 (f4 f (i18_5 + 2)))), (10, .int i79_10)], [.int (-1)], M66)) rfl ?_
                    exact ml_ret rfl (rfl) (⟨_, _, _, rfl, hR70, ((eqI.rf.tr hI_18 (by decide)).tr hI71 (by decide)), (((eqR.rf.tr hV_18 (by decide)).put f36 (by decide)).tr hV72 (by decide)), ⟨Or.inl (by decide), (((pw.rf.tr hpw18).st g35 f36 rfl).eq hV72), hmc18.fr (fun k hk => by simp only [List.mem_cons, List.not_mem_nil, or_false] at hk; rcases hk with rfl | rfl | rfl | rfl | rfl | rfl; exact (congrFun ((hV72 37 (by decide)).trans ((f36 37 (by decide)))) _); exact (congrFun ((hV72 38 (by decide)).trans ((f36 38 (by decide)))) _); exact (congrFun ((hV72 39 (by decide)).trans ((f36 39 (by decide)))) _); exact (congrFun ((hV72 40 (by decide)).trans ((f36 40 (by decide)))) _); exact (congrFun ((hV72 41 (by decide)).trans ((f36 41 (by decide)))) _); exact (congrFun ((hV72 42 (by decide)).trans ((f36 42 (by decide)))) _)), (kn.eq (kn.st hkn18 e34 g35 f36) hV72 (by decide))⟩⟩)
              · have c_86 : ¬ ((nI 10) ≤ i79_11) := of_decide_eq_false c_86
                have hjl : i79_11.toInt < 10 := by have q := i_nle c_86; rw [nI_val (by decide)] at q; omega
                refine ml_st (S' := (90, [(0, .ref m0), (2, .int x2), (3, .int x3), (4, .int (f2 f x1)), (5, .int i18_5), (6, .int i18_6), (7, .int i18_7), (8, .int (Int64.toInt32 (f4 f (i18_5 + 2)))), (9, .int (pyf py (f2 f i18_5))), (10, .int i79_10), (11, .int i79_11)], [.ref m0], M_18)) rfl rfl rfl ?_
                refine rg_ref (S' := (93, [(0, .ref m0), (2, .int x2), (3, .int x3), (4, .int (f2 f x1)), (5, .int i18_5), (6, .int i18_6), (7, .int i18_7), (8, .int (Int64.toInt32 (f4 f (i18_5 + 2)))), (9, .int (pyf py (f2 f i18_5))), (10, .int i79_10), (11, .int i79_11)], [.ref (q 63)], M_18)) rfl hR_18 rfl rfl ?_
                refine ml_st (S' := (95, [(0, .ref m0), (2, .int x2), (3, .int x3), (4, .int (f2 f x1)), (5, .int i18_5), (6, .int i18_6), (7, .int i18_7), (8, .int (Int64.toInt32 (f4 f (i18_5 + 2)))), (9, .int (pyf py (f2 f i18_5))), (10, .int i79_10), (11, .int i79_11)], [.int i79_11, .ref (q 63)], M_18)) rfl rfl rfl ?_
                have hK76 : KW I_18 R_18 := (hK.mono (cIx hI_18 (by decide)) (cRx hV_18 (by decide)))
                refine ra_ld (k := 63) (S' := (96, [(0, .ref m0), (2, .int x2), (3, .int x3), (4, .int (f2 f x1)), (5, .int i18_5), (6, .int i18_6), (7, .int i18_7), (8, .int (Int64.toInt32 (f4 f (i18_5 + 2)))), (9, .int (pyf py (f2 f i18_5))), (10, .int i79_10), (11, .int i79_11)], [.int (kin i79_11)], M_18)) rfl hR_18 rfl (vin_lt hj0 (by omega)) (hK76.1 i79_11 hj0 hjl) rfl ?_
                refine ml_st (S' := (97, [(0, .ref m0), (2, .int x2), (3, .int x3), (4, .int (f2 f x1)), (5, .int i18_5), (6, .int i18_6), (7, .int i18_7), (8, .int (Int64.toInt32 (f4 f (i18_5 + 2)))), (9, .int (pyf py (f2 f i18_5))), (10, .int i79_10), (11, .int i79_11)], [.int x2, .int (kin i79_11)], M_18)) rfl rfl rfl ?_
                refine ml_if2 (S1 := (134, [(0, .ref m0), (2, .int x2), (3, .int x3), (4, .int (f2 f x1)), (5, .int i18_5), (6, .int i18_6), (7, .int i18_7), (8, .int (Int64.toInt32 (f4 f (i18_5 + 2)))), (9, .int (pyf py (f2 f i18_5))), (10, .int i79_10), (11, .int i79_11)], [], M_18)) (S2 := (100, [(0, .ref m0), (2, .int x2), (3, .int x3), (4, .int (f2 f x1)), (5, .int i18_5), (6, .int i18_6), (7, .int i18_7), (8, .int (Int64.toInt32 (f4 f (i18_5 + 2)))), (9, .int (pyf py (f2 f i18_5))), (10, .int i79_10), (11, .int i79_11)], [], M_18)) rfl rfl rfl (fun c_97 => ?_) (fun c_97 => ?_)
                · have c_97 : ¬ (kin i79_11) = x2 := of_decide_eq_true c_97
                  refine ml_st (S' := (137, [(11, .int (i79_11 + 1)), (0, .ref m0), (2, .int x2), (3, .int x3), (4, .int (f2 f x1)), (5, .int i18_5), (6, .int i18_6), (7, .int i18_7), (8, .int (Int64.toInt32 (f4 f (i18_5 + 2)))), (9, .int (pyf py (f2 f i18_5))), (10, .int i79_10)], [], M_18)) rfl rfl rfl ?_
                  refine ml_st (S' := (79, [(0, .ref m0), (2, .int x2), (3, .int x3), (4, .int (f2 f x1)), (5, .int i18_5), (6, .int i18_6), (7, .int i18_7), (8, .int (Int64.toInt32 (f4 f (i18_5 + 2)))), (9, .int (pyf py (f2 f i18_5))), (10, .int i79_10), (11, .int (i79_11 + 1))], [], M_18)) rfl rfl rfl ?_
                  exact ih_79 i79_10 (i79_11 + 1) (loop_inc (Int32.not_le.mp c_86) hn_79) (⟨by rw [inc_lt (Int32.not_le.mp c_86)]; omega, hjw⟩)
                · have c_97 : ¬ (¬ (kin i79_11) = x2) := of_decide_eq_false c_97
                  refine ml_st (S' := (101, [(0, .ref m0), (2, .int x2), (3, .int x3), (4, .int (f2 f x1)), (5, .int i18_5), (6, .int i18_6), (7, .int i18_7), (8, .int (Int64.toInt32 (f4 f (i18_5 + 2)))), (9, .int (pyf py (f2 f i18_5))), (10, .int i79_10), (11, .int i79_11)], [.ref m0], M_18)) rfl rfl rfl ?_
                  refine rg_int (S' := (104, [(0, .ref m0), (2, .int x2), (3, .int x3), (4, .int (f2 f x1)), (5, .int i18_5), (6, .int i18_6), (7, .int i18_7), (8, .int (Int64.toInt32 (f4 f (i18_5 + 2)))), (9, .int (pyf py (f2 f i18_5))), (10, .int i79_10), (11, .int i79_11)], [.int mj], M_18)) rfl hR_18 rfl ((hI_18 53 (by decide)).trans (hP.2.2.1)) rfl ?_
                  refine ml_st (S' := (105, [(0, .ref m0), (2, .int x2), (3, .int x3), (4, .int (f2 f x1)), (5, .int i18_5), (6, .int i18_6), (7, .int i18_7), (8, .int (Int64.toInt32 (f4 f (i18_5 + 2)))), (9, .int (pyf py (f2 f i18_5))), (10, .int i79_10), (11, .int i79_11)], [.ref m0, .int mj], M_18)) rfl rfl rfl ?_
                  refine rg_ref (S' := (108, [(0, .ref m0), (2, .int x2), (3, .int x3), (4, .int (f2 f x1)), (5, .int i18_5), (6, .int i18_6), (7, .int i18_7), (8, .int (Int64.toInt32 (f4 f (i18_5 + 2)))), (9, .int (pyf py (f2 f i18_5))), (10, .int i79_10), (11, .int i79_11)], [.ref (q 64), .int mj], M_18)) rfl hR_18 rfl rfl ?_
                  refine ml_st (S' := (110, [(0, .ref m0), (2, .int x2), (3, .int x3), (4, .int (f2 f x1)), (5, .int i18_5), (6, .int i18_6), (7, .int i18_7), (8, .int (Int64.toInt32 (f4 f (i18_5 + 2)))), (9, .int (pyf py (f2 f i18_5))), (10, .int i79_10), (11, .int i79_11)], [.int i79_11, .ref (q 64), .int mj], M_18)) rfl rfl rfl ?_
                  obtain ⟨v110, hv110⟩ := hK76.2 i79_11 hj0 hjl
                  refine ra_ld (k := 64) (S' := (111, [(0, .ref m0), (2, .int x2), (3, .int x3), (4, .int (f2 f x1)), (5, .int i18_5), (6, .int i18_6), (7, .int i18_7), (8, .int (Int64.toInt32 (f4 f (i18_5 + 2)))), (9, .int (pyf py (f2 f i18_5))), (10, .int i79_10), (11, .int i79_11)], [.int v110, .int mj], M_18)) rfl hR_18 rfl (vin_lt hj0 (by omega)) (hv110) rfl ?_
                  refine ml_if2 (S1 := (134, [(0, .ref m0), (2, .int x2), (3, .int x3), (4, .int (f2 f x1)), (5, .int i18_5), (6, .int i18_6), (7, .int i18_7), (8, .int (Int64.toInt32 (f4 f (i18_5 + 2)))), (9, .int (pyf py (f2 f i18_5))), (10, .int i79_10), (11, .int i79_11)], [], M_18)) (S2 := (114, [(0, .ref m0), (2, .int x2), (3, .int x3), (4, .int (f2 f x1)), (5, .int i18_5), (6, .int i18_6), (7, .int i18_7), (8, .int (Int64.toInt32 (f4 f (i18_5 + 2)))), (9, .int (pyf py (f2 f i18_5))), (10, .int i79_10), (11, .int i79_11)], [], M_18)) rfl rfl rfl (fun c_111 => ?_) (fun c_111 => ?_)
                  · have c_111 : mj < v110 := of_decide_eq_true c_111
                    refine ml_st (S' := (137, [(11, .int (i79_11 + 1)), (0, .ref m0), (2, .int x2), (3, .int x3), (4, .int (f2 f x1)), (5, .int i18_5), (6, .int i18_6), (7, .int i18_7), (8, .int (Int64.toInt32 (f4 f (i18_5 + 2)))), (9, .int (pyf py (f2 f i18_5))), (10, .int i79_10)], [], M_18)) rfl rfl rfl ?_
                    refine ml_st (S' := (79, [(0, .ref m0), (2, .int x2), (3, .int x3), (4, .int (f2 f x1)), (5, .int i18_5), (6, .int i18_6), (7, .int i18_7), (8, .int (Int64.toInt32 (f4 f (i18_5 + 2)))), (9, .int (pyf py (f2 f i18_5))), (10, .int i79_10), (11, .int (i79_11 + 1))], [], M_18)) rfl rfl rfl ?_
                    exact ih_79 i79_10 (i79_11 + 1) (loop_inc (Int32.not_le.mp c_86) hn_79) (⟨by rw [inc_lt (Int32.not_le.mp c_86)]; omega, hjw⟩)
                  · have c_111 : ¬ (mj < v110) := of_decide_eq_false c_111
                    refine ml_blk 3 (S' := (118, [(0, .ref m0), (2, .int x2), (3, .int x3), (4, .int (f2 f x1)), (5, .int i18_5), (6, .int i18_6), (7, .int i18_7), (8, .int (Int64.toInt32 (f4 f (i18_5 + 2)))), (9, .int (pyf py (f2 f i18_5))), (10, .int i79_10), (11, .int i79_11)], [.ref m0, .int (pyf py (f2 f i18_5)), .ref m0], M_18)) rfl ?_
                    refine rg_ref (S' := (121, [(0, .ref m0), (2, .int x2), (3, .int x3), (4, .int (f2 f x1)), (5, .int i18_5), (6, .int i18_6), (7, .int i18_7), (8, .int (Int64.toInt32 (f4 f (i18_5 + 2)))), (9, .int (pyf py (f2 f i18_5))), (10, .int i79_10), (11, .int i79_11)], [.ref (q 62), .int (pyf py (f2 f i18_5)), .ref m0], M_18)) rfl hR_18 rfl rfl ?_
                    refine ml_st (S' := (123, [(0, .ref m0), (2, .int x2), (3, .int x3), (4, .int (f2 f x1)), (5, .int i18_5), (6, .int i18_6), (7, .int i18_7), (8, .int (Int64.toInt32 (f4 f (i18_5 + 2)))), (9, .int (pyf py (f2 f i18_5))), (10, .int i79_10), (11, .int i79_11)], [.int i79_11, .ref (q 62), .int (pyf py (f2 f i18_5)), .ref m0], M_18)) rfl rfl rfl ?_
                    refine ra_kn (S' := (124, [(0, .ref m0), (2, .int x2), (3, .int x3), (4, .int (f2 f x1)), (5, .int i18_5), (6, .int i18_6), (7, .int i18_7), (8, .int (Int64.toInt32 (f4 f (i18_5 + 2)))), (9, .int (pyf py (f2 f i18_5))), (10, .int i79_10), (11, .int i79_11)], [.ref (g.2.1 (15 + Int32.toNatClampNeg i79_11)), .int (pyf py (f2 f i18_5)), .ref m0], M_18)) rfl hR_18 hj0 hjl rfl ?_
                    have hY77 : SK S cN sa sl ch I_18 R_18 := (hY.mono (cIx hI_18 (by decide)) (cRx hV_18 (by decide)))
                    refine ml_call (a := [.ref m0, .int (pyf py (f2 f i18_5)), .ref (g.2.1 (15 + Int32.toNatClampNeg i79_11))]) (rest := []) rfl (hR_18.okc rfl rfl rfl) rfl rfl (rm_is hR_18 hY77 (hy9.2.2.1) (hy9.2.2.2) (by show 15 ≤ 15 + i79_11.toInt.toNat ∧ 15 + i79_11.toInt.toNat < 30; omega) (by omega)) (fun v78 M79 h80 => ?_)
                    obtain ⟨⟨u81, rfl, z82⟩, h80⟩ := h80
                    rw [h80]
                    show ml _ _ _ (127, [(0, .ref m0), (2, .int x2), (3, .int x3), (4, .int (f2 f x1)), (5, .int i18_5), (6, .int i18_6), (7, .int i18_7), (8, .int (Int64.toInt32 (f4 f (i18_5 + 2)))), (9, .int (pyf py (f2 f i18_5))), (10, .int i79_10), (11, .int i79_11)], [.int u81], M_18) _
                    refine ml_if (S1 := (134, [(0, .ref m0), (2, .int x2), (3, .int x3), (4, .int (f2 f x1)), (5, .int i18_5), (6, .int i18_6), (7, .int i18_7), (8, .int (Int64.toInt32 (f4 f (i18_5 + 2)))), (9, .int (pyf py (f2 f i18_5))), (10, .int i79_10), (11, .int i79_11)], [], M_18)) (S2 := (130, [(0, .ref m0), (2, .int x2), (3, .int x3), (4, .int (f2 f x1)), (5, .int i18_5), (6, .int i18_6), (7, .int i18_7), (8, .int (Int64.toInt32 (f4 f (i18_5 + 2)))), (9, .int (pyf py (f2 f i18_5))), (10, .int i79_10), (11, .int i79_11)], [], M_18)) rfl rfl rfl (fun c_127 => ?_) (fun c_127 => ?_)
                    · have c_127 : u81 = 0 := of_decide_eq_true c_127
                      refine ml_st (S' := (137, [(11, .int (i79_11 + 1)), (0, .ref m0), (2, .int x2), (3, .int x3), (4, .int (f2 f x1)), (5, .int i18_5), (6, .int i18_6), (7, .int i18_7), (8, .int (Int64.toInt32 (f4 f (i18_5 + 2)))), (9, .int (pyf py (f2 f i18_5))), (10, .int i79_10)], [], M_18)) rfl rfl rfl ?_
                      refine ml_st (S' := (79, [(0, .ref m0), (2, .int x2), (3, .int x3), (4, .int (f2 f x1)), (5, .int i18_5), (6, .int i18_6), (7, .int i18_7), (8, .int (Int64.toInt32 (f4 f (i18_5 + 2)))), (9, .int (pyf py (f2 f i18_5))), (10, .int i79_10), (11, .int (i79_11 + 1))], [], M_18)) rfl rfl rfl ?_
                      exact ih_79 i79_10 (i79_11 + 1) (loop_inc (Int32.not_le.mp c_86) hn_79) (⟨by rw [inc_lt (Int32.not_le.mp c_86)]; omega, hjw⟩)
                    · have c_127 : ¬ (u81 = 0) := of_decide_eq_false c_127
                      refine ml_st (S' := (132, [(0, .ref m0), (2, .int x2), (3, .int x3), (4, .int (f2 f x1)), (5, .int i18_5), (6, .int i18_6), (7, .int i18_7), (8, .int (Int64.toInt32 (f4 f (i18_5 + 2)))), (9, .int (pyf py (f2 f i18_5))), (10, .int i79_10), (11, .int i79_11)], [.int i79_11], M_18)) rfl rfl rfl ?_
                      refine ml_st (S' := (134, [(0, .ref m0), (2, .int x2), (3, .int x3), (4, .int (f2 f x1)), (5, .int i18_5), (6, .int i18_6), (7, .int i18_7), (8, .int (Int64.toInt32 (f4 f (i18_5 + 2)))), (9, .int (pyf py (f2 f i18_5))), (10, .int i79_11), (11, .int i79_11)], [], M_18)) rfl rfl rfl ?_
                      refine ml_st (S' := (137, [(11, .int (i79_11 + 1)), (0, .ref m0), (2, .int x2), (3, .int x3), (4, .int (f2 f x1)), (5, .int i18_5), (6, .int i18_6), (7, .int i18_7), (8, .int (Int64.toInt32 (f4 f (i18_5 + 2)))), (9, .int (pyf py (f2 f i18_5))), (10, .int i79_11)], [], M_18)) rfl rfl rfl ?_
                      refine ml_st (S' := (79, [(0, .ref m0), (2, .int x2), (3, .int x3), (4, .int (f2 f x1)), (5, .int i18_5), (6, .int i18_6), (7, .int i18_7), (8, .int (Int64.toInt32 (f4 f (i18_5 + 2)))), (9, .int (pyf py (f2 f i18_5))), (10, .int i79_11), (11, .int (i79_11 + 1))], [], M_18)) rfl rfl rfl ?_
                      exact ih_79 i79_11 (i79_11 + 1) (loop_inc (Int32.not_le.mp c_86) hn_79) (⟨by rw [inc_lt (Int32.not_le.mp c_86)]; omega, Or.inr ⟨hj0, hjl, Decidable.not_not.mp c_97⟩⟩)
          exact L_79 _ (-1) 0 (Nat.le_refl _) (⟨by decide, Or.inl (by decide)⟩)
        · have c_47 : ¬ ((tgf f cp pa (f2 f i18_5)) = 1) := of_decide_eq_false c_47
          refine ml_blk 3 (S' := (55, [(8, .int (Int64.toInt32 (f4 f (i18_5 + 2)))), (0, .ref m0), (2, .int x2), (3, .int x3), (4, .int (f2 f x1)), (5, .int i18_5), (6, .int i18_6), (7, .int i18_7)], [.int i18_5, .int 28, .ref m0], M_18)) rfl ?_
          refine ml_call (a := [.ref m0, .int 28, .int i18_5]) (rest := []) rfl (hR_18.okc rfl rfl rfl) rfl rfl (rm_wrong hR_18 (by omega)) (fun v83 M84 h85 => ?_)
          obtain ⟨u91, I86, R87, rfl, hR88, hI89, hV90, z92, w93⟩ := h85
          show ml _ _ _ (58, [(8, .int (Int64.toInt32 (f4 f (i18_5 + 2)))), (0, .ref m0), (2, .int x2), (3, .int x3), (4, .int (f2 f x1)), (5, .int i18_5), (6, .int i18_6), (7, .int i18_7)], [.int u91], M84) _
          refine ml_blk 2 (S' := (60, [(8, .int (Int64.toInt32 (f4 f (i18_5 + 2)))), (0, .ref m0), (2, .int x2), (3, .int x3), (4, .int (f2 f x1)), (5, .int i18_5), (6, .int i18_6), (7, .int i18_7)], [.int (-1)], M84)) rfl ?_
          exact ml_ret rfl (rfl) (⟨_, _, _, rfl, hR88, ((eqI.rf.tr hI_18 (by decide)).tr hI89 (by decide)), ((eqR.rf.tr hV_18 (by decide)).tr hV90 (by decide)), ⟨Or.inl (by decide), ((pw.rf.tr hpw18).eq hV90), hmc18.fr (fun k hk => by simp only [List.mem_cons, List.not_mem_nil, or_false] at hk; rcases hk with rfl | rfl | rfl | rfl | rfl | rfl; exact (congrFun ((hV90 37 (by decide))) _); exact (congrFun ((hV90 38 (by decide))) _); exact (congrFun ((hV90 39 (by decide))) _); exact (congrFun ((hV90 40 (by decide))) _); exact (congrFun ((hV90 41 (by decide))) _); exact (congrFun ((hV90 42 (by decide))) _)), (kn.eq hkn18 hV90 (by decide))⟩⟩)
  exact L_18 _ (x1 + 2) 0 0 _ _ _ (Nat.le_refl _) hR eqI.rf eqR.rf (⟨by decide, by show (0 : Int) ≤ _; exact f2_pos, by rw [show ((f2 f x1).toInt - (0 : Int32).toInt).toNat = (f2 f x1).toInt.toNat by have : (0 : Int32).toInt = 0 := rfl; omega]; exact hat.2.2.1, pw.rf, hmc, hkn⟩)
end
