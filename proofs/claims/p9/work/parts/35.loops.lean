/-! the pool's questions with loops (laid by wip/p2/c35.py) -/
set_option maxHeartbeats 1000000 in
theorem ct_dimensionsOf {g : xe_G} {M : mi_H} {p : Nat} {size : Int32} {n m : Nat} {q : Nat → Nat} {f : Nat → Nat → Int32} {cc : Int32} {x1 : Int32} (hP : PL M p size n m q f cc) (hT : txt n m f cc) (hm : m < 1073741824) {d : Nat} (hd : 3 ≤ d) : mt (mT g) d 116 [.ref p, .int x1] M (fun v M' => (∃ x, v = some (.int x)) ∧ M' = M) := by
  obtain ⟨d, rfl⟩ : ∃ e, d = e + 1 := ⟨d - 1, by omega⟩
  have L8 : ∀ (n9 : Nat) (i2 : Int32), (2147483648 - i2.toInt).toNat ≤ n9 → 0 ≤ i2.toInt → ml (mT g) d (mb_116 g).2 (8, [(0, .ref p), (2, .int (sp_firstIndex n m f x1)), (3, .int i2)], [], M) (fun v M' => (∃ x, v = some (.int x)) ∧ M' = M) := by
    intro n9
    induction n9 with
    | zero => intro i2 hn _; exact (loop_zero hn).elim
    | succ n9 ih =>
      intro i2 hn h0
      refine ml_st (S' := (9, [(0, .ref p), (2, .int (sp_firstIndex n m f x1)), (3, .int i2)], [.int i2], M)) rfl rfl rfl ?_
      refine ml_st (S' := (10, [(0, .ref p), (2, .int (sp_firstIndex n m f x1)), (3, .int i2)], [.ref p, .int i2], M)) rfl rfl rfl ?_
      refine ml_st (S' := (11, [(0, .ref p), (2, .int (sp_firstIndex n m f x1)), (3, .int i2)], [.int (sp_firstIndex n m f x1), .ref p, .int i2], M)) rfl rfl rfl ?_
      refine ml_call (a := [.ref p, .int (sp_firstIndex n m f x1)]) (rest := [.int i2]) rfl (okc_v rfl rfl rfl hP.1) rfl rfl (ct_textLength hP (by omega)) (fun v1 M2 h3 => ?_)
      obtain ⟨rfl, h3⟩ := h3
      rw [h3]
      show ml _ _ _ (14, [(0, .ref p), (2, .int (sp_firstIndex n m f x1)), (3, .int i2)], [.int (sp_textLength n m f (sp_firstIndex n m f x1)), .int i2], M) _
      refine ml_if2 (S1 := (41, [(3, .int i2)], [], M)) (S2 := (17, [(0, .ref p), (2, .int (sp_firstIndex n m f x1)), (3, .int i2)], [], M)) rfl rfl rfl (fun c_14 => ?_) (fun c_14 => ?_)
      · have c_14 : (sp_textLength n m f (sp_firstIndex n m f x1)) ≤ i2 := of_decide_eq_true c_14
        refine ml_st (S' := (42, [(3, .int i2)], [.int i2], M)) rfl rfl rfl ?_
        exact ml_ret rfl (rfl) (⟨⟨_, rfl⟩, rfl⟩)
      · have c_14 : ¬ ((sp_textLength n m f (sp_firstIndex n m f x1)) ≤ i2) := of_decide_eq_false c_14
        refine ml_st (S' := (18, [(0, .ref p), (2, .int (sp_firstIndex n m f x1)), (3, .int i2)], [.ref p], M)) rfl rfl rfl ?_
        refine mo_get (S' := (21, [(0, .ref p), (2, .int (sp_firstIndex n m f x1)), (3, .int i2)], [.ref (q 6)], M)) rfl hP.1 rfl rfl ?_
        refine ml_st (S' := (22, [(0, .ref p), (2, .int (sp_firstIndex n m f x1)), (3, .int i2)], [.ref p, .ref (q 6)], M)) rfl rfl rfl ?_
        refine mo_get (S' := (25, [(0, .ref p), (2, .int (sp_firstIndex n m f x1)), (3, .int i2)], [.ref (q 3), .ref (q 6)], M)) rfl hP.1 rfl rfl ?_
        refine ml_st (S' := (26, [(0, .ref p), (2, .int (sp_firstIndex n m f x1)), (3, .int i2)], [.int (sp_firstIndex n m f x1), .ref (q 3), .ref (q 6)], M)) rfl rfl rfl ?_
        refine mo_ald (S' := (27, [(0, .ref p), (2, .int (sp_firstIndex n m f x1)), (3, .int i2)], [.int ((f 3) (Int32.toNatClampNeg (sp_firstIndex n m f x1))), .ref (q 6)], M)) rfl (hP.2.1 3 (by decide) (by decide)) ((txt_in hT hm h0 (Int32.not_le.mp c_14)).1) rfl ?_
        refine ml_st (S' := (28, [(0, .ref p), (2, .int (sp_firstIndex n m f x1)), (3, .int i2)], [.int i2, .int ((f 3) (Int32.toNatClampNeg (sp_firstIndex n m f x1))), .ref (q 6)], M)) rfl rfl rfl ?_
        refine ml_st (S' := (29, [(0, .ref p), (2, .int (sp_firstIndex n m f x1)), (3, .int i2)], [.int (((f 3) (Int32.toNatClampNeg (sp_firstIndex n m f x1))) + i2), .ref (q 6)], M)) rfl rfl rfl ?_
        refine mo_ald (S' := (30, [(0, .ref p), (2, .int (sp_firstIndex n m f x1)), (3, .int i2)], [.int ((f 6) (Int32.toNatClampNeg (((f 3) (Int32.toNatClampNeg (sp_firstIndex n m f x1))) + i2)))], M)) rfl hP.2.2 ((txt_in hT hm h0 (Int32.not_le.mp c_14)).2) rfl ?_
        refine ml_st (S' := (32, [(0, .ref p), (2, .int (sp_firstIndex n m f x1)), (3, .int i2)], [.int 91, .int ((f 6) (Int32.toNatClampNeg (((f 3) (Int32.toNatClampNeg (sp_firstIndex n m f x1))) + i2)))], M)) rfl rfl rfl ?_
        refine ml_if2 (S1 := (41, [(3, .int i2)], [], M)) (S2 := (35, [(0, .ref p), (2, .int (sp_firstIndex n m f x1)), (3, .int i2)], [], M)) rfl rfl rfl (fun c_32 => ?_) (fun c_32 => ?_)
        · have c_32 : ¬ ((f 6) (Int32.toNatClampNeg (((f 3) (Int32.toNatClampNeg (sp_firstIndex n m f x1))) + i2))) = 91 := of_decide_eq_true c_32
          refine ml_st (S' := (42, [(3, .int i2)], [.int i2], M)) rfl rfl rfl ?_
          exact ml_ret rfl (rfl) (⟨⟨_, rfl⟩, rfl⟩)
        · have c_32 : ¬ (¬ ((f 6) (Int32.toNatClampNeg (((f 3) (Int32.toNatClampNeg (sp_firstIndex n m f x1))) + i2))) = 91) := of_decide_eq_false c_32
          refine ml_st (S' := (38, [(3, .int (i2 + 1)), (0, .ref p), (2, .int (sp_firstIndex n m f x1))], [], M)) rfl rfl rfl ?_
          refine ml_st (S' := (8, [(0, .ref p), (2, .int (sp_firstIndex n m f x1)), (3, .int (i2 + 1))], [], M)) rfl rfl rfl ?_
          exact ih _ (loop_inc (Int32.not_le.mp c_14) hn) (by rw [inc_lt (Int32.not_le.mp c_14)]; omega)
  refine mt_in (b := mb_116 g) rfl rfl ?_
  show ml (mT g) d (mb_116 g).2 (0, [(0, .ref p), (1, .int x1)], [], M) _
  refine ml_st (S' := (1, [(0, .ref p), (1, .int x1)], [.ref p], M)) rfl rfl rfl ?_
  refine ml_st (S' := (2, [(0, .ref p), (1, .int x1)], [.int x1, .ref p], M)) rfl rfl rfl ?_
  refine ml_call (a := [.ref p, .int x1]) (rest := []) rfl (okc_v rfl rfl rfl hP.1) rfl rfl (ct_firstIndex hP (by omega)) (fun v1 M2 h3 => ?_)
  obtain ⟨rfl, h3⟩ := h3
  rw [h3]
  show ml _ _ _ (5, [(0, .ref p), (1, .int x1)], [.int (sp_firstIndex n m f x1)], M) _
  refine ml_st (S' := (6, [(2, .int (sp_firstIndex n m f x1)), (0, .ref p), (1, .int x1)], [], M)) rfl rfl rfl ?_
  refine ml_st (S' := (7, [(2, .int (sp_firstIndex n m f x1)), (0, .ref p), (1, .int x1)], [.int 0], M)) rfl rfl rfl ?_
  refine ml_st (S' := (8, [(0, .ref p), (2, .int (sp_firstIndex n m f x1)), (3, .int 0)], [], M)) rfl rfl rfl ?_
  exact L8 _ 0 (Nat.le_refl _) (by decide)
theorem vin_end {i x2 : Int32} {m : Nat} (h0 : 0 ≤ i.toInt) (h : ¬ x2 ≤ i) (h2 : x2.toInt ≤ m) : vp_in i m := by
  have := Int32.lt_iff_toInt_lt.mp (Int32.not_le.mp h)
  exact vin_iff h0 (by omega)
set_option maxHeartbeats 1000000 in
theorem ct_nameEnd {g : xe_G} {M : mi_H} {p : Nat} {size : Int32} {n m : Nat} {q : Nat → Nat} {f : Nat → Nat → Int32} {cc : Int32} {x1 x2 : Int32} (hP : PL M p size n m q f cc) (h1 : 0 ≤ x1.toInt) (h2 : x2.toInt ≤ m) {d : Nat} (hd : 1 ≤ d) : mt (mT g) d 127 [.ref p, .int x1, .int x2] M (fun v M' => (∃ x, v = some (.int x)) ∧ M' = M) := by
  obtain ⟨d, rfl⟩ : ∃ e, d = e + 1 := ⟨d - 1, by omega⟩
  have L5 : ∀ (n9 : Nat) (i3 i4 : Int32), (2147483648 - i4.toInt).toNat ≤ n9 → 0 ≤ i4.toInt → ml (mT g) d (mb_127 g).2 (5, [(0, .ref p), (2, .int x2), (3, .int i3), (4, .int i4)], [], M) (fun v M' => (∃ x, v = some (.int x)) ∧ M' = M) := by
    intro n9
    induction n9 with
    | zero => intro i3 i4 hn _; exact (loop_zero hn).elim
    | succ n9 ih =>
      intro i3 i4 hn h0
      refine ml_st (S' := (7, [(0, .ref p), (2, .int x2), (3, .int i3), (4, .int i4)], [.int i4], M)) rfl rfl rfl ?_
      refine ml_st (S' := (8, [(0, .ref p), (2, .int x2), (3, .int i3), (4, .int i4)], [.int x2, .int i4], M)) rfl rfl rfl ?_
      refine ml_if2 (S1 := (87, [(0, .ref p), (2, .int x2), (3, .int i3), (4, .int i4)], [], M)) (S2 := (11, [(0, .ref p), (2, .int x2), (3, .int i3), (4, .int i4)], [], M)) rfl rfl rfl (fun c_8 => ?_) (fun c_8 => ?_)
      · have c_8 : x2 ≤ i4 := of_decide_eq_true c_8
        refine ml_st (S' := (88, [(0, .ref p), (2, .int x2), (3, .int i3), (4, .int i4)], [.int x2], M)) rfl rfl rfl ?_
        refine ml_st (S' := (89, [(0, .ref p), (2, .int x2), (3, .int i3), (4, .int i4)], [.int i3, .int x2], M)) rfl rfl rfl ?_
        refine ml_if2 (S1 := (96, [(0, .ref p), (2, .int x2), (3, .int i3), (4, .int i4)], [], M)) (S2 := (92, [(0, .ref p), (2, .int x2), (3, .int i3), (4, .int i4)], [], M)) rfl rfl rfl (fun c_89 => ?_) (fun c_89 => ?_)
        · have c_89 : x2 ≤ i3 := of_decide_eq_true c_89
          refine ml_st (S' := (97, [], [.int (-1)], M)) rfl rfl rfl ?_
          exact ml_ret rfl (rfl) (⟨⟨_, rfl⟩, rfl⟩)
        · have c_89 : ¬ (x2 ≤ i3) := of_decide_eq_false c_89
          refine ml_st (S' := (93, [(0, .ref p), (2, .int x2), (3, .int i3), (4, .int i4)], [.int x2], M)) rfl rfl rfl ?_
          refine ml_st (S' := (97, [], [.int x2], M)) rfl rfl rfl ?_
          exact ml_ret rfl (rfl) (⟨⟨_, rfl⟩, rfl⟩)
      · have c_8 : ¬ (x2 ≤ i4) := of_decide_eq_false c_8
        refine ml_st (S' := (12, [(0, .ref p), (2, .int x2), (3, .int i3), (4, .int i4)], [.ref p], M)) rfl rfl rfl ?_
        refine mo_get (S' := (15, [(0, .ref p), (2, .int x2), (3, .int i3), (4, .int i4)], [.ref (q 6)], M)) rfl hP.1 rfl rfl ?_
        refine ml_st (S' := (17, [(0, .ref p), (2, .int x2), (3, .int i3), (4, .int i4)], [.int i4, .ref (q 6)], M)) rfl rfl rfl ?_
        refine mo_ald (S' := (18, [(0, .ref p), (2, .int x2), (3, .int i3), (4, .int i4)], [.int ((f 6) (Int32.toNatClampNeg i4))], M)) rfl hP.2.2 (vin_end h0 c_8 h2) rfl ?_
        refine ml_st (S' := (20, [(5, .int ((f 6) (Int32.toNatClampNeg i4))), (0, .ref p), (2, .int x2), (3, .int i3), (4, .int i4)], [], M)) rfl rfl rfl ?_
        refine ml_st (S' := (22, [(5, .int ((f 6) (Int32.toNatClampNeg i4))), (0, .ref p), (2, .int x2), (3, .int i3), (4, .int i4)], [.int ((f 6) (Int32.toNatClampNeg i4))], M)) rfl rfl rfl ?_
        refine ml_st (S' := (24, [(5, .int ((f 6) (Int32.toNatClampNeg i4))), (0, .ref p), (2, .int x2), (3, .int i3), (4, .int i4)], [.int 59, .int ((f 6) (Int32.toNatClampNeg i4))], M)) rfl rfl rfl ?_
        refine ml_if2 (S1 := (40, [(5, .int ((f 6) (Int32.toNatClampNeg i4))), (0, .ref p), (2, .int x2), (3, .int i3), (4, .int i4)], [], M)) (S2 := (27, [(5, .int ((f 6) (Int32.toNatClampNeg i4))), (0, .ref p), (2, .int x2), (3, .int i3), (4, .int i4)], [], M)) rfl rfl rfl (fun c_24 => ?_) (fun c_24 => ?_)
        · have c_24 : ¬ ((f 6) (Int32.toNatClampNeg i4)) = 59 := of_decide_eq_true c_24
          refine ml_st (S' := (42, [(5, .int ((f 6) (Int32.toNatClampNeg i4))), (0, .ref p), (2, .int x2), (3, .int i3), (4, .int i4)], [.int ((f 6) (Int32.toNatClampNeg i4))], M)) rfl rfl rfl ?_
          refine ml_st (S' := (44, [(5, .int ((f 6) (Int32.toNatClampNeg i4))), (0, .ref p), (2, .int x2), (3, .int i3), (4, .int i4)], [.int 46, .int ((f 6) (Int32.toNatClampNeg i4))], M)) rfl rfl rfl ?_
          refine ml_if2 (S1 := (67, [], [], M)) (S2 := (47, [(5, .int ((f 6) (Int32.toNatClampNeg i4))), (0, .ref p), (2, .int x2), (3, .int i3), (4, .int i4)], [], M)) rfl rfl rfl (fun c_44 => ?_) (fun c_44 => ?_)
          · have c_44 : ((f 6) (Int32.toNatClampNeg i4)) = 46 := of_decide_eq_true c_44
            refine ml_st (S' := (68, [], [.int (-1)], M)) rfl rfl rfl ?_
            exact ml_ret rfl (rfl) (⟨⟨_, rfl⟩, rfl⟩)
          · have c_44 : ¬ (((f 6) (Int32.toNatClampNeg i4)) = 46) := of_decide_eq_false c_44
            refine ml_st (S' := (49, [(5, .int ((f 6) (Int32.toNatClampNeg i4))), (0, .ref p), (2, .int x2), (3, .int i3), (4, .int i4)], [.int ((f 6) (Int32.toNatClampNeg i4))], M)) rfl rfl rfl ?_
            refine ml_st (S' := (51, [(5, .int ((f 6) (Int32.toNatClampNeg i4))), (0, .ref p), (2, .int x2), (3, .int i3), (4, .int i4)], [.int 91, .int ((f 6) (Int32.toNatClampNeg i4))], M)) rfl rfl rfl ?_
            refine ml_if2 (S1 := (67, [], [], M)) (S2 := (54, [(5, .int ((f 6) (Int32.toNatClampNeg i4))), (0, .ref p), (2, .int x2), (3, .int i3), (4, .int i4)], [], M)) rfl rfl rfl (fun c_51 => ?_) (fun c_51 => ?_)
            · have c_51 : ((f 6) (Int32.toNatClampNeg i4)) = 91 := of_decide_eq_true c_51
              refine ml_st (S' := (68, [], [.int (-1)], M)) rfl rfl rfl ?_
              exact ml_ret rfl (rfl) (⟨⟨_, rfl⟩, rfl⟩)
            · have c_51 : ¬ (((f 6) (Int32.toNatClampNeg i4)) = 91) := of_decide_eq_false c_51
              refine ml_st (S' := (56, [(5, .int ((f 6) (Int32.toNatClampNeg i4))), (0, .ref p), (2, .int x2), (3, .int i3), (4, .int i4)], [.int ((f 6) (Int32.toNatClampNeg i4))], M)) rfl rfl rfl ?_
              refine ml_st (S' := (58, [(5, .int ((f 6) (Int32.toNatClampNeg i4))), (0, .ref p), (2, .int x2), (3, .int i3), (4, .int i4)], [.int 47, .int ((f 6) (Int32.toNatClampNeg i4))], M)) rfl rfl rfl ?_
              refine ml_if2 (S1 := (69, [(0, .ref p), (2, .int x2), (3, .int i3), (4, .int i4), (5, .int ((f 6) (Int32.toNatClampNeg i4)))], [], M)) (S2 := (61, [(5, .int ((f 6) (Int32.toNatClampNeg i4))), (0, .ref p), (2, .int x2), (3, .int i3), (4, .int i4)], [], M)) rfl rfl rfl (fun c_58 => ?_) (fun c_58 => ?_)
              · have c_58 : ¬ ((f 6) (Int32.toNatClampNeg i4)) = 47 := of_decide_eq_true c_58
                refine ml_st (S' := (71, [(0, .ref p), (2, .int x2), (3, .int i3), (4, .int i4), (5, .int ((f 6) (Int32.toNatClampNeg i4)))], [.int ((f 6) (Int32.toNatClampNeg i4))], M)) rfl rfl rfl ?_
                refine ml_st (S' := (73, [(0, .ref p), (2, .int x2), (3, .int i3), (4, .int i4), (5, .int ((f 6) (Int32.toNatClampNeg i4)))], [.int 47, .int ((f 6) (Int32.toNatClampNeg i4))], M)) rfl rfl rfl ?_
                refine ml_if2 (S1 := (81, [(0, .ref p), (2, .int x2), (3, .int i3), (4, .int i4)], [], M)) (S2 := (76, [(0, .ref p), (2, .int x2), (3, .int i3), (4, .int i4), (5, .int ((f 6) (Int32.toNatClampNeg i4)))], [], M)) rfl rfl rfl (fun c_73 => ?_) (fun c_73 => ?_)
                · have c_73 : ¬ ((f 6) (Int32.toNatClampNeg i4)) = 47 := of_decide_eq_true c_73
                  refine ml_st (S' := (84, [(4, .int (i4 + 1)), (0, .ref p), (2, .int x2), (3, .int i3)], [], M)) rfl rfl rfl ?_
                  refine ml_st (S' := (5, [(0, .ref p), (2, .int x2), (3, .int i3), (4, .int (i4 + 1))], [], M)) rfl rfl rfl ?_
                  exact ih _ _ (loop_inc (Int32.not_le.mp c_8) hn) (by rw [inc_lt (Int32.not_le.mp c_8)]; omega)
                · have c_73 : ¬ (¬ ((f 6) (Int32.toNatClampNeg i4)) = 47) := of_decide_eq_false c_73
                  refine ml_st (S' := (78, [(0, .ref p), (2, .int x2), (3, .int i3), (4, .int i4), (5, .int ((f 6) (Int32.toNatClampNeg i4)))], [.int i4], M)) rfl rfl rfl ?_
                  refine ml_st (S' := (79, [(0, .ref p), (2, .int x2), (3, .int i3), (4, .int i4), (5, .int ((f 6) (Int32.toNatClampNeg i4)))], [.int 1, .int i4], M)) rfl rfl rfl ?_
                  refine ml_st (S' := (80, [(0, .ref p), (2, .int x2), (3, .int i3), (4, .int i4), (5, .int ((f 6) (Int32.toNatClampNeg i4)))], [.int (i4 + 1)], M)) rfl rfl rfl ?_
                  refine ml_st (S' := (81, [(0, .ref p), (2, .int x2), (3, .int (i4 + 1)), (4, .int i4)], [], M)) rfl rfl rfl ?_
                  refine ml_st (S' := (84, [(4, .int (i4 + 1)), (0, .ref p), (2, .int x2), (3, .int (i4 + 1))], [], M)) rfl rfl rfl ?_
                  refine ml_st (S' := (5, [(0, .ref p), (2, .int x2), (3, .int (i4 + 1)), (4, .int (i4 + 1))], [], M)) rfl rfl rfl ?_
                  exact ih _ _ (loop_inc (Int32.not_le.mp c_8) hn) (by rw [inc_lt (Int32.not_le.mp c_8)]; omega)
              · have c_58 : ¬ (¬ ((f 6) (Int32.toNatClampNeg i4)) = 47) := of_decide_eq_false c_58
                refine ml_st (S' := (63, [(5, .int ((f 6) (Int32.toNatClampNeg i4))), (0, .ref p), (2, .int x2), (3, .int i3), (4, .int i4)], [.int i4], M)) rfl rfl rfl ?_
                refine ml_st (S' := (64, [(5, .int ((f 6) (Int32.toNatClampNeg i4))), (0, .ref p), (2, .int x2), (3, .int i3), (4, .int i4)], [.int i3, .int i4], M)) rfl rfl rfl ?_
                refine ml_if2 (S1 := (69, [(0, .ref p), (2, .int x2), (3, .int i3), (4, .int i4), (5, .int ((f 6) (Int32.toNatClampNeg i4)))], [], M)) (S2 := (67, [], [], M)) rfl rfl rfl (fun c_64 => ?_) (fun c_64 => ?_)
                · have c_64 : ¬ i4 = i3 := of_decide_eq_true c_64
                  refine ml_st (S' := (71, [(0, .ref p), (2, .int x2), (3, .int i3), (4, .int i4), (5, .int ((f 6) (Int32.toNatClampNeg i4)))], [.int ((f 6) (Int32.toNatClampNeg i4))], M)) rfl rfl rfl ?_
                  refine ml_st (S' := (73, [(0, .ref p), (2, .int x2), (3, .int i3), (4, .int i4), (5, .int ((f 6) (Int32.toNatClampNeg i4)))], [.int 47, .int ((f 6) (Int32.toNatClampNeg i4))], M)) rfl rfl rfl ?_
                  refine ml_if2 (S1 := (81, [(0, .ref p), (2, .int x2), (3, .int i3), (4, .int i4)], [], M)) (S2 := (76, [(0, .ref p), (2, .int x2), (3, .int i3), (4, .int i4), (5, .int ((f 6) (Int32.toNatClampNeg i4)))], [], M)) rfl rfl rfl (fun c_73 => ?_) (fun c_73 => ?_)
                  · have c_73 : ¬ ((f 6) (Int32.toNatClampNeg i4)) = 47 := of_decide_eq_true c_73
                    refine ml_st (S' := (84, [(4, .int (i4 + 1)), (0, .ref p), (2, .int x2), (3, .int i3)], [], M)) rfl rfl rfl ?_
                    refine ml_st (S' := (5, [(0, .ref p), (2, .int x2), (3, .int i3), (4, .int (i4 + 1))], [], M)) rfl rfl rfl ?_
                    exact ih _ _ (loop_inc (Int32.not_le.mp c_8) hn) (by rw [inc_lt (Int32.not_le.mp c_8)]; omega)
                  · have c_73 : ¬ (¬ ((f 6) (Int32.toNatClampNeg i4)) = 47) := of_decide_eq_false c_73
                    refine ml_st (S' := (78, [(0, .ref p), (2, .int x2), (3, .int i3), (4, .int i4), (5, .int ((f 6) (Int32.toNatClampNeg i4)))], [.int i4], M)) rfl rfl rfl ?_
                    refine ml_st (S' := (79, [(0, .ref p), (2, .int x2), (3, .int i3), (4, .int i4), (5, .int ((f 6) (Int32.toNatClampNeg i4)))], [.int 1, .int i4], M)) rfl rfl rfl ?_
                    refine ml_st (S' := (80, [(0, .ref p), (2, .int x2), (3, .int i3), (4, .int i4), (5, .int ((f 6) (Int32.toNatClampNeg i4)))], [.int (i4 + 1)], M)) rfl rfl rfl ?_
                    refine ml_st (S' := (81, [(0, .ref p), (2, .int x2), (3, .int (i4 + 1)), (4, .int i4)], [], M)) rfl rfl rfl ?_
                    refine ml_st (S' := (84, [(4, .int (i4 + 1)), (0, .ref p), (2, .int x2), (3, .int (i4 + 1))], [], M)) rfl rfl rfl ?_
                    refine ml_st (S' := (5, [(0, .ref p), (2, .int x2), (3, .int (i4 + 1)), (4, .int (i4 + 1))], [], M)) rfl rfl rfl ?_
                    exact ih _ _ (loop_inc (Int32.not_le.mp c_8) hn) (by rw [inc_lt (Int32.not_le.mp c_8)]; omega)
                · have c_64 : ¬ (¬ i4 = i3) := of_decide_eq_false c_64
                  refine ml_st (S' := (68, [], [.int (-1)], M)) rfl rfl rfl ?_
                  exact ml_ret rfl (rfl) (⟨⟨_, rfl⟩, rfl⟩)
        · have c_24 : ¬ (¬ ((f 6) (Int32.toNatClampNeg i4)) = 59) := of_decide_eq_false c_24
          refine ml_st (S' := (29, [(5, .int ((f 6) (Int32.toNatClampNeg i4))), (0, .ref p), (2, .int x2), (3, .int i3), (4, .int i4)], [.int i4], M)) rfl rfl rfl ?_
          refine ml_st (S' := (30, [(5, .int ((f 6) (Int32.toNatClampNeg i4))), (0, .ref p), (2, .int x2), (3, .int i3), (4, .int i4)], [.int i3, .int i4], M)) rfl rfl rfl ?_
          refine ml_if2 (S1 := (38, [(5, .int ((f 6) (Int32.toNatClampNeg i4))), (0, .ref p), (2, .int x2), (3, .int i3), (4, .int i4)], [], M)) (S2 := (33, [(5, .int ((f 6) (Int32.toNatClampNeg i4))), (0, .ref p), (2, .int x2), (3, .int i3), (4, .int i4)], [], M)) rfl rfl rfl (fun c_30 => ?_) (fun c_30 => ?_)
          · have c_30 : i4 ≤ i3 := of_decide_eq_true c_30
            refine ml_st (S' := (39, [], [.int (-1)], M)) rfl rfl rfl ?_
            exact ml_ret rfl (rfl) (⟨⟨_, rfl⟩, rfl⟩)
          · have c_30 : ¬ (i4 ≤ i3) := of_decide_eq_false c_30
            refine ml_st (S' := (35, [(5, .int ((f 6) (Int32.toNatClampNeg i4))), (0, .ref p), (2, .int x2), (3, .int i3), (4, .int i4)], [.int i4], M)) rfl rfl rfl ?_
            refine ml_st (S' := (39, [], [.int i4], M)) rfl rfl rfl ?_
            exact ml_ret rfl (rfl) (⟨⟨_, rfl⟩, rfl⟩)
  refine mt_in (b := mb_127 g) rfl rfl ?_
  show ml (mT g) d (mb_127 g).2 (0, [(0, .ref p), (1, .int x1), (2, .int x2)], [], M) _
  refine ml_st (S' := (1, [(0, .ref p), (1, .int x1), (2, .int x2)], [.int x1], M)) rfl rfl rfl ?_
  refine ml_st (S' := (2, [(3, .int x1), (0, .ref p), (1, .int x1), (2, .int x2)], [], M)) rfl rfl rfl ?_
  refine ml_st (S' := (3, [(3, .int x1), (0, .ref p), (1, .int x1), (2, .int x2)], [.int x1], M)) rfl rfl rfl ?_
  refine ml_st (S' := (5, [(0, .ref p), (2, .int x2), (3, .int x1), (4, .int x1)], [], M)) rfl rfl rfl ?_
  exact L5 _ _ _ (Nat.le_refl _) h1
