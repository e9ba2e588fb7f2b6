/-! two texts (laid by wip/p2/c37.py) -/
set_option maxHeartbeats 1000000 in
theorem ct_sameText {g : xe_G} {M : mi_H} {p : Nat} {size : Int32} {n m : Nat} {q : Nat → Nat} {f : Nat → Nat → Int32} {cc : Int32} {x1 x2 : Int32} (hP : PL M p size n m q f cc) (hT : txt n m f cc) (hm : m < 1073741824) {d : Nat} (hd : 2 ≤ d) : mt (mT g) d 133 [.ref p, .int x1, .int x2] M (fun v M' => (∃ x, v = some (.int x) ∧ (x = 0 ∨ x = 1)) ∧ M' = M) := by
  obtain ⟨d, rfl⟩ : ∃ e, d = e + 1 := ⟨d - 1, by omega⟩
  have L44 : ∀ (n9 : Nat) (i3 : Int32), (2147483648 - i3.toInt).toNat ≤ n9 → (0 ≤ i3.toInt ∧ sp_tagOf n m f x1 = 1 ∧ sp_tagOf n m f x2 = 1 ∧ f 4 (Int32.toNatClampNeg x1) = f 4 (Int32.toNatClampNeg x2)) → ml (mT g) d (mb_133 g).2 (44, [(0, .ref p), (1, .int x1), (2, .int x2), (3, .int i3)], [], M) (fun v M' => (∃ x, v = some (.int x) ∧ (x = 0 ∨ x = 1)) ∧ M' = M) := by
    intro n9
    induction n9 with
    | zero => intro i3 hn _; exact (loop_zero hn).elim
    | succ n9 ih =>
      intro i3 hn h0
      refine ml_st (S' := (45, [(0, .ref p), (1, .int x1), (2, .int x2), (3, .int i3)], [.int i3], M)) rfl rfl rfl ?_
      refine ml_st (S' := (46, [(0, .ref p), (1, .int x1), (2, .int x2), (3, .int i3)], [.ref p, .int i3], M)) rfl rfl rfl ?_
      refine mo_get (S' := (49, [(0, .ref p), (1, .int x1), (2, .int x2), (3, .int i3)], [.ref (q 4), .int i3], M)) rfl hP.1 rfl rfl ?_
      refine ml_st (S' := (50, [(0, .ref p), (1, .int x1), (2, .int x2), (3, .int i3)], [.int x1, .ref (q 4), .int i3], M)) rfl rfl rfl ?_
      refine mo_ald (S' := (51, [(0, .ref p), (1, .int x1), (2, .int x2), (3, .int i3)], [.int ((f 4) (Int32.toNatClampNeg x1)), .int i3], M)) rfl (hP.2.1 4 (by decide) (by decide)) ((tag_in h0.2.1 (by decide)).1) rfl ?_
      refine ml_if2 (S1 := (91, [(0, .ref p), (1, .int x1), (2, .int x2), (3, .int i3)], [], M)) (S2 := (54, [(0, .ref p), (1, .int x1), (2, .int x2), (3, .int i3)], [], M)) rfl rfl rfl (fun c_51 => ?_) (fun c_51 => ?_)
      · have c_51 : ((f 4) (Int32.toNatClampNeg x1)) ≤ i3 := of_decide_eq_true c_51
        refine ml_st (S' := (92, [(0, .ref p), (1, .int x1), (2, .int x2), (3, .int i3)], [.int 1], M)) rfl rfl rfl ?_
        exact ml_ret rfl (rfl) (⟨⟨_, rfl, by first | exact Or.inl rfl | exact Or.inr rfl⟩, rfl⟩)
      · have c_51 : ¬ (((f 4) (Int32.toNatClampNeg x1)) ≤ i3) := of_decide_eq_false c_51
        refine ml_st (S' := (55, [(0, .ref p), (1, .int x1), (2, .int x2), (3, .int i3)], [.ref p], M)) rfl rfl rfl ?_
        refine mo_get (S' := (58, [(0, .ref p), (1, .int x1), (2, .int x2), (3, .int i3)], [.ref (q 6)], M)) rfl hP.1 rfl rfl ?_
        refine ml_st (S' := (59, [(0, .ref p), (1, .int x1), (2, .int x2), (3, .int i3)], [.ref p, .ref (q 6)], M)) rfl rfl rfl ?_
        refine mo_get (S' := (62, [(0, .ref p), (1, .int x1), (2, .int x2), (3, .int i3)], [.ref (q 3), .ref (q 6)], M)) rfl hP.1 rfl rfl ?_
        refine ml_st (S' := (63, [(0, .ref p), (1, .int x1), (2, .int x2), (3, .int i3)], [.int x1, .ref (q 3), .ref (q 6)], M)) rfl rfl rfl ?_
        refine mo_ald (S' := (64, [(0, .ref p), (1, .int x1), (2, .int x2), (3, .int i3)], [.int ((f 3) (Int32.toNatClampNeg x1)), .ref (q 6)], M)) rfl (hP.2.1 3 (by decide) (by decide)) ((tag_in h0.2.1 (by decide)).1) rfl ?_
        refine ml_st (S' := (65, [(0, .ref p), (1, .int x1), (2, .int x2), (3, .int i3)], [.int i3, .int ((f 3) (Int32.toNatClampNeg x1)), .ref (q 6)], M)) rfl rfl rfl ?_
        refine ml_st (S' := (66, [(0, .ref p), (1, .int x1), (2, .int x2), (3, .int i3)], [.int (((f 3) (Int32.toNatClampNeg x1)) + i3), .ref (q 6)], M)) rfl rfl rfl ?_
        refine mo_ald (S' := (67, [(0, .ref p), (1, .int x1), (2, .int x2), (3, .int i3)], [.int ((f 6) (Int32.toNatClampNeg (((f 3) (Int32.toNatClampNeg x1)) + i3)))], M)) rfl hP.2.2 ((txt_in hT hm h0.1 (by unfold sp_textLength; rw [if_neg (not_not_intro h0.2.1)]; exact (Int32.not_le.mp c_51))).2) rfl ?_
        refine ml_st (S' := (68, [(0, .ref p), (1, .int x1), (2, .int x2), (3, .int i3)], [.ref p, .int ((f 6) (Int32.toNatClampNeg (((f 3) (Int32.toNatClampNeg x1)) + i3)))], M)) rfl rfl rfl ?_
        refine mo_get (S' := (71, [(0, .ref p), (1, .int x1), (2, .int x2), (3, .int i3)], [.ref (q 6), .int ((f 6) (Int32.toNatClampNeg (((f 3) (Int32.toNatClampNeg x1)) + i3)))], M)) rfl hP.1 rfl rfl ?_
        refine ml_st (S' := (72, [(0, .ref p), (1, .int x1), (2, .int x2), (3, .int i3)], [.ref p, .ref (q 6), .int ((f 6) (Int32.toNatClampNeg (((f 3) (Int32.toNatClampNeg x1)) + i3)))], M)) rfl rfl rfl ?_
        refine mo_get (S' := (75, [(0, .ref p), (1, .int x1), (2, .int x2), (3, .int i3)], [.ref (q 3), .ref (q 6), .int ((f 6) (Int32.toNatClampNeg (((f 3) (Int32.toNatClampNeg x1)) + i3)))], M)) rfl hP.1 rfl rfl ?_
        refine ml_st (S' := (76, [(0, .ref p), (1, .int x1), (2, .int x2), (3, .int i3)], [.int x2, .ref (q 3), .ref (q 6), .int ((f 6) (Int32.toNatClampNeg (((f 3) (Int32.toNatClampNeg x1)) + i3)))], M)) rfl rfl rfl ?_
        refine mo_ald (S' := (77, [(0, .ref p), (1, .int x1), (2, .int x2), (3, .int i3)], [.int ((f 3) (Int32.toNatClampNeg x2)), .ref (q 6), .int ((f 6) (Int32.toNatClampNeg (((f 3) (Int32.toNatClampNeg x1)) + i3)))], M)) rfl (hP.2.1 3 (by decide) (by decide)) ((tag_in h0.2.2.1 (by decide)).1) rfl ?_
        refine ml_st (S' := (78, [(0, .ref p), (1, .int x1), (2, .int x2), (3, .int i3)], [.int i3, .int ((f 3) (Int32.toNatClampNeg x2)), .ref (q 6), .int ((f 6) (Int32.toNatClampNeg (((f 3) (Int32.toNatClampNeg x1)) + i3)))], M)) rfl rfl rfl ?_
        refine ml_st (S' := (79, [(0, .ref p), (1, .int x1), (2, .int x2), (3, .int i3)], [.int (((f 3) (Int32.toNatClampNeg x2)) + i3), .ref (q 6), .int ((f 6) (Int32.toNatClampNeg (((f 3) (Int32.toNatClampNeg x1)) + i3)))], M)) rfl rfl rfl ?_
        refine mo_ald (S' := (80, [(0, .ref p), (1, .int x1), (2, .int x2), (3, .int i3)], [.int ((f 6) (Int32.toNatClampNeg (((f 3) (Int32.toNatClampNeg x2)) + i3))), .int ((f 6) (Int32.toNatClampNeg (((f 3) (Int32.toNatClampNeg x1)) + i3)))], M)) rfl hP.2.2 ((txt_in hT hm h0.1 (by unfold sp_textLength; rw [if_neg (not_not_intro h0.2.2.1), ← h0.2.2.2]; exact (Int32.not_le.mp c_51))).2) rfl ?_
        refine ml_if2 (S1 := (85, [(0, .ref p), (1, .int x1), (2, .int x2), (3, .int i3)], [], M)) (S2 := (83, [(0, .ref p), (1, .int x1), (2, .int x2), (3, .int i3)], [], M)) rfl rfl rfl (fun c_80 => ?_) (fun c_80 => ?_)
        · have c_80 : ((f 6) (Int32.toNatClampNeg (((f 3) (Int32.toNatClampNeg x1)) + i3))) = ((f 6) (Int32.toNatClampNeg (((f 3) (Int32.toNatClampNeg x2)) + i3))) := of_decide_eq_true c_80
          refine ml_st (S' := (88, [(3, .int (i3 + 1)), (0, .ref p), (1, .int x1), (2, .int x2)], [], M)) rfl rfl rfl ?_
          refine ml_st (S' := (44, [(0, .ref p), (1, .int x1), (2, .int x2), (3, .int (i3 + 1))], [], M)) rfl rfl rfl ?_
          exact ih _ (loop_inc (Int32.not_le.mp c_51) hn) ⟨by rw [inc_lt (Int32.not_le.mp c_51)]; have := h0.1; omega, h0.2⟩
        · have c_80 : ¬ (((f 6) (Int32.toNatClampNeg (((f 3) (Int32.toNatClampNeg x1)) + i3))) = ((f 6) (Int32.toNatClampNeg (((f 3) (Int32.toNatClampNeg x2)) + i3)))) := of_decide_eq_false c_80
          refine ml_st (S' := (84, [(0, .ref p), (1, .int x1), (2, .int x2), (3, .int i3)], [.int 0], M)) rfl rfl rfl ?_
          exact ml_ret rfl (rfl) (⟨⟨_, rfl, by first | exact Or.inl rfl | exact Or.inr rfl⟩, rfl⟩)
  refine mt_in (b := mb_133 g) rfl rfl ?_
  show ml (mT g) d (mb_133 g).2 (0, [(0, .ref p), (1, .int x1), (2, .int x2)], [], M) _
  refine ml_st (S' := (1, [(0, .ref p), (1, .int x1), (2, .int x2)], [.int x1], M)) rfl rfl rfl ?_
  refine ml_st (S' := (2, [(0, .ref p), (1, .int x1), (2, .int x2)], [.int x2, .int x1], M)) rfl rfl rfl ?_
  refine ml_if2 (S1 := (7, [(0, .ref p), (1, .int x1), (2, .int x2)], [], M)) (S2 := (5, [(0, .ref p), (1, .int x1), (2, .int x2)], [], M)) rfl rfl rfl (fun c_2 => ?_) (fun c_2 => ?_)
  · have c_2 : ¬ x1 = x2 := of_decide_eq_true c_2
    refine ml_st (S' := (8, [(0, .ref p), (1, .int x1), (2, .int x2)], [.ref p], M)) rfl rfl rfl ?_
    refine ml_st (S' := (9, [(0, .ref p), (1, .int x1), (2, .int x2)], [.int x1, .ref p], M)) rfl rfl rfl ?_
    refine ml_call (a := [.ref p, .int x1]) (rest := []) rfl (okc_v rfl rfl rfl hP.1) rfl rfl (ct_tagOf hP (by omega)) (fun v1 M2 h3 => ?_)
    obtain ⟨rfl, h3⟩ := h3
    rw [h3]
    show ml _ _ _ (12, [(0, .ref p), (1, .int x1), (2, .int x2)], [.int (sp_tagOf n m f x1)], M) _
    refine ml_st (S' := (13, [(0, .ref p), (1, .int x1), (2, .int x2)], [.int 1, .int (sp_tagOf n m f x1)], M)) rfl rfl rfl ?_
    refine ml_if2 (S1 := (40, [], [], M)) (S2 := (16, [(0, .ref p), (1, .int x1), (2, .int x2)], [], M)) rfl rfl rfl (fun c_13 => ?_) (fun c_13 => ?_)
    · have c_13 : ¬ (sp_tagOf n m f x1) = 1 := of_decide_eq_true c_13
      refine ml_st (S' := (41, [], [.int 0], M)) rfl rfl rfl ?_
      exact ml_ret rfl (rfl) (⟨⟨_, rfl, by first | exact Or.inl rfl | exact Or.inr rfl⟩, rfl⟩)
    · have c_13 : ¬ (¬ (sp_tagOf n m f x1) = 1) := of_decide_eq_false c_13
      refine ml_st (S' := (17, [(0, .ref p), (1, .int x1), (2, .int x2)], [.ref p], M)) rfl rfl rfl ?_
      refine ml_st (S' := (18, [(0, .ref p), (1, .int x1), (2, .int x2)], [.int x2, .ref p], M)) rfl rfl rfl ?_
      refine ml_call (a := [.ref p, .int x2]) (rest := []) rfl (okc_v rfl rfl rfl hP.1) rfl rfl (ct_tagOf hP (by omega)) (fun v4 M5 h6 => ?_)
      obtain ⟨rfl, h6⟩ := h6
      rw [h6]
      show ml _ _ _ (21, [(0, .ref p), (1, .int x1), (2, .int x2)], [.int (sp_tagOf n m f x2)], M) _
      refine ml_st (S' := (22, [(0, .ref p), (1, .int x1), (2, .int x2)], [.int 1, .int (sp_tagOf n m f x2)], M)) rfl rfl rfl ?_
      refine ml_if2 (S1 := (40, [], [], M)) (S2 := (25, [(0, .ref p), (1, .int x1), (2, .int x2)], [], M)) rfl rfl rfl (fun c_22 => ?_) (fun c_22 => ?_)
      · have c_22 : ¬ (sp_tagOf n m f x2) = 1 := of_decide_eq_true c_22
        refine ml_st (S' := (41, [], [.int 0], M)) rfl rfl rfl ?_
        exact ml_ret rfl (rfl) (⟨⟨_, rfl, by first | exact Or.inl rfl | exact Or.inr rfl⟩, rfl⟩)
      · have c_22 : ¬ (¬ (sp_tagOf n m f x2) = 1) := of_decide_eq_false c_22
        refine ml_st (S' := (26, [(0, .ref p), (1, .int x1), (2, .int x2)], [.ref p], M)) rfl rfl rfl ?_
        refine mo_get (S' := (29, [(0, .ref p), (1, .int x1), (2, .int x2)], [.ref (q 4)], M)) rfl hP.1 rfl rfl ?_
        refine ml_st (S' := (30, [(0, .ref p), (1, .int x1), (2, .int x2)], [.int x1, .ref (q 4)], M)) rfl rfl rfl ?_
        refine mo_ald (S' := (31, [(0, .ref p), (1, .int x1), (2, .int x2)], [.int ((f 4) (Int32.toNatClampNeg x1))], M)) rfl (hP.2.1 4 (by decide) (by decide)) ((tag_in (Decidable.not_not.mp c_13) (by decide)).1) rfl ?_
        refine ml_st (S' := (32, [(0, .ref p), (1, .int x1), (2, .int x2)], [.ref p, .int ((f 4) (Int32.toNatClampNeg x1))], M)) rfl rfl rfl ?_
        refine mo_get (S' := (35, [(0, .ref p), (1, .int x1), (2, .int x2)], [.ref (q 4), .int ((f 4) (Int32.toNatClampNeg x1))], M)) rfl hP.1 rfl rfl ?_
        refine ml_st (S' := (36, [(0, .ref p), (1, .int x1), (2, .int x2)], [.int x2, .ref (q 4), .int ((f 4) (Int32.toNatClampNeg x1))], M)) rfl rfl rfl ?_
        refine mo_ald (S' := (37, [(0, .ref p), (1, .int x1), (2, .int x2)], [.int ((f 4) (Int32.toNatClampNeg x2)), .int ((f 4) (Int32.toNatClampNeg x1))], M)) rfl (hP.2.1 4 (by decide) (by decide)) ((tag_in (Decidable.not_not.mp c_22) (by decide)).1) rfl ?_
        refine ml_if2 (S1 := (42, [(0, .ref p), (1, .int x1), (2, .int x2)], [], M)) (S2 := (40, [], [], M)) rfl rfl rfl (fun c_37 => ?_) (fun c_37 => ?_)
        · have c_37 : ((f 4) (Int32.toNatClampNeg x1)) = ((f 4) (Int32.toNatClampNeg x2)) := of_decide_eq_true c_37
          refine ml_st (S' := (43, [(0, .ref p), (1, .int x1), (2, .int x2)], [.int 0], M)) rfl rfl rfl ?_
          refine ml_st (S' := (44, [(0, .ref p), (1, .int x1), (2, .int x2), (3, .int 0)], [], M)) rfl rfl rfl ?_
          exact L44 _ 0 (Nat.le_refl _) ⟨by decide, Decidable.not_not.mp c_13, Decidable.not_not.mp c_22, c_37⟩
        · have c_37 : ¬ (((f 4) (Int32.toNatClampNeg x1)) = ((f 4) (Int32.toNatClampNeg x2))) := of_decide_eq_false c_37
          refine ml_st (S' := (41, [], [.int 0], M)) rfl rfl rfl ?_
          exact ml_ret rfl (rfl) (⟨⟨_, rfl, by first | exact Or.inl rfl | exact Or.inr rfl⟩, rfl⟩)
  · have c_2 : ¬ (¬ x1 = x2) := of_decide_eq_false c_2
    refine ml_st (S' := (6, [(0, .ref p), (1, .int x1), (2, .int x2)], [.int 1], M)) rfl rfl rfl ?_
    exact ml_ret rfl (rfl) (⟨⟨_, rfl, by first | exact Or.inl rfl | exact Or.inr rfl⟩, rfl⟩)
