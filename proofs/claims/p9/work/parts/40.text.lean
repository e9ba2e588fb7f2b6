/-! a text and a literal (laid by wip/p2/c40.py) -/
set_option maxHeartbeats 1000000 in
theorem ct_textIs {g : xe_G} {M : mi_H} {p lt lk : Nat} {fl : Nat → Option Value} {size : Int32} {n m : Nat} {q : Nat → Nat} {f : Nat → Nat → Int32} {cc : Int32} {x1 : Int32} (hP : PL M p size n m q f cc) (hT : txt n m f cc) (hm : m < 1073741824) (hL : M.1 lt = some (.inr (100 + lk, fl))) (hk : lk < 30) {d : Nat} (hd : 2 ≤ d) : mt (mT g) d 140 [.ref p, .int x1, .ref lt] M (fun v M' => (∃ x, v = some (.int x) ∧ (x = 0 ∨ x = 1)) ∧ M' = M) := by
  obtain ⟨d, rfl⟩ : ∃ e, d = e + 1 := ⟨d - 1, by omega⟩
  have L26 : ∀ (n9 : Nat) (i3 : Int32), (2147483648 - i3.toInt).toNat ≤ n9 → (0 ≤ i3.toInt ∧ sp_tagOf n m f x1 = 1 ∧ f 4 (Int32.toNatClampNeg x1) = (nI (xe_lt lk).2.2.2.length)) → ml (mT g) d (mb_140 g).2 (26, [(0, .ref p), (1, .int x1), (2, .ref lt), (3, .int i3)], [], M) (fun v M' => (∃ x, v = some (.int x) ∧ (x = 0 ∨ x = 1)) ∧ M' = M) := by
    intro n9
    induction n9 with
    | zero => intro i3 hn _; exact (loop_zero hn).elim
    | succ n9 ih =>
      intro i3 hn h0
      refine ml_st (S' := (27, [(0, .ref p), (1, .int x1), (2, .ref lt), (3, .int i3)], [.int i3], M)) rfl rfl rfl ?_
      refine ml_st (S' := (28, [(0, .ref p), (1, .int x1), (2, .ref lt), (3, .int i3)], [.ref lt, .int i3], M)) rfl rfl rfl ?_
      refine ml_slen (S' := (31, [(0, .ref p), (1, .int x1), (2, .ref lt), (3, .int i3)], [.int (nI (xe_lt lk).2.2.2.length), .int i3], M)) rfl hL hk rfl rfl ?_
      refine ml_if2 (S1 := (63, [(0, .ref p), (1, .int x1), (2, .ref lt), (3, .int i3)], [], M)) (S2 := (34, [(0, .ref p), (1, .int x1), (2, .ref lt), (3, .int i3)], [], M)) rfl rfl rfl (fun c_31 => ?_) (fun c_31 => ?_)
      · have c_31 : (nI (xe_lt lk).2.2.2.length) ≤ i3 := of_decide_eq_true c_31
        refine ml_st (S' := (64, [(0, .ref p), (1, .int x1), (2, .ref lt), (3, .int i3)], [.int 1], M)) rfl rfl rfl ?_
        exact ml_ret rfl (rfl) (⟨⟨_, rfl, by first | exact Or.inl rfl | exact Or.inr rfl⟩, rfl⟩)
      · have c_31 : ¬ ((nI (xe_lt lk).2.2.2.length) ≤ i3) := of_decide_eq_false c_31
        refine ml_st (S' := (35, [(0, .ref p), (1, .int x1), (2, .ref lt), (3, .int i3)], [.ref p], M)) rfl rfl rfl ?_
        refine mo_get (S' := (38, [(0, .ref p), (1, .int x1), (2, .ref lt), (3, .int i3)], [.ref (q 6)], M)) rfl hP.1 rfl rfl ?_
        refine ml_st (S' := (39, [(0, .ref p), (1, .int x1), (2, .ref lt), (3, .int i3)], [.ref p, .ref (q 6)], M)) rfl rfl rfl ?_
        refine mo_get (S' := (42, [(0, .ref p), (1, .int x1), (2, .ref lt), (3, .int i3)], [.ref (q 3), .ref (q 6)], M)) rfl hP.1 rfl rfl ?_
        refine ml_st (S' := (43, [(0, .ref p), (1, .int x1), (2, .ref lt), (3, .int i3)], [.int x1, .ref (q 3), .ref (q 6)], M)) rfl rfl rfl ?_
        refine mo_ald (S' := (44, [(0, .ref p), (1, .int x1), (2, .ref lt), (3, .int i3)], [.int ((f 3) (Int32.toNatClampNeg x1)), .ref (q 6)], M)) rfl (hP.2.1 3 (by decide) (by decide)) ((tag_in h0.2.1 (by decide)).1) rfl ?_
        refine ml_st (S' := (45, [(0, .ref p), (1, .int x1), (2, .ref lt), (3, .int i3)], [.int i3, .int ((f 3) (Int32.toNatClampNeg x1)), .ref (q 6)], M)) rfl rfl rfl ?_
        refine ml_st (S' := (46, [(0, .ref p), (1, .int x1), (2, .ref lt), (3, .int i3)], [.int (((f 3) (Int32.toNatClampNeg x1)) + i3), .ref (q 6)], M)) rfl rfl rfl ?_
        refine mo_ald (S' := (47, [(0, .ref p), (1, .int x1), (2, .ref lt), (3, .int i3)], [.int ((f 6) (Int32.toNatClampNeg (((f 3) (Int32.toNatClampNeg x1)) + i3)))], M)) rfl hP.2.2 ((txt_in hT hm h0.1 (by unfold sp_textLength; rw [if_neg (not_not_intro h0.2.1), h0.2.2]; exact (Int32.not_le.mp c_31))).2) rfl ?_
        refine ml_st (S' := (48, [(0, .ref p), (1, .int x1), (2, .ref lt), (3, .int i3)], [.ref lt, .int ((f 6) (Int32.toNatClampNeg (((f 3) (Int32.toNatClampNeg x1)) + i3)))], M)) rfl rfl rfl ?_
        refine ml_st (S' := (49, [(0, .ref p), (1, .int x1), (2, .ref lt), (3, .int i3)], [.int i3, .ref lt, .int ((f 6) (Int32.toNatClampNeg (((f 3) (Int32.toNatClampNeg x1)) + i3)))], M)) rfl rfl rfl ?_
        refine ml_scat (S' := (52, [(0, .ref p), (1, .int x1), (2, .ref lt), (3, .int i3)], [.int (xe_ch lk (Int32.toNatClampNeg i3)), .int ((f 6) (Int32.toNatClampNeg (((f 3) (Int32.toNatClampNeg x1)) + i3)))], M)) rfl hL hk rfl (nlt0 h0.1) (vin_nat (vin_nI h0.1 c_31)) rfl ?_
        refine ml_if2 (S1 := (57, [(0, .ref p), (1, .int x1), (2, .ref lt), (3, .int i3)], [], M)) (S2 := (55, [(0, .ref p), (1, .int x1), (2, .ref lt), (3, .int i3)], [], M)) rfl rfl rfl (fun c_52 => ?_) (fun c_52 => ?_)
        · have c_52 : ((f 6) (Int32.toNatClampNeg (((f 3) (Int32.toNatClampNeg x1)) + i3))) = (xe_ch lk (Int32.toNatClampNeg i3)) := of_decide_eq_true c_52
          refine ml_st (S' := (60, [(3, .int (i3 + 1)), (0, .ref p), (1, .int x1), (2, .ref lt)], [], M)) rfl rfl rfl ?_
          refine ml_st (S' := (26, [(0, .ref p), (1, .int x1), (2, .ref lt), (3, .int (i3 + 1))], [], M)) rfl rfl rfl ?_
          exact ih _ (loop_inc (Int32.not_le.mp c_31) hn) ⟨by rw [inc_lt (Int32.not_le.mp c_31)]; have := h0.1; omega, h0.2⟩
        · have c_52 : ¬ (((f 6) (Int32.toNatClampNeg (((f 3) (Int32.toNatClampNeg x1)) + i3))) = (xe_ch lk (Int32.toNatClampNeg i3))) := of_decide_eq_false c_52
          refine ml_st (S' := (56, [(0, .ref p), (1, .int x1), (2, .ref lt), (3, .int i3)], [.int 0], M)) rfl rfl rfl ?_
          exact ml_ret rfl (rfl) (⟨⟨_, rfl, by first | exact Or.inl rfl | exact Or.inr rfl⟩, rfl⟩)
  refine mt_in (b := mb_140 g) rfl rfl ?_
  show ml (mT g) d (mb_140 g).2 (0, [(0, .ref p), (1, .int x1), (2, .ref lt)], [], M) _
  refine ml_st (S' := (1, [(0, .ref p), (1, .int x1), (2, .ref lt)], [.ref p], M)) rfl rfl rfl ?_
  refine ml_st (S' := (2, [(0, .ref p), (1, .int x1), (2, .ref lt)], [.int x1, .ref p], M)) rfl rfl rfl ?_
  refine ml_call (a := [.ref p, .int x1]) (rest := []) rfl (okc_v rfl rfl rfl hP.1) rfl rfl (ct_tagOf hP (by omega)) (fun v1 M2 h3 => ?_)
  obtain ⟨rfl, h3⟩ := h3
  rw [h3]
  show ml _ _ _ (5, [(0, .ref p), (1, .int x1), (2, .ref lt)], [.int (sp_tagOf n m f x1)], M) _
  refine ml_st (S' := (6, [(0, .ref p), (1, .int x1), (2, .ref lt)], [.int 1, .int (sp_tagOf n m f x1)], M)) rfl rfl rfl ?_
  refine ml_if2 (S1 := (22, [], [], M)) (S2 := (9, [(0, .ref p), (1, .int x1), (2, .ref lt)], [], M)) rfl rfl rfl (fun c_6 => ?_) (fun c_6 => ?_)
  · have c_6 : ¬ (sp_tagOf n m f x1) = 1 := of_decide_eq_true c_6
    refine ml_st (S' := (23, [], [.int 0], M)) rfl rfl rfl ?_
    exact ml_ret rfl (rfl) (⟨⟨_, rfl, by first | exact Or.inl rfl | exact Or.inr rfl⟩, rfl⟩)
  · have c_6 : ¬ (¬ (sp_tagOf n m f x1) = 1) := of_decide_eq_false c_6
    refine ml_st (S' := (10, [(0, .ref p), (1, .int x1), (2, .ref lt)], [.ref p], M)) rfl rfl rfl ?_
    refine mo_get (S' := (13, [(0, .ref p), (1, .int x1), (2, .ref lt)], [.ref (q 4)], M)) rfl hP.1 rfl rfl ?_
    refine ml_st (S' := (14, [(0, .ref p), (1, .int x1), (2, .ref lt)], [.int x1, .ref (q 4)], M)) rfl rfl rfl ?_
    refine mo_ald (S' := (15, [(0, .ref p), (1, .int x1), (2, .ref lt)], [.int ((f 4) (Int32.toNatClampNeg x1))], M)) rfl (hP.2.1 4 (by decide) (by decide)) ((tag_in (Decidable.not_not.mp c_6) (by decide)).1) rfl ?_
    refine ml_st (S' := (16, [(0, .ref p), (1, .int x1), (2, .ref lt)], [.ref lt, .int ((f 4) (Int32.toNatClampNeg x1))], M)) rfl rfl rfl ?_
    refine ml_slen (S' := (19, [(0, .ref p), (1, .int x1), (2, .ref lt)], [.int (nI (xe_lt lk).2.2.2.length), .int ((f 4) (Int32.toNatClampNeg x1))], M)) rfl hL hk rfl rfl ?_
    refine ml_if2 (S1 := (24, [(0, .ref p), (1, .int x1), (2, .ref lt)], [], M)) (S2 := (22, [], [], M)) rfl rfl rfl (fun c_19 => ?_) (fun c_19 => ?_)
    · have c_19 : ((f 4) (Int32.toNatClampNeg x1)) = (nI (xe_lt lk).2.2.2.length) := of_decide_eq_true c_19
      refine ml_st (S' := (25, [(0, .ref p), (1, .int x1), (2, .ref lt)], [.int 0], M)) rfl rfl rfl ?_
      refine ml_st (S' := (26, [(0, .ref p), (1, .int x1), (2, .ref lt), (3, .int 0)], [], M)) rfl rfl rfl ?_
      exact L26 _ 0 (Nat.le_refl _) ⟨by decide, Decidable.not_not.mp c_6, c_19⟩
    · have c_19 : ¬ (((f 4) (Int32.toNatClampNeg x1)) = (nI (xe_lt lk).2.2.2.length)) := of_decide_eq_false c_19
      refine ml_st (S' := (23, [], [.int 0], M)) rfl rfl rfl ?_
      exact ml_ret rfl (rfl) (⟨⟨_, rfl, by first | exact Or.inl rfl | exact Or.inr rfl⟩, rfl⟩)
