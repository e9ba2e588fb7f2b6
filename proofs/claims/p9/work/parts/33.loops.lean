/-! questions of the pool that count through a text (laid by wip/p2/c33.py) -/
theorem inc_lt {i j : Int32} (h : i < j) : (i + 1).toInt = i.toInt + 1 := by
  have h1 := Int32.lt_iff_toInt_lt.mp h
  have h2 := Int32.toInt_lt j
  have h3 := Int32.le_toInt i
  rw [Int32.toInt_add]
  have : (1 : Int32).toInt = 1 := rfl
  rw [this]
  apply Int.bmod_eq_of_le <;> omega
theorem loop_inc {i j : Int32} {n : Nat} (h : i < j) (hn : (2147483648 - i.toInt).toNat ≤ n + 1) : (2147483648 - (i + 1).toInt).toNat ≤ n := by
  rw [inc_lt h]
  omega
theorem loop_zero {i : Int32} (hn : (2147483648 - i.toInt).toNat ≤ 0) : False := by
  have := Int32.toInt_lt i
  omega
theorem txt_in {n m : Nat} {f : Nat → Nat → Int32} {cc k i : Int32} (hT : txt n m f cc) (hm : m < 1073741824) (h0 : 0 ≤ i.toInt) (h : i < sp_textLength n m f k) : vp_in k n ∧ vp_in (f 3 k.toNatClampNeg + i) m := by
  have h1 := Int32.lt_iff_toInt_lt.mp h
  unfold sp_textLength at h1
  split at h1
  · have : (0 : Int32).toInt = 0 := rfl
    omega
  · rename_i ht
    obtain ⟨g1, g2⟩ := tag_in (Decidable.not_not.mp ht) (by decide)
    have hk : k.toNatClampNeg < n := Nat.not_le.mp fun q => g1 (Or.inr q)
    obtain ⟨a1, a2, a3⟩ := hT.2.2 _ hk g2
    have a4 := hT.2.1
    have e5 : (f 3 k.toNatClampNeg + i).toInt = (f 3 k.toNatClampNeg).toInt + i.toInt := by
      rw [Int32.toInt_add]
      apply Int.bmod_eq_of_le <;> omega
    exact ⟨g1, vin_iff (by rw [e5]; omega) (by rw [e5]; omega)⟩

set_option maxHeartbeats 1000000 in
theorem ct_hasAngle {g : xe_G} {M : mi_H} {p : Nat} {size : Int32} {n m : Nat} {q : Nat → Nat} {f : Nat → Nat → Int32} {cc : Int32} {x1 : Int32} (hP : PL M p size n m q f cc) (hT : txt n m f cc) (hm : m < 1073741824) {d : Nat} (hd : 3 ≤ d) : mt (mT g) d 118 [.ref p, .int x1] M (fun v M' => (∃ x, v = some (.int x) ∧ (x = 0 ∨ x = 1)) ∧ M' = M) := by
  obtain ⟨d, rfl⟩ : ∃ e, d = e + 1 := ⟨d - 1, by omega⟩
  have L2 : ∀ (n9 : Nat) (i2 : Int32), (2147483648 - i2.toInt).toNat ≤ n9 → 0 ≤ i2.toInt → ml (mT g) d (mb_118 g).2 (2, [(0, .ref p), (1, .int x1), (2, .int i2)], [], M) (fun v M' => (∃ x, v = some (.int x) ∧ (x = 0 ∨ x = 1)) ∧ M' = M) := by
    intro n9
    induction n9 with
    | zero => intro i2 hn _; exact (loop_zero hn).elim
    | succ n9 ih =>
      intro i2 hn h0
      refine ml_st (S' := (3, [(0, .ref p), (1, .int x1), (2, .int i2)], [.int i2], M)) rfl rfl rfl ?_
      refine ml_st (S' := (4, [(0, .ref p), (1, .int x1), (2, .int i2)], [.ref p, .int i2], M)) rfl rfl rfl ?_
      refine ml_st (S' := (5, [(0, .ref p), (1, .int x1), (2, .int i2)], [.int x1, .ref p, .int i2], M)) rfl rfl rfl ?_
      refine ml_call (a := [.ref p, .int x1]) (rest := [.int i2]) rfl (okc_v rfl rfl rfl hP.1) rfl rfl (ct_textLength hP (by omega)) (fun v1 M2 h3 => ?_)
      obtain ⟨rfl, h3⟩ := h3
      rw [h3]
      show ml _ _ _ (8, [(0, .ref p), (1, .int x1), (2, .int i2)], [.int (sp_textLength n m f x1), .int i2], M) _
      refine ml_if2 (S1 := (45, [(0, .ref p), (1, .int x1), (2, .int i2)], [], M)) (S2 := (11, [(0, .ref p), (1, .int x1), (2, .int i2)], [], M)) rfl rfl rfl (fun c_8 => ?_) (fun c_8 => ?_)
      · have c_8 : (sp_textLength n m f x1) ≤ i2 := of_decide_eq_true c_8
        refine ml_st (S' := (46, [(0, .ref p), (1, .int x1), (2, .int i2)], [.int 0], M)) rfl rfl rfl ?_
        exact ml_ret rfl (rfl) (⟨⟨_, rfl, by first | exact Or.inl rfl | exact Or.inr rfl⟩, rfl⟩)
      · have c_8 : ¬ ((sp_textLength n m f x1) ≤ i2) := of_decide_eq_false c_8
        refine ml_st (S' := (12, [(0, .ref p), (1, .int x1), (2, .int i2)], [.ref p], M)) rfl rfl rfl ?_
        refine mo_get (S' := (15, [(0, .ref p), (1, .int x1), (2, .int i2)], [.ref (q 6)], M)) rfl hP.1 rfl rfl ?_
        refine ml_st (S' := (16, [(0, .ref p), (1, .int x1), (2, .int i2)], [.ref p, .ref (q 6)], M)) rfl rfl rfl ?_
        refine mo_get (S' := (19, [(0, .ref p), (1, .int x1), (2, .int i2)], [.ref (q 3), .ref (q 6)], M)) rfl hP.1 rfl rfl ?_
        refine ml_st (S' := (20, [(0, .ref p), (1, .int x1), (2, .int i2)], [.int x1, .ref (q 3), .ref (q 6)], M)) rfl rfl rfl ?_
        refine mo_ald (S' := (21, [(0, .ref p), (1, .int x1), (2, .int i2)], [.int ((f 3) (Int32.toNatClampNeg x1)), .ref (q 6)], M)) rfl (hP.2.1 3 (by decide) (by decide)) ((txt_in hT hm h0 (Int32.not_le.mp c_8)).1) rfl ?_
        refine ml_st (S' := (22, [(0, .ref p), (1, .int x1), (2, .int i2)], [.int i2, .int ((f 3) (Int32.toNatClampNeg x1)), .ref (q 6)], M)) rfl rfl rfl ?_
        refine ml_st (S' := (23, [(0, .ref p), (1, .int x1), (2, .int i2)], [.int (((f 3) (Int32.toNatClampNeg x1)) + i2), .ref (q 6)], M)) rfl rfl rfl ?_
        refine mo_ald (S' := (24, [(0, .ref p), (1, .int x1), (2, .int i2)], [.int ((f 6) (Int32.toNatClampNeg (((f 3) (Int32.toNatClampNeg x1)) + i2)))], M)) rfl hP.2.2 ((txt_in hT hm h0 (Int32.not_le.mp c_8)).2) rfl ?_
        refine ml_st (S' := (25, [(3, .int ((f 6) (Int32.toNatClampNeg (((f 3) (Int32.toNatClampNeg x1)) + i2)))), (0, .ref p), (1, .int x1), (2, .int i2)], [], M)) rfl rfl rfl ?_
        refine ml_st (S' := (26, [(3, .int ((f 6) (Int32.toNatClampNeg (((f 3) (Int32.toNatClampNeg x1)) + i2)))), (0, .ref p), (1, .int x1), (2, .int i2)], [.int ((f 6) (Int32.toNatClampNeg (((f 3) (Int32.toNatClampNeg x1)) + i2)))], M)) rfl rfl rfl ?_
        refine ml_st (S' := (28, [(3, .int ((f 6) (Int32.toNatClampNeg (((f 3) (Int32.toNatClampNeg x1)) + i2)))), (0, .ref p), (1, .int x1), (2, .int i2)], [.int 60, .int ((f 6) (Int32.toNatClampNeg (((f 3) (Int32.toNatClampNeg x1)) + i2)))], M)) rfl rfl rfl ?_
        refine ml_if2 (S1 := (37, [], [], M)) (S2 := (31, [(3, .int ((f 6) (Int32.toNatClampNeg (((f 3) (Int32.toNatClampNeg x1)) + i2)))), (0, .ref p), (1, .int x1), (2, .int i2)], [], M)) rfl rfl rfl (fun c_28 => ?_) (fun c_28 => ?_)
        · have c_28 : ((f 6) (Int32.toNatClampNeg (((f 3) (Int32.toNatClampNeg x1)) + i2))) = 60 := of_decide_eq_true c_28
          refine ml_st (S' := (38, [], [.int 1], M)) rfl rfl rfl ?_
          exact ml_ret rfl (rfl) (⟨⟨_, rfl, by first | exact Or.inl rfl | exact Or.inr rfl⟩, rfl⟩)
        · have c_28 : ¬ (((f 6) (Int32.toNatClampNeg (((f 3) (Int32.toNatClampNeg x1)) + i2))) = 60) := of_decide_eq_false c_28
          refine ml_st (S' := (32, [(3, .int ((f 6) (Int32.toNatClampNeg (((f 3) (Int32.toNatClampNeg x1)) + i2)))), (0, .ref p), (1, .int x1), (2, .int i2)], [.int ((f 6) (Int32.toNatClampNeg (((f 3) (Int32.toNatClampNeg x1)) + i2)))], M)) rfl rfl rfl ?_
          refine ml_st (S' := (34, [(3, .int ((f 6) (Int32.toNatClampNeg (((f 3) (Int32.toNatClampNeg x1)) + i2)))), (0, .ref p), (1, .int x1), (2, .int i2)], [.int 62, .int ((f 6) (Int32.toNatClampNeg (((f 3) (Int32.toNatClampNeg x1)) + i2)))], M)) rfl rfl rfl ?_
          refine ml_if2 (S1 := (39, [(3, .int ((f 6) (Int32.toNatClampNeg (((f 3) (Int32.toNatClampNeg x1)) + i2)))), (0, .ref p), (1, .int x1), (2, .int i2)], [], M)) (S2 := (37, [], [], M)) rfl rfl rfl (fun c_34 => ?_) (fun c_34 => ?_)
          · have c_34 : ¬ ((f 6) (Int32.toNatClampNeg (((f 3) (Int32.toNatClampNeg x1)) + i2))) = 62 := of_decide_eq_true c_34
            refine ml_st (S' := (42, [(2, .int (i2 + 1)), (3, .int ((f 6) (Int32.toNatClampNeg (((f 3) (Int32.toNatClampNeg x1)) + i2)))), (0, .ref p), (1, .int x1)], [], M)) rfl rfl rfl ?_
            refine ml_st (S' := (2, [(0, .ref p), (1, .int x1), (2, .int (i2 + 1))], [], M)) rfl rfl rfl ?_
            exact ih _ (loop_inc (Int32.not_le.mp c_8) hn) (by rw [inc_lt (Int32.not_le.mp c_8)]; omega)
          · have c_34 : ¬ (¬ ((f 6) (Int32.toNatClampNeg (((f 3) (Int32.toNatClampNeg x1)) + i2))) = 62) := of_decide_eq_false c_34
            refine ml_st (S' := (38, [], [.int 1], M)) rfl rfl rfl ?_
            exact ml_ret rfl (rfl) (⟨⟨_, rfl, by first | exact Or.inl rfl | exact Or.inr rfl⟩, rfl⟩)
  refine mt_in (b := mb_118 g) rfl rfl ?_
  show ml (mT g) d (mb_118 g).2 (0, [(0, .ref p), (1, .int x1)], [], M) _
  refine ml_st (S' := (1, [(0, .ref p), (1, .int x1)], [.int 0], M)) rfl rfl rfl ?_
  refine ml_st (S' := (2, [(0, .ref p), (1, .int x1), (2, .int 0)], [], M)) rfl rfl rfl ?_
  exact L2 _ 0 (Nat.le_refl _) (by decide)
set_option maxHeartbeats 1000000 in
theorem ct_isUnqualifiedName {g : xe_G} {M : mi_H} {p : Nat} {size : Int32} {n m : Nat} {q : Nat → Nat} {f : Nat → Nat → Int32} {cc : Int32} {x1 : Int32} (hP : PL M p size n m q f cc) (hT : txt n m f cc) (hm : m < 1073741824) {d : Nat} (hd : 3 ≤ d) : mt (mT g) d 124 [.ref p, .int x1] M (fun v M' => (∃ x, v = some (.int x) ∧ (x = 0 ∨ x = 1)) ∧ M' = M) := by
  obtain ⟨d, rfl⟩ : ∃ e, d = e + 1 := ⟨d - 1, by omega⟩
  have L2 : ∀ (n9 : Nat) (i2 : Int32), (2147483648 - i2.toInt).toNat ≤ n9 → 0 ≤ i2.toInt → ml (mT g) d (mb_124 g).2 (2, [(0, .ref p), (1, .int x1), (2, .int i2)], [], M) (fun v M' => (∃ x, v = some (.int x) ∧ (x = 0 ∨ x = 1)) ∧ M' = M) := by
    intro n9
    induction n9 with
    | zero => intro i2 hn _; exact (loop_zero hn).elim
    | succ n9 ih =>
      intro i2 hn h0
      refine ml_st (S' := (3, [(0, .ref p), (1, .int x1), (2, .int i2)], [.int i2], M)) rfl rfl rfl ?_
      refine ml_st (S' := (4, [(0, .ref p), (1, .int x1), (2, .int i2)], [.ref p, .int i2], M)) rfl rfl rfl ?_
      refine ml_st (S' := (5, [(0, .ref p), (1, .int x1), (2, .int i2)], [.int x1, .ref p, .int i2], M)) rfl rfl rfl ?_
      refine ml_call (a := [.ref p, .int x1]) (rest := [.int i2]) rfl (okc_v rfl rfl rfl hP.1) rfl rfl (ct_textLength hP (by omega)) (fun v1 M2 h3 => ?_)
      obtain ⟨rfl, h3⟩ := h3
      rw [h3]
      show ml _ _ _ (8, [(0, .ref p), (1, .int x1), (2, .int i2)], [.int (sp_textLength n m f x1), .int i2], M) _
      refine ml_if2 (S1 := (57, [(0, .ref p), (1, .int x1), (2, .int i2)], [], M)) (S2 := (11, [(0, .ref p), (1, .int x1), (2, .int i2)], [], M)) rfl rfl rfl (fun c_8 => ?_) (fun c_8 => ?_)
      · have c_8 : (sp_textLength n m f x1) ≤ i2 := of_decide_eq_true c_8
        refine ml_st (S' := (58, [(0, .ref p), (1, .int x1), (2, .int i2)], [.ref p], M)) rfl rfl rfl ?_
        refine ml_st (S' := (59, [(0, .ref p), (1, .int x1), (2, .int i2)], [.int x1, .ref p], M)) rfl rfl rfl ?_
        refine ml_call (a := [.ref p, .int x1]) (rest := []) rfl (okc_v rfl rfl rfl hP.1) rfl rfl (ct_textLength hP (by omega)) (fun v4 M5 h6 => ?_)
        obtain ⟨rfl, h6⟩ := h6
        rw [h6]
        show ml _ _ _ (62, [(0, .ref p), (1, .int x1), (2, .int i2)], [.int (sp_textLength n m f x1)], M) _
        refine ml_if (S1 := (69, [(0, .ref p), (1, .int x1), (2, .int i2)], [], M)) (S2 := (65, [(0, .ref p), (1, .int x1), (2, .int i2)], [], M)) rfl rfl rfl (fun c_62 => ?_) (fun c_62 => ?_)
        · have c_62 : (sp_textLength n m f x1) ≤ 0 := of_decide_eq_true c_62
          refine ml_st (S' := (70, [], [.int 0], M)) rfl rfl rfl ?_
          exact ml_ret rfl (rfl) (⟨⟨_, rfl, by first | exact Or.inl rfl | exact Or.inr rfl⟩, rfl⟩)
        · have c_62 : ¬ ((sp_textLength n m f x1) ≤ 0) := of_decide_eq_false c_62
          refine ml_st (S' := (66, [(0, .ref p), (1, .int x1), (2, .int i2)], [.int 1], M)) rfl rfl rfl ?_
          refine ml_st (S' := (70, [], [.int 1], M)) rfl rfl rfl ?_
          exact ml_ret rfl (rfl) (⟨⟨_, rfl, by first | exact Or.inl rfl | exact Or.inr rfl⟩, rfl⟩)
      · have c_8 : ¬ ((sp_textLength n m f x1) ≤ i2) := of_decide_eq_false c_8
        refine ml_st (S' := (12, [(0, .ref p), (1, .int x1), (2, .int i2)], [.ref p], M)) rfl rfl rfl ?_
        refine mo_get (S' := (15, [(0, .ref p), (1, .int x1), (2, .int i2)], [.ref (q 6)], M)) rfl hP.1 rfl rfl ?_
        refine ml_st (S' := (16, [(0, .ref p), (1, .int x1), (2, .int i2)], [.ref p, .ref (q 6)], M)) rfl rfl rfl ?_
        refine mo_get (S' := (19, [(0, .ref p), (1, .int x1), (2, .int i2)], [.ref (q 3), .ref (q 6)], M)) rfl hP.1 rfl rfl ?_
        refine ml_st (S' := (20, [(0, .ref p), (1, .int x1), (2, .int i2)], [.int x1, .ref (q 3), .ref (q 6)], M)) rfl rfl rfl ?_
        refine mo_ald (S' := (21, [(0, .ref p), (1, .int x1), (2, .int i2)], [.int ((f 3) (Int32.toNatClampNeg x1)), .ref (q 6)], M)) rfl (hP.2.1 3 (by decide) (by decide)) ((txt_in hT hm h0 (Int32.not_le.mp c_8)).1) rfl ?_
        refine ml_st (S' := (22, [(0, .ref p), (1, .int x1), (2, .int i2)], [.int i2, .int ((f 3) (Int32.toNatClampNeg x1)), .ref (q 6)], M)) rfl rfl rfl ?_
        refine ml_st (S' := (23, [(0, .ref p), (1, .int x1), (2, .int i2)], [.int (((f 3) (Int32.toNatClampNeg x1)) + i2), .ref (q 6)], M)) rfl rfl rfl ?_
        refine mo_ald (S' := (24, [(0, .ref p), (1, .int x1), (2, .int i2)], [.int ((f 6) (Int32.toNatClampNeg (((f 3) (Int32.toNatClampNeg x1)) + i2)))], M)) rfl hP.2.2 ((txt_in hT hm h0 (Int32.not_le.mp c_8)).2) rfl ?_
        refine ml_st (S' := (25, [(3, .int ((f 6) (Int32.toNatClampNeg (((f 3) (Int32.toNatClampNeg x1)) + i2)))), (0, .ref p), (1, .int x1), (2, .int i2)], [], M)) rfl rfl rfl ?_
        refine ml_st (S' := (26, [(3, .int ((f 6) (Int32.toNatClampNeg (((f 3) (Int32.toNatClampNeg x1)) + i2)))), (0, .ref p), (1, .int x1), (2, .int i2)], [.int ((f 6) (Int32.toNatClampNeg (((f 3) (Int32.toNatClampNeg x1)) + i2)))], M)) rfl rfl rfl ?_
        refine ml_st (S' := (28, [(3, .int ((f 6) (Int32.toNatClampNeg (((f 3) (Int32.toNatClampNeg x1)) + i2)))), (0, .ref p), (1, .int x1), (2, .int i2)], [.int 46, .int ((f 6) (Int32.toNatClampNeg (((f 3) (Int32.toNatClampNeg x1)) + i2)))], M)) rfl rfl rfl ?_
        refine ml_if2 (S1 := (49, [], [], M)) (S2 := (31, [(3, .int ((f 6) (Int32.toNatClampNeg (((f 3) (Int32.toNatClampNeg x1)) + i2)))), (0, .ref p), (1, .int x1), (2, .int i2)], [], M)) rfl rfl rfl (fun c_28 => ?_) (fun c_28 => ?_)
        · have c_28 : ((f 6) (Int32.toNatClampNeg (((f 3) (Int32.toNatClampNeg x1)) + i2))) = 46 := of_decide_eq_true c_28
          refine ml_st (S' := (50, [], [.int 0], M)) rfl rfl rfl ?_
          exact ml_ret rfl (rfl) (⟨⟨_, rfl, by first | exact Or.inl rfl | exact Or.inr rfl⟩, rfl⟩)
        · have c_28 : ¬ (((f 6) (Int32.toNatClampNeg (((f 3) (Int32.toNatClampNeg x1)) + i2))) = 46) := of_decide_eq_false c_28
          refine ml_st (S' := (32, [(3, .int ((f 6) (Int32.toNatClampNeg (((f 3) (Int32.toNatClampNeg x1)) + i2)))), (0, .ref p), (1, .int x1), (2, .int i2)], [.int ((f 6) (Int32.toNatClampNeg (((f 3) (Int32.toNatClampNeg x1)) + i2)))], M)) rfl rfl rfl ?_
          refine ml_st (S' := (34, [(3, .int ((f 6) (Int32.toNatClampNeg (((f 3) (Int32.toNatClampNeg x1)) + i2)))), (0, .ref p), (1, .int x1), (2, .int i2)], [.int 59, .int ((f 6) (Int32.toNatClampNeg (((f 3) (Int32.toNatClampNeg x1)) + i2)))], M)) rfl rfl rfl ?_
          refine ml_if2 (S1 := (49, [], [], M)) (S2 := (37, [(3, .int ((f 6) (Int32.toNatClampNeg (((f 3) (Int32.toNatClampNeg x1)) + i2)))), (0, .ref p), (1, .int x1), (2, .int i2)], [], M)) rfl rfl rfl (fun c_34 => ?_) (fun c_34 => ?_)
          · have c_34 : ((f 6) (Int32.toNatClampNeg (((f 3) (Int32.toNatClampNeg x1)) + i2))) = 59 := of_decide_eq_true c_34
            refine ml_st (S' := (50, [], [.int 0], M)) rfl rfl rfl ?_
            exact ml_ret rfl (rfl) (⟨⟨_, rfl, by first | exact Or.inl rfl | exact Or.inr rfl⟩, rfl⟩)
          · have c_34 : ¬ (((f 6) (Int32.toNatClampNeg (((f 3) (Int32.toNatClampNeg x1)) + i2))) = 59) := of_decide_eq_false c_34
            refine ml_st (S' := (38, [(3, .int ((f 6) (Int32.toNatClampNeg (((f 3) (Int32.toNatClampNeg x1)) + i2)))), (0, .ref p), (1, .int x1), (2, .int i2)], [.int ((f 6) (Int32.toNatClampNeg (((f 3) (Int32.toNatClampNeg x1)) + i2)))], M)) rfl rfl rfl ?_
            refine ml_st (S' := (40, [(3, .int ((f 6) (Int32.toNatClampNeg (((f 3) (Int32.toNatClampNeg x1)) + i2)))), (0, .ref p), (1, .int x1), (2, .int i2)], [.int 91, .int ((f 6) (Int32.toNatClampNeg (((f 3) (Int32.toNatClampNeg x1)) + i2)))], M)) rfl rfl rfl ?_
            refine ml_if2 (S1 := (49, [], [], M)) (S2 := (43, [(3, .int ((f 6) (Int32.toNatClampNeg (((f 3) (Int32.toNatClampNeg x1)) + i2)))), (0, .ref p), (1, .int x1), (2, .int i2)], [], M)) rfl rfl rfl (fun c_40 => ?_) (fun c_40 => ?_)
            · have c_40 : ((f 6) (Int32.toNatClampNeg (((f 3) (Int32.toNatClampNeg x1)) + i2))) = 91 := of_decide_eq_true c_40
              refine ml_st (S' := (50, [], [.int 0], M)) rfl rfl rfl ?_
              exact ml_ret rfl (rfl) (⟨⟨_, rfl, by first | exact Or.inl rfl | exact Or.inr rfl⟩, rfl⟩)
            · have c_40 : ¬ (((f 6) (Int32.toNatClampNeg (((f 3) (Int32.toNatClampNeg x1)) + i2))) = 91) := of_decide_eq_false c_40
              refine ml_st (S' := (44, [(3, .int ((f 6) (Int32.toNatClampNeg (((f 3) (Int32.toNatClampNeg x1)) + i2)))), (0, .ref p), (1, .int x1), (2, .int i2)], [.int ((f 6) (Int32.toNatClampNeg (((f 3) (Int32.toNatClampNeg x1)) + i2)))], M)) rfl rfl rfl ?_
              refine ml_st (S' := (46, [(3, .int ((f 6) (Int32.toNatClampNeg (((f 3) (Int32.toNatClampNeg x1)) + i2)))), (0, .ref p), (1, .int x1), (2, .int i2)], [.int 47, .int ((f 6) (Int32.toNatClampNeg (((f 3) (Int32.toNatClampNeg x1)) + i2)))], M)) rfl rfl rfl ?_
              refine ml_if2 (S1 := (51, [(3, .int ((f 6) (Int32.toNatClampNeg (((f 3) (Int32.toNatClampNeg x1)) + i2)))), (0, .ref p), (1, .int x1), (2, .int i2)], [], M)) (S2 := (49, [], [], M)) rfl rfl rfl (fun c_46 => ?_) (fun c_46 => ?_)
              · have c_46 : ¬ ((f 6) (Int32.toNatClampNeg (((f 3) (Int32.toNatClampNeg x1)) + i2))) = 47 := of_decide_eq_true c_46
                refine ml_st (S' := (54, [(2, .int (i2 + 1)), (3, .int ((f 6) (Int32.toNatClampNeg (((f 3) (Int32.toNatClampNeg x1)) + i2)))), (0, .ref p), (1, .int x1)], [], M)) rfl rfl rfl ?_
                refine ml_st (S' := (2, [(0, .ref p), (1, .int x1), (2, .int (i2 + 1))], [], M)) rfl rfl rfl ?_
                exact ih _ (loop_inc (Int32.not_le.mp c_8) hn) (by rw [inc_lt (Int32.not_le.mp c_8)]; omega)
              · have c_46 : ¬ (¬ ((f 6) (Int32.toNatClampNeg (((f 3) (Int32.toNatClampNeg x1)) + i2))) = 47) := of_decide_eq_false c_46
                refine ml_st (S' := (50, [], [.int 0], M)) rfl rfl rfl ?_
                exact ml_ret rfl (rfl) (⟨⟨_, rfl, by first | exact Or.inl rfl | exact Or.inr rfl⟩, rfl⟩)
  refine mt_in (b := mb_124 g) rfl rfl ?_
  show ml (mT g) d (mb_124 g).2 (0, [(0, .ref p), (1, .int x1)], [], M) _
  refine ml_st (S' := (1, [(0, .ref p), (1, .int x1)], [.int 0], M)) rfl rfl rfl ?_
  refine ml_st (S' := (2, [(0, .ref p), (1, .int x1), (2, .int 0)], [], M)) rfl rfl rfl ?_
  exact L2 _ 0 (Nat.le_refl _) (by decide)
