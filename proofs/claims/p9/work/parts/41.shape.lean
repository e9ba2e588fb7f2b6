/-! class texts, shapes (laid by wip/p2/c41.py) -/
theorem txt_at {n m : Nat} {f : Nat → Nat → Int32} {cc k : Int32} (hT : txt n m f cc) (hm : m < 1073741824) (h : sp_tagOf n m f k = 1) : 0 ≤ (f 3 k.toNatClampNeg).toInt ∧ 0 ≤ (f 4 k.toNatClampNeg).toInt ∧ (f 3 k.toNatClampNeg + f 4 k.toNatClampNeg).toInt = (f 3 k.toNatClampNeg).toInt + (f 4 k.toNatClampNeg).toInt ∧ (f 3 k.toNatClampNeg + f 4 k.toNatClampNeg).toInt ≤ m := by
  obtain ⟨g1, g2⟩ := tag_in h (by decide)
  have hk : k.toNatClampNeg < n := Nat.not_le.mp fun q => g1 (Or.inr q)
  obtain ⟨a1, a2, a3⟩ := hT.2.2 _ hk g2
  have a4 := hT.2.1
  have e5 : (f 3 k.toNatClampNeg + f 4 k.toNatClampNeg).toInt = (f 3 k.toNatClampNeg).toInt + (f 4 k.toNatClampNeg).toInt := by
    rw [Int32.toInt_add]
    apply Int.bmod_eq_of_le <;> omega
  exact ⟨a1, a2, e5, by omega⟩
theorem tl_tag {n m : Nat} {f : Nat → Nat → Int32} {k : Int32} (h : sp_tagOf n m f k = 1) : sp_textLength n m f k = f 4 k.toNatClampNeg := by
  unfold sp_textLength
  rw [if_neg (not_not_intro h)]
theorem tl_none {n m : Nat} {f : Nat → Nat → Int32} {k : Int32} (h : ¬ sp_tagOf n m f k = 1) : sp_textLength n m f k = 0 := by
  unfold sp_textLength
  rw [if_pos h]
theorem isFD_z {n m : Nat} {f : Nat → Nat → Int32} {k : Int32} : sp_isFieldDescriptor n m f k = 0 ∨ sp_isFieldDescriptor n m f k = 1 := by
  unfold sp_isFieldDescriptor
  repeat' (first | exact Or.inl rfl | exact Or.inr rfl | split)
theorem pT_z (x : Int32) : (if x = 74 then (2 : Int32) else if x = 68 then 2 else 1).toInt = 1 ∨ (if x = 74 then (2 : Int32) else if x = 68 then 2 else 1).toInt = 2 := by
  repeat' (first | exact Or.inl rfl | exact Or.inr rfl | split)
theorem inc_pl {i y : Int32} (h : ¬ (255 : Int32) < i) (h0 : 0 ≤ i.toInt) (hy : y.toInt = 1 ∨ y.toInt = 2) : (i + y).toInt = i.toInt + y.toInt := by
  have h1 := Int32.le_iff_toInt_le.mp (Int32.not_lt.mp h)
  have h2 : (255 : Int32).toInt = 255 := rfl
  rw [Int32.toInt_add]
  apply Int.bmod_eq_of_le <;> omega
theorem loop_pl {i y : Int32} {n : Nat} (h : ¬ (255 : Int32) < i) (h0 : 0 ≤ i.toInt) (hy : y.toInt = 1 ∨ y.toInt = 2) (hn : (2147483648 - i.toInt).toNat ≤ n + 1) : (2147483648 - (i + y).toInt).toNat ≤ n := by
  have h1 := Int32.le_iff_toInt_le.mp (Int32.not_lt.mp h)
  have h2 : (255 : Int32).toInt = 255 := rfl
  rw [inc_pl h h0 hy]
  omega

set_option maxHeartbeats 1000000 in
theorem ct_isClassText {g : xe_G} {M : mi_H} {p : Nat} {size : Int32} {n m : Nat} {q : Nat → Nat} {f : Nat → Nat → Int32} {cc : Int32} {x1 : Int32} (hP : PL M p size n m q f cc) (hT : txt n m f cc) (hm : m < 1073741824) {d : Nat} (hd : 3 ≤ d) : mt (mT g) d 120 [.ref p, .int x1] M (fun v M' => (∃ x, v = some (.int x) ∧ (x = 0 ∨ x = 1)) ∧ M' = M) := by
  obtain ⟨d, rfl⟩ : ∃ e, d = e + 1 := ⟨d - 1, by omega⟩
  refine mt_in (b := mb_120 g) rfl rfl ?_
  show ml (mT g) d (mb_120 g).2 (0, [(0, .ref p), (1, .int x1)], [], M) _
  refine ml_st (S' := (1, [(0, .ref p), (1, .int x1)], [.ref p], M)) rfl rfl rfl ?_
  refine ml_st (S' := (2, [(0, .ref p), (1, .int x1)], [.int x1, .ref p], M)) rfl rfl rfl ?_
  refine ml_st (S' := (3, [(0, .ref p), (1, .int x1)], [.int 0, .int x1, .ref p], M)) rfl rfl rfl ?_
  refine ml_call (a := [.ref p, .int x1, .int 0]) (rest := []) rfl (okc_v rfl rfl rfl hP.1) rfl rfl (ct_characterAt hP hT hm (by omega)) (fun v1 M2 h3 => ?_)
  obtain ⟨rfl, h3⟩ := h3
  rw [h3]
  show ml _ _ _ (6, [(0, .ref p), (1, .int x1)], [.int (sp_characterAt n m f x1 0)], M) _
  refine ml_st (S' := (8, [(0, .ref p), (1, .int x1)], [.int 91, .int (sp_characterAt n m f x1 0)], M)) rfl rfl rfl ?_
  refine ml_if2 (S1 := (17, [(0, .ref p), (1, .int x1)], [], M)) (S2 := (11, [(0, .ref p), (1, .int x1)], [], M)) rfl rfl rfl (fun c_8 => ?_) (fun c_8 => ?_)
  · have c_8 : ¬ (sp_characterAt n m f x1 0) = 91 := of_decide_eq_true c_8
    refine ml_st (S' := (18, [(0, .ref p), (1, .int x1)], [.ref p], M)) rfl rfl rfl ?_
    refine ml_st (S' := (19, [(0, .ref p), (1, .int x1)], [.int x1, .ref p], M)) rfl rfl rfl ?_
    refine ml_call (a := [.ref p, .int x1]) (rest := []) rfl (okc_v rfl rfl rfl hP.1) rfl rfl (ct_tagOf hP (by omega)) (fun v4 M5 h6 => ?_)
    obtain ⟨rfl, h6⟩ := h6
    rw [h6]
    show ml _ _ _ (22, [(0, .ref p), (1, .int x1)], [.int (sp_tagOf n m f x1)], M) _
    refine ml_st (S' := (23, [(0, .ref p), (1, .int x1)], [.int 1, .int (sp_tagOf n m f x1)], M)) rfl rfl rfl ?_
    refine ml_if2 (S1 := (35, [(0, .ref p), (1, .int x1)], [], M)) (S2 := (26, [(0, .ref p), (1, .int x1)], [], M)) rfl rfl rfl (fun c_23 => ?_) (fun c_23 => ?_)
    · have c_23 : ¬ (sp_tagOf n m f x1) = 1 := of_decide_eq_true c_23
      refine ml_st (S' := (36, [(0, .ref p), (1, .int x1)], [.int 0], M)) rfl rfl rfl ?_
      refine ml_st (S' := (37, [(2, .int 0), (0, .ref p), (1, .int x1)], [], M)) rfl rfl rfl ?_
      refine ml_st (S' := (38, [(2, .int 0), (0, .ref p), (1, .int x1)], [.int 0], M)) rfl rfl rfl ?_
      refine ml_st (S' := (39, [(2, .int 0), (0, .ref p), (1, .int x1)], [.ref p, .int 0], M)) rfl rfl rfl ?_
      refine ml_st (S' := (40, [(2, .int 0), (0, .ref p), (1, .int x1)], [.int x1, .ref p, .int 0], M)) rfl rfl rfl ?_
      refine ml_call (a := [.ref p, .int x1]) (rest := [.int 0]) rfl (okc_v rfl rfl rfl hP.1) rfl rfl (ct_textLength hP (by omega)) (fun v7 M8 h9 => ?_)
      obtain ⟨rfl, h9⟩ := h9
      rw [h9]
      show ml _ _ _ (43, [(2, .int 0), (0, .ref p), (1, .int x1)], [.int (sp_textLength n m f x1), .int 0], M) _
      refine ml_st (S' := (44, [(2, .int 0), (0, .ref p), (1, .int x1)], [.int (0 + (sp_textLength n m f x1))], M)) rfl rfl rfl ?_
      refine ml_st (S' := (45, [(3, .int (0 + (sp_textLength n m f x1))), (2, .int 0), (0, .ref p), (1, .int x1)], [], M)) rfl rfl rfl ?_
      refine ml_st (S' := (46, [(3, .int (0 + (sp_textLength n m f x1))), (2, .int 0), (0, .ref p), (1, .int x1)], [.ref p], M)) rfl rfl rfl ?_
      refine ml_st (S' := (47, [(3, .int (0 + (sp_textLength n m f x1))), (2, .int 0), (0, .ref p), (1, .int x1)], [.int 0, .ref p], M)) rfl rfl rfl ?_
      refine ml_st (S' := (48, [(3, .int (0 + (sp_textLength n m f x1))), (2, .int 0), (0, .ref p), (1, .int x1)], [.int (0 + (sp_textLength n m f x1)), .int 0, .ref p], M)) rfl rfl rfl ?_
      refine ml_call (a := [.ref p, .int 0, .int (0 + (sp_textLength n m f x1))]) (rest := []) rfl (okc_v rfl rfl rfl hP.1) rfl rfl (ct_nameEnd hP (by first | decide | (rw [tl_none c_23]; show (0 : Int32).toInt ≤ (m : Int); have : (0 : Int32).toInt = 0 := rfl; omega)) (by first | decide | (rw [tl_none c_23]; show (0 : Int32).toInt ≤ (m : Int); have : (0 : Int32).toInt = 0 := rfl; omega)) (by omega)) (fun v9 M9 h9 => ?_)
      obtain ⟨⟨r9, rfl⟩, h9⟩ := h9
      rw [h9]
      show ml _ _ _ (51, [(3, .int (0 + (sp_textLength n m f x1))), (2, .int 0), (0, .ref p), (1, .int x1)], [.int r9], M) _
      refine ml_st (S' := (52, [(3, .int (0 + (sp_textLength n m f x1))), (2, .int 0), (0, .ref p), (1, .int x1)], [.int (0 + (sp_textLength n m f x1)), .int r9], M)) rfl rfl rfl ?_
      refine ml_if2 (S1 := (59, [(3, .int (0 + (sp_textLength n m f x1))), (2, .int 0), (0, .ref p), (1, .int x1)], [], M)) (S2 := (55, [(3, .int (0 + (sp_textLength n m f x1))), (2, .int 0), (0, .ref p), (1, .int x1)], [], M)) rfl rfl rfl (fun c_52 => ?_) (fun c_52 => ?_)
      · have c_52 : ¬ r9 = (0 + (sp_textLength n m f x1)) := of_decide_eq_true c_52
        refine ml_st (S' := (60, [], [.int 0], M)) rfl rfl rfl ?_
        exact ml_ret rfl (rfl) (⟨⟨_, rfl, by first | exact Or.inl rfl | exact Or.inr rfl⟩, rfl⟩)
      · have c_52 : ¬ (¬ r9 = (0 + (sp_textLength n m f x1))) := of_decide_eq_false c_52
        refine ml_st (S' := (56, [(3, .int (0 + (sp_textLength n m f x1))), (2, .int 0), (0, .ref p), (1, .int x1)], [.int 1], M)) rfl rfl rfl ?_
        refine ml_st (S' := (60, [], [.int 1], M)) rfl rfl rfl ?_
        exact ml_ret rfl (rfl) (⟨⟨_, rfl, by first | exact Or.inl rfl | exact Or.inr rfl⟩, rfl⟩)
    · have c_23 : ¬ (¬ (sp_tagOf n m f x1) = 1) := of_decide_eq_false c_23
      refine ml_st (S' := (27, [(0, .ref p), (1, .int x1)], [.ref p], M)) rfl rfl rfl ?_
      refine mo_get (S' := (30, [(0, .ref p), (1, .int x1)], [.ref (q 3)], M)) rfl hP.1 rfl rfl ?_
      refine ml_st (S' := (31, [(0, .ref p), (1, .int x1)], [.int x1, .ref (q 3)], M)) rfl rfl rfl ?_
      refine mo_ald (S' := (32, [(0, .ref p), (1, .int x1)], [.int ((f 3) (Int32.toNatClampNeg x1))], M)) rfl (hP.2.1 3 (by decide) (by decide)) ((tag_in (Decidable.not_not.mp c_23) (by decide)).1) rfl ?_
      refine ml_st (S' := (36, [(0, .ref p), (1, .int x1)], [.int ((f 3) (Int32.toNatClampNeg x1))], M)) rfl rfl rfl ?_
      refine ml_st (S' := (37, [(2, .int ((f 3) (Int32.toNatClampNeg x1))), (0, .ref p), (1, .int x1)], [], M)) rfl rfl rfl ?_
      refine ml_st (S' := (38, [(2, .int ((f 3) (Int32.toNatClampNeg x1))), (0, .ref p), (1, .int x1)], [.int ((f 3) (Int32.toNatClampNeg x1))], M)) rfl rfl rfl ?_
      refine ml_st (S' := (39, [(2, .int ((f 3) (Int32.toNatClampNeg x1))), (0, .ref p), (1, .int x1)], [.ref p, .int ((f 3) (Int32.toNatClampNeg x1))], M)) rfl rfl rfl ?_
      refine ml_st (S' := (40, [(2, .int ((f 3) (Int32.toNatClampNeg x1))), (0, .ref p), (1, .int x1)], [.int x1, .ref p, .int ((f 3) (Int32.toNatClampNeg x1))], M)) rfl rfl rfl ?_
      refine ml_call (a := [.ref p, .int x1]) (rest := [.int ((f 3) (Int32.toNatClampNeg x1))]) rfl (okc_v rfl rfl rfl hP.1) rfl rfl (ct_textLength hP (by omega)) (fun v10 M11 h12 => ?_)
      obtain ⟨rfl, h12⟩ := h12
      rw [h12]
      show ml _ _ _ (43, [(2, .int ((f 3) (Int32.toNatClampNeg x1))), (0, .ref p), (1, .int x1)], [.int (sp_textLength n m f x1), .int ((f 3) (Int32.toNatClampNeg x1))], M) _
      refine ml_st (S' := (44, [(2, .int ((f 3) (Int32.toNatClampNeg x1))), (0, .ref p), (1, .int x1)], [.int (((f 3) (Int32.toNatClampNeg x1)) + (sp_textLength n m f x1))], M)) rfl rfl rfl ?_
      refine ml_st (S' := (45, [(3, .int (((f 3) (Int32.toNatClampNeg x1)) + (sp_textLength n m f x1))), (2, .int ((f 3) (Int32.toNatClampNeg x1))), (0, .ref p), (1, .int x1)], [], M)) rfl rfl rfl ?_
      refine ml_st (S' := (46, [(3, .int (((f 3) (Int32.toNatClampNeg x1)) + (sp_textLength n m f x1))), (2, .int ((f 3) (Int32.toNatClampNeg x1))), (0, .ref p), (1, .int x1)], [.ref p], M)) rfl rfl rfl ?_
      refine ml_st (S' := (47, [(3, .int (((f 3) (Int32.toNatClampNeg x1)) + (sp_textLength n m f x1))), (2, .int ((f 3) (Int32.toNatClampNeg x1))), (0, .ref p), (1, .int x1)], [.int ((f 3) (Int32.toNatClampNeg x1)), .ref p], M)) rfl rfl rfl ?_
      refine ml_st (S' := (48, [(3, .int (((f 3) (Int32.toNatClampNeg x1)) + (sp_textLength n m f x1))), (2, .int ((f 3) (Int32.toNatClampNeg x1))), (0, .ref p), (1, .int x1)], [.int (((f 3) (Int32.toNatClampNeg x1)) + (sp_textLength n m f x1)), .int ((f 3) (Int32.toNatClampNeg x1)), .ref p], M)) rfl rfl rfl ?_
      refine ml_call (a := [.ref p, .int ((f 3) (Int32.toNatClampNeg x1)), .int (((f 3) (Int32.toNatClampNeg x1)) + (sp_textLength n m f x1))]) (rest := []) rfl (okc_v rfl rfl rfl hP.1) rfl rfl (ct_nameEnd hP (by have h9 := txt_at hT hm (Decidable.not_not.mp c_23); first | exact h9.1 | (rw [tl_tag (Decidable.not_not.mp c_23)]; exact h9.2.2.2)) (by have h9 := txt_at hT hm (Decidable.not_not.mp c_23); first | exact h9.1 | (rw [tl_tag (Decidable.not_not.mp c_23)]; exact h9.2.2.2)) (by omega)) (fun v9 M9 h9 => ?_)
      obtain ⟨⟨r9, rfl⟩, h9⟩ := h9
      rw [h9]
      show ml _ _ _ (51, [(3, .int (((f 3) (Int32.toNatClampNeg x1)) + (sp_textLength n m f x1))), (2, .int ((f 3) (Int32.toNatClampNeg x1))), (0, .ref p), (1, .int x1)], [.int r9], M) _
      refine ml_st (S' := (52, [(3, .int (((f 3) (Int32.toNatClampNeg x1)) + (sp_textLength n m f x1))), (2, .int ((f 3) (Int32.toNatClampNeg x1))), (0, .ref p), (1, .int x1)], [.int (((f 3) (Int32.toNatClampNeg x1)) + (sp_textLength n m f x1)), .int r9], M)) rfl rfl rfl ?_
      refine ml_if2 (S1 := (59, [(3, .int (((f 3) (Int32.toNatClampNeg x1)) + (sp_textLength n m f x1))), (2, .int ((f 3) (Int32.toNatClampNeg x1))), (0, .ref p), (1, .int x1)], [], M)) (S2 := (55, [(3, .int (((f 3) (Int32.toNatClampNeg x1)) + (sp_textLength n m f x1))), (2, .int ((f 3) (Int32.toNatClampNeg x1))), (0, .ref p), (1, .int x1)], [], M)) rfl rfl rfl (fun c_52 => ?_) (fun c_52 => ?_)
      · have c_52 : ¬ r9 = (((f 3) (Int32.toNatClampNeg x1)) + (sp_textLength n m f x1)) := of_decide_eq_true c_52
        refine ml_st (S' := (60, [], [.int 0], M)) rfl rfl rfl ?_
        exact ml_ret rfl (rfl) (⟨⟨_, rfl, by first | exact Or.inl rfl | exact Or.inr rfl⟩, rfl⟩)
      · have c_52 : ¬ (¬ r9 = (((f 3) (Int32.toNatClampNeg x1)) + (sp_textLength n m f x1))) := of_decide_eq_false c_52
        refine ml_st (S' := (56, [(3, .int (((f 3) (Int32.toNatClampNeg x1)) + (sp_textLength n m f x1))), (2, .int ((f 3) (Int32.toNatClampNeg x1))), (0, .ref p), (1, .int x1)], [.int 1], M)) rfl rfl rfl ?_
        refine ml_st (S' := (60, [], [.int 1], M)) rfl rfl rfl ?_
        exact ml_ret rfl (rfl) (⟨⟨_, rfl, by first | exact Or.inl rfl | exact Or.inr rfl⟩, rfl⟩)
  · have c_8 : ¬ (¬ (sp_characterAt n m f x1 0) = 91) := of_decide_eq_false c_8
    refine ml_st (S' := (12, [(0, .ref p), (1, .int x1)], [.ref p], M)) rfl rfl rfl ?_
    refine ml_st (S' := (13, [(0, .ref p), (1, .int x1)], [.int x1, .ref p], M)) rfl rfl rfl ?_
    refine ml_call (a := [.ref p, .int x1]) (rest := []) rfl (okc_v rfl rfl rfl hP.1) rfl rfl (ct_isFieldDescriptor hP (by omega)) (fun v13 M14 h15 => ?_)
    obtain ⟨rfl, h15⟩ := h15
    rw [h15]
    show ml _ _ _ (16, [(0, .ref p), (1, .int x1)], [.int (sp_isFieldDescriptor n m f x1)], M) _
    exact ml_ret rfl (r_z isFD_z) (⟨⟨_, rfl, isFD_z⟩, rfl⟩)
set_option maxHeartbeats 1000000 in
theorem ct_placesOfType {g : xe_G} {M : mi_H} {x1 : Int32}  {d : Nat} (hd : 1 ≤ d) : mt (mT g) d 130 [.int x1] M (fun v M' => v = some (.int (if x1 = 74 then 2 else if x1 = 68 then 2 else 1)) ∧ M' = M) := by
  obtain ⟨d, rfl⟩ : ∃ e, d = e + 1 := ⟨d - 1, by omega⟩
  refine mt_in (b := mb_130 g) rfl rfl ?_
  show ml (mT g) d (mb_130 g).2 (0, [(0, .int x1)], [], M) _
  refine ml_st (S' := (1, [(0, .int x1)], [.int x1], M)) rfl rfl rfl ?_
  refine ml_st (S' := (3, [(0, .int x1)], [.int 74, .int x1], M)) rfl rfl rfl ?_
  refine ml_if2 (S1 := (12, [], [], M)) (S2 := (6, [(0, .int x1)], [], M)) rfl rfl rfl (fun c_3 => ?_) (fun c_3 => ?_)
  · have c_3 : x1 = 74 := of_decide_eq_true c_3
    refine ml_st (S' := (13, [], [.int 2], M)) rfl rfl rfl ?_
    refine ml_st (S' := (17, [], [.int 2], M)) rfl rfl rfl ?_
    exact ml_ret rfl (rfl) (⟨by first | rw [if_pos c_3] | rw [if_neg c_3, if_pos (Decidable.not_not.mp c_9)] | rw [if_neg c_3, if_neg c_9], rfl⟩)
  · have c_3 : ¬ (x1 = 74) := of_decide_eq_false c_3
    refine ml_st (S' := (7, [(0, .int x1)], [.int x1], M)) rfl rfl rfl ?_
    refine ml_st (S' := (9, [(0, .int x1)], [.int 68, .int x1], M)) rfl rfl rfl ?_
    refine ml_if2 (S1 := (16, [(0, .int x1)], [], M)) (S2 := (12, [], [], M)) rfl rfl rfl (fun c_9 => ?_) (fun c_9 => ?_)
    · have c_9 : ¬ x1 = 68 := of_decide_eq_true c_9
      refine ml_st (S' := (17, [], [.int 1], M)) rfl rfl rfl ?_
      exact ml_ret rfl (rfl) (⟨by first | rw [if_pos c_3] | rw [if_neg c_3, if_pos (Decidable.not_not.mp c_9)] | rw [if_neg c_3, if_neg c_9], rfl⟩)
    · have c_9 : ¬ (¬ x1 = 68) := of_decide_eq_false c_9
      refine ml_st (S' := (13, [], [.int 2], M)) rfl rfl rfl ?_
      refine ml_st (S' := (17, [], [.int 2], M)) rfl rfl rfl ?_
      exact ml_ret rfl (rfl) (⟨by first | rw [if_pos c_3] | rw [if_neg c_3, if_pos (Decidable.not_not.mp c_9)] | rw [if_neg c_3, if_neg c_9], rfl⟩)
theorem res_in {i x : Int32} {m : Nat} (h0 : 0 ≤ i.toInt) (h1 : i.toInt ≤ x.toInt) (h2 : x.toInt ≤ m) (hm : m < 1073741824) (h : ¬ x ≤ i + 1) : 0 ≤ (i + 1).toInt ∧ vp_in (i + 1) m := by
  have e : (i + 1).toInt = i.toInt + 1 := by
    rw [Int32.toInt_add]
    have : (1 : Int32).toInt = 1 := rfl
    rw [this]
    apply Int.bmod_eq_of_le <;> omega
  have h3 := Int32.lt_iff_toInt_lt.mp (Int32.not_le.mp h)
  exact ⟨by omega, vin_iff (by omega) (by omega)⟩
set_option maxHeartbeats 1000000 in
theorem ct_methodShape {g : xe_G} {M : mi_H} {p : Nat} {size : Int32} {n m : Nat} {q : Nat → Nat} {f : Nat → Nat → Int32} {cc : Int32} {x1 x2 : Int32} (hP : PL M p size n m q f cc) (h1 : 0 ≤ x1.toInt) (h12 : x1.toInt ≤ x2.toInt) (h2 : x2.toInt ≤ m) (hm : m < 1073741824) {d : Nat} (hd : 3 ≤ d) : mt (mT g) d 126 [.ref p, .int x1, .int x2] M (fun v M' => (∃ x, v = some (.int x)) ∧ M' = M) := by
  obtain ⟨d, rfl⟩ : ∃ e, d = e + 1 := ⟨d - 1, by omega⟩
  have L5 : ∀ (n9 : Nat) (i3 i4 : Int32), (2147483648 - i4.toInt).toNat ≤ n9 → (0 ≤ i3.toInt ∧ i3.toInt ≤ x2.toInt ∧ 0 ≤ i4.toInt) → ml (mT g) d (mb_126 g).2 (5, [(0, .ref p), (2, .int x2), (3, .int i3), (4, .int i4)], [], M) (fun v M' => (∃ x, v = some (.int x)) ∧ M' = M) := by
    intro n9
    induction n9 with
    | zero => intro i3 i4 hn _; exact (loop_zero hn).elim
    | succ n9 ih =>
      intro i3 i4 hn h0
      refine ml_st (S' := (7, [(0, .ref p), (2, .int x2), (3, .int i3), (4, .int i4)], [.int i4], M)) rfl rfl rfl ?_
      refine ml_st (S' := (10, [(0, .ref p), (2, .int x2), (3, .int i3), (4, .int i4)], [.int 255, .int i4], M)) rfl rfl rfl ?_
      refine ml_if2 (S1 := (56, [(0, .ref p), (2, .int x2), (3, .int i3), (4, .int i4)], [], M)) (S2 := (13, [(0, .ref p), (2, .int x2), (3, .int i3), (4, .int i4)], [], M)) rfl rfl rfl (fun c_10 => ?_) (fun c_10 => ?_)
      · have c_10 : 255 < i4 := of_decide_eq_true c_10
        refine ml_st (S' := (57, [(0, .ref p), (2, .int x2), (3, .int i3), (4, .int i4)], [.int i3], M)) rfl rfl rfl ?_
        refine ml_st (S' := (58, [(0, .ref p), (2, .int x2), (3, .int i3), (4, .int i4)], [.int 1, .int i3], M)) rfl rfl rfl ?_
        refine ml_st (S' := (59, [(0, .ref p), (2, .int x2), (3, .int i3), (4, .int i4)], [.int (i3 + 1)], M)) rfl rfl rfl ?_
        refine ml_st (S' := (61, [(5, .int (i3 + 1)), (0, .ref p), (2, .int x2), (3, .int i3), (4, .int i4)], [], M)) rfl rfl rfl ?_
        refine ml_st (S' := (63, [(5, .int (i3 + 1)), (0, .ref p), (2, .int x2), (3, .int i3), (4, .int i4)], [.int (i3 + 1)], M)) rfl rfl rfl ?_
        refine ml_st (S' := (64, [(5, .int (i3 + 1)), (0, .ref p), (2, .int x2), (3, .int i3), (4, .int i4)], [.int x2, .int (i3 + 1)], M)) rfl rfl rfl ?_
        refine ml_if2 (S1 := (75, [], [], M)) (S2 := (67, [(5, .int (i3 + 1)), (0, .ref p), (2, .int x2), (3, .int i3), (4, .int i4)], [], M)) rfl rfl rfl (fun c_64 => ?_) (fun c_64 => ?_)
        · have c_64 : x2 ≤ (i3 + 1) := of_decide_eq_true c_64
          refine ml_st (S' := (76, [], [.int (-1)], M)) rfl rfl rfl ?_
          exact ml_ret rfl (rfl) (⟨⟨_, rfl⟩, rfl⟩)
        · have c_64 : ¬ (x2 ≤ (i3 + 1)) := of_decide_eq_false c_64
          refine ml_st (S' := (69, [(5, .int (i3 + 1)), (0, .ref p), (2, .int x2), (3, .int i3), (4, .int i4)], [.int i4], M)) rfl rfl rfl ?_
          refine ml_st (S' := (72, [(5, .int (i3 + 1)), (0, .ref p), (2, .int x2), (3, .int i3), (4, .int i4)], [.int 255, .int i4], M)) rfl rfl rfl ?_
          refine ml_if2 (S1 := (77, [(5, .int (i3 + 1)), (0, .ref p), (2, .int x2), (3, .int i3), (4, .int i4)], [], M)) (S2 := (75, [], [], M)) rfl rfl rfl (fun c_72 => ?_) (fun c_72 => ?_)
          · have c_72 : i4 ≤ 255 := of_decide_eq_true c_72
            refine ml_st (S' := (78, [(5, .int (i3 + 1)), (0, .ref p), (2, .int x2), (3, .int i3), (4, .int i4)], [.ref p], M)) rfl rfl rfl ?_
            refine mo_get (S' := (81, [(5, .int (i3 + 1)), (0, .ref p), (2, .int x2), (3, .int i3), (4, .int i4)], [.ref (q 6)], M)) rfl hP.1 rfl rfl ?_
            refine ml_st (S' := (83, [(5, .int (i3 + 1)), (0, .ref p), (2, .int x2), (3, .int i3), (4, .int i4)], [.int (i3 + 1), .ref (q 6)], M)) rfl rfl rfl ?_
            refine mo_ald (S' := (84, [(5, .int (i3 + 1)), (0, .ref p), (2, .int x2), (3, .int i3), (4, .int i4)], [.int ((f 6) (Int32.toNatClampNeg (i3 + 1)))], M)) rfl hP.2.2 ((res_in h0.1 h0.2.1 h2 hm c_64).2) rfl ?_
            refine ml_st (S' := (86, [(5, .int (i3 + 1)), (0, .ref p), (2, .int x2), (3, .int i3), (4, .int i4)], [.int 86, .int ((f 6) (Int32.toNatClampNeg (i3 + 1)))], M)) rfl rfl rfl ?_
            refine ml_if2 (S1 := (104, [(0, .ref p), (2, .int x2), (4, .int i4), (5, .int (i3 + 1))], [], M)) (S2 := (89, [(5, .int (i3 + 1)), (0, .ref p), (2, .int x2), (3, .int i3), (4, .int i4)], [], M)) rfl rfl rfl (fun c_86 => ?_) (fun c_86 => ?_)
            · have c_86 : ¬ ((f 6) (Int32.toNatClampNeg (i3 + 1))) = 86 := of_decide_eq_true c_86
              refine ml_st (S' := (105, [(0, .ref p), (2, .int x2), (4, .int i4), (5, .int (i3 + 1))], [.ref p], M)) rfl rfl rfl ?_
              refine ml_st (S' := (107, [(0, .ref p), (2, .int x2), (4, .int i4), (5, .int (i3 + 1))], [.int (i3 + 1), .ref p], M)) rfl rfl rfl ?_
              refine ml_st (S' := (108, [(0, .ref p), (2, .int x2), (4, .int i4), (5, .int (i3 + 1))], [.int x2, .int (i3 + 1), .ref p], M)) rfl rfl rfl ?_
              refine ml_call (a := [.ref p, .int (i3 + 1), .int x2]) (rest := []) rfl (okc_v rfl rfl rfl hP.1) rfl rfl (ct_typeEnd hP ((res_in h0.1 h0.2.1 h2 hm c_64).1) (h2) (by omega)) (fun v9 M9 h9 => ?_)
              obtain ⟨⟨r1, rfl, e2⟩, hh3⟩ := h9
              rw [hh3]
              show ml _ _ _ (111, [(0, .ref p), (2, .int x2), (4, .int i4), (5, .int (i3 + 1))], [.int r1], M) _
              refine ml_st (S' := (112, [(0, .ref p), (2, .int x2), (4, .int i4), (5, .int (i3 + 1))], [.int x2, .int r1], M)) rfl rfl rfl ?_
              refine ml_if2 (S1 := (117, [(0, .ref p), (2, .int x2), (4, .int i4), (5, .int (i3 + 1))], [], M)) (S2 := (115, [(0, .ref p), (2, .int x2), (4, .int i4), (5, .int (i3 + 1))], [], M)) rfl rfl rfl (fun c_112 => ?_) (fun c_112 => ?_)
              · have c_112 : r1 = x2 := of_decide_eq_true c_112
                refine ml_st (S' := (120, [(0, .ref p), (2, .int x2), (4, .int i4), (5, .int (i3 + 1))], [.int 4096], M)) rfl rfl rfl ?_
                refine ml_st (S' := (123, [(0, .ref p), (2, .int x2), (4, .int i4), (5, .int (i3 + 1))], [.int 1024, .int 4096], M)) rfl rfl rfl ?_
                refine ml_st (S' := (124, [(0, .ref p), (2, .int x2), (4, .int i4), (5, .int (i3 + 1))], [.ref p, .int 1024, .int 4096], M)) rfl rfl rfl ?_
                refine mo_get (S' := (127, [(0, .ref p), (2, .int x2), (4, .int i4), (5, .int (i3 + 1))], [.ref (q 6), .int 1024, .int 4096], M)) rfl hP.1 rfl rfl ?_
                refine ml_st (S' := (129, [(0, .ref p), (2, .int x2), (4, .int i4), (5, .int (i3 + 1))], [.int (i3 + 1), .ref (q 6), .int 1024, .int 4096], M)) rfl rfl rfl ?_
                refine mo_ald (S' := (130, [(0, .ref p), (2, .int x2), (4, .int i4), (5, .int (i3 + 1))], [.int ((f 6) (Int32.toNatClampNeg (i3 + 1))), .int 1024, .int 4096], M)) rfl hP.2.2 ((res_in h0.1 h0.2.1 h2 hm c_64).2) rfl ?_
                refine ml_call (a := [.int ((f 6) (Int32.toNatClampNeg (i3 + 1)))]) (rest := [.int 1024, .int 4096]) rfl (rfl) rfl rfl (ct_placesOfType  (by omega)) (fun v4 M5 h6 => ?_)
                obtain ⟨rfl, h6⟩ := h6
                rw [h6]
                show ml _ _ _ (133, [(0, .ref p), (2, .int x2), (4, .int i4), (5, .int (i3 + 1))], [.int (if ((f 6) (Int32.toNatClampNeg (i3 + 1))) = 74 then 2 else if ((f 6) (Int32.toNatClampNeg (i3 + 1))) = 68 then 2 else 1), .int 1024, .int 4096], M) _
                refine ml_st (S' := (134, [(0, .ref p), (2, .int x2), (4, .int i4), (5, .int (i3 + 1))], [.int (1024 * (if ((f 6) (Int32.toNatClampNeg (i3 + 1))) = 74 then 2 else if ((f 6) (Int32.toNatClampNeg (i3 + 1))) = 68 then 2 else 1)), .int 4096], M)) rfl rfl rfl ?_
                refine ml_st (S' := (135, [(0, .ref p), (2, .int x2), (4, .int i4), (5, .int (i3 + 1))], [.int (4096 + (1024 * (if ((f 6) (Int32.toNatClampNeg (i3 + 1))) = 74 then 2 else if ((f 6) (Int32.toNatClampNeg (i3 + 1))) = 68 then 2 else 1)))], M)) rfl rfl rfl ?_
                refine ml_st (S' := (137, [(0, .ref p), (2, .int x2), (4, .int i4), (5, .int (i3 + 1))], [.int i4, .int (4096 + (1024 * (if ((f 6) (Int32.toNatClampNeg (i3 + 1))) = 74 then 2 else if ((f 6) (Int32.toNatClampNeg (i3 + 1))) = 68 then 2 else 1)))], M)) rfl rfl rfl ?_
                refine ml_st (S' := (138, [(0, .ref p), (2, .int x2), (4, .int i4), (5, .int (i3 + 1))], [.int ((4096 + (1024 * (if ((f 6) (Int32.toNatClampNeg (i3 + 1))) = 74 then 2 else if ((f 6) (Int32.toNatClampNeg (i3 + 1))) = 68 then 2 else 1))) + i4)], M)) rfl rfl rfl ?_
                exact ml_ret rfl (rfl) (⟨⟨_, rfl⟩, rfl⟩)
              · have c_112 : ¬ (r1 = x2) := of_decide_eq_false c_112
                refine ml_st (S' := (116, [(0, .ref p), (2, .int x2), (4, .int i4), (5, .int (i3 + 1))], [.int (-1)], M)) rfl rfl rfl ?_
                exact ml_ret rfl (rfl) (⟨⟨_, rfl⟩, rfl⟩)
            · have c_86 : ¬ (¬ ((f 6) (Int32.toNatClampNeg (i3 + 1))) = 86) := of_decide_eq_false c_86
              refine ml_st (S' := (91, [(5, .int (i3 + 1)), (0, .ref p), (2, .int x2), (3, .int i3), (4, .int i4)], [.int (i3 + 1)], M)) rfl rfl rfl ?_
              refine ml_st (S' := (92, [(5, .int (i3 + 1)), (0, .ref p), (2, .int x2), (3, .int i3), (4, .int i4)], [.int 1, .int (i3 + 1)], M)) rfl rfl rfl ?_
              refine ml_st (S' := (93, [(5, .int (i3 + 1)), (0, .ref p), (2, .int x2), (3, .int i3), (4, .int i4)], [.int ((i3 + 1) + 1)], M)) rfl rfl rfl ?_
              refine ml_st (S' := (94, [(5, .int (i3 + 1)), (0, .ref p), (2, .int x2), (3, .int i3), (4, .int i4)], [.int x2, .int ((i3 + 1) + 1)], M)) rfl rfl rfl ?_
              refine ml_if2 (S1 := (104, [(0, .ref p), (2, .int x2), (4, .int i4), (5, .int (i3 + 1))], [], M)) (S2 := (97, [(5, .int (i3 + 1)), (0, .ref p), (2, .int x2), (3, .int i3), (4, .int i4)], [], M)) rfl rfl rfl (fun c_94 => ?_) (fun c_94 => ?_)
              · have c_94 : ¬ ((i3 + 1) + 1) = x2 := of_decide_eq_true c_94
                refine ml_st (S' := (105, [(0, .ref p), (2, .int x2), (4, .int i4), (5, .int (i3 + 1))], [.ref p], M)) rfl rfl rfl ?_
                refine ml_st (S' := (107, [(0, .ref p), (2, .int x2), (4, .int i4), (5, .int (i3 + 1))], [.int (i3 + 1), .ref p], M)) rfl rfl rfl ?_
                refine ml_st (S' := (108, [(0, .ref p), (2, .int x2), (4, .int i4), (5, .int (i3 + 1))], [.int x2, .int (i3 + 1), .ref p], M)) rfl rfl rfl ?_
                refine ml_call (a := [.ref p, .int (i3 + 1), .int x2]) (rest := []) rfl (okc_v rfl rfl rfl hP.1) rfl rfl (ct_typeEnd hP ((res_in h0.1 h0.2.1 h2 hm c_64).1) (h2) (by omega)) (fun v9 M9 h9 => ?_)
                obtain ⟨⟨r7, rfl, e8⟩, hh9⟩ := h9
                rw [hh9]
                show ml _ _ _ (111, [(0, .ref p), (2, .int x2), (4, .int i4), (5, .int (i3 + 1))], [.int r7], M) _
                refine ml_st (S' := (112, [(0, .ref p), (2, .int x2), (4, .int i4), (5, .int (i3 + 1))], [.int x2, .int r7], M)) rfl rfl rfl ?_
                refine ml_if2 (S1 := (117, [(0, .ref p), (2, .int x2), (4, .int i4), (5, .int (i3 + 1))], [], M)) (S2 := (115, [(0, .ref p), (2, .int x2), (4, .int i4), (5, .int (i3 + 1))], [], M)) rfl rfl rfl (fun c_112 => ?_) (fun c_112 => ?_)
                · have c_112 : r7 = x2 := of_decide_eq_true c_112
                  refine ml_st (S' := (120, [(0, .ref p), (2, .int x2), (4, .int i4), (5, .int (i3 + 1))], [.int 4096], M)) rfl rfl rfl ?_
                  refine ml_st (S' := (123, [(0, .ref p), (2, .int x2), (4, .int i4), (5, .int (i3 + 1))], [.int 1024, .int 4096], M)) rfl rfl rfl ?_
                  refine ml_st (S' := (124, [(0, .ref p), (2, .int x2), (4, .int i4), (5, .int (i3 + 1))], [.ref p, .int 1024, .int 4096], M)) rfl rfl rfl ?_
                  refine mo_get (S' := (127, [(0, .ref p), (2, .int x2), (4, .int i4), (5, .int (i3 + 1))], [.ref (q 6), .int 1024, .int 4096], M)) rfl hP.1 rfl rfl ?_
                  refine ml_st (S' := (129, [(0, .ref p), (2, .int x2), (4, .int i4), (5, .int (i3 + 1))], [.int (i3 + 1), .ref (q 6), .int 1024, .int 4096], M)) rfl rfl rfl ?_
                  refine mo_ald (S' := (130, [(0, .ref p), (2, .int x2), (4, .int i4), (5, .int (i3 + 1))], [.int ((f 6) (Int32.toNatClampNeg (i3 + 1))), .int 1024, .int 4096], M)) rfl hP.2.2 ((res_in h0.1 h0.2.1 h2 hm c_64).2) rfl ?_
                  refine ml_call (a := [.int ((f 6) (Int32.toNatClampNeg (i3 + 1)))]) (rest := [.int 1024, .int 4096]) rfl (rfl) rfl rfl (ct_placesOfType  (by omega)) (fun v10 M11 h12 => ?_)
                  obtain ⟨rfl, h12⟩ := h12
                  rw [h12]
                  show ml _ _ _ (133, [(0, .ref p), (2, .int x2), (4, .int i4), (5, .int (i3 + 1))], [.int (if ((f 6) (Int32.toNatClampNeg (i3 + 1))) = 74 then 2 else if ((f 6) (Int32.toNatClampNeg (i3 + 1))) = 68 then 2 else 1), .int 1024, .int 4096], M) _
                  refine ml_st (S' := (134, [(0, .ref p), (2, .int x2), (4, .int i4), (5, .int (i3 + 1))], [.int (1024 * (if ((f 6) (Int32.toNatClampNeg (i3 + 1))) = 74 then 2 else if ((f 6) (Int32.toNatClampNeg (i3 + 1))) = 68 then 2 else 1)), .int 4096], M)) rfl rfl rfl ?_
                  refine ml_st (S' := (135, [(0, .ref p), (2, .int x2), (4, .int i4), (5, .int (i3 + 1))], [.int (4096 + (1024 * (if ((f 6) (Int32.toNatClampNeg (i3 + 1))) = 74 then 2 else if ((f 6) (Int32.toNatClampNeg (i3 + 1))) = 68 then 2 else 1)))], M)) rfl rfl rfl ?_
                  refine ml_st (S' := (137, [(0, .ref p), (2, .int x2), (4, .int i4), (5, .int (i3 + 1))], [.int i4, .int (4096 + (1024 * (if ((f 6) (Int32.toNatClampNeg (i3 + 1))) = 74 then 2 else if ((f 6) (Int32.toNatClampNeg (i3 + 1))) = 68 then 2 else 1)))], M)) rfl rfl rfl ?_
                  refine ml_st (S' := (138, [(0, .ref p), (2, .int x2), (4, .int i4), (5, .int (i3 + 1))], [.int ((4096 + (1024 * (if ((f 6) (Int32.toNatClampNeg (i3 + 1))) = 74 then 2 else if ((f 6) (Int32.toNatClampNeg (i3 + 1))) = 68 then 2 else 1))) + i4)], M)) rfl rfl rfl ?_
                  exact ml_ret rfl (rfl) (⟨⟨_, rfl⟩, rfl⟩)
                · have c_112 : ¬ (r7 = x2) := of_decide_eq_false c_112
                  refine ml_st (S' := (116, [(0, .ref p), (2, .int x2), (4, .int i4), (5, .int (i3 + 1))], [.int (-1)], M)) rfl rfl rfl ?_
                  exact ml_ret rfl (rfl) (⟨⟨_, rfl⟩, rfl⟩)
              · have c_94 : ¬ (¬ ((i3 + 1) + 1) = x2) := of_decide_eq_false c_94
                refine ml_st (S' := (100, [(5, .int (i3 + 1)), (0, .ref p), (2, .int x2), (3, .int i3), (4, .int i4)], [.int 4096], M)) rfl rfl rfl ?_
                refine ml_st (S' := (102, [(5, .int (i3 + 1)), (0, .ref p), (2, .int x2), (3, .int i3), (4, .int i4)], [.int i4, .int 4096], M)) rfl rfl rfl ?_
                refine ml_st (S' := (103, [(5, .int (i3 + 1)), (0, .ref p), (2, .int x2), (3, .int i3), (4, .int i4)], [.int (4096 + i4)], M)) rfl rfl rfl ?_
                exact ml_ret rfl (rfl) (⟨⟨_, rfl⟩, rfl⟩)
          · have c_72 : ¬ (i4 ≤ 255) := of_decide_eq_false c_72
            refine ml_st (S' := (76, [], [.int (-1)], M)) rfl rfl rfl ?_
            exact ml_ret rfl (rfl) (⟨⟨_, rfl⟩, rfl⟩)
      · have c_10 : ¬ (255 < i4) := of_decide_eq_false c_10
        refine ml_st (S' := (14, [(0, .ref p), (2, .int x2), (3, .int i3), (4, .int i4)], [.int i3], M)) rfl rfl rfl ?_
        refine ml_st (S' := (15, [(0, .ref p), (2, .int x2), (3, .int i3), (4, .int i4)], [.int x2, .int i3], M)) rfl rfl rfl ?_
        refine ml_if2 (S1 := (56, [(0, .ref p), (2, .int x2), (3, .int i3), (4, .int i4)], [], M)) (S2 := (18, [(0, .ref p), (2, .int x2), (3, .int i3), (4, .int i4)], [], M)) rfl rfl rfl (fun c_15 => ?_) (fun c_15 => ?_)
        · have c_15 : x2 ≤ i3 := of_decide_eq_true c_15
          refine ml_st (S' := (57, [(0, .ref p), (2, .int x2), (3, .int i3), (4, .int i4)], [.int i3], M)) rfl rfl rfl ?_
          refine ml_st (S' := (58, [(0, .ref p), (2, .int x2), (3, .int i3), (4, .int i4)], [.int 1, .int i3], M)) rfl rfl rfl ?_
          refine ml_st (S' := (59, [(0, .ref p), (2, .int x2), (3, .int i3), (4, .int i4)], [.int (i3 + 1)], M)) rfl rfl rfl ?_
          refine ml_st (S' := (61, [(5, .int (i3 + 1)), (0, .ref p), (2, .int x2), (3, .int i3), (4, .int i4)], [], M)) rfl rfl rfl ?_
          refine ml_st (S' := (63, [(5, .int (i3 + 1)), (0, .ref p), (2, .int x2), (3, .int i3), (4, .int i4)], [.int (i3 + 1)], M)) rfl rfl rfl ?_
          refine ml_st (S' := (64, [(5, .int (i3 + 1)), (0, .ref p), (2, .int x2), (3, .int i3), (4, .int i4)], [.int x2, .int (i3 + 1)], M)) rfl rfl rfl ?_
          refine ml_if2 (S1 := (75, [], [], M)) (S2 := (67, [(5, .int (i3 + 1)), (0, .ref p), (2, .int x2), (3, .int i3), (4, .int i4)], [], M)) rfl rfl rfl (fun c_64 => ?_) (fun c_64 => ?_)
          · have c_64 : x2 ≤ (i3 + 1) := of_decide_eq_true c_64
            refine ml_st (S' := (76, [], [.int (-1)], M)) rfl rfl rfl ?_
            exact ml_ret rfl (rfl) (⟨⟨_, rfl⟩, rfl⟩)
          · have c_64 : ¬ (x2 ≤ (i3 + 1)) := of_decide_eq_false c_64
            refine ml_st (S' := (69, [(5, .int (i3 + 1)), (0, .ref p), (2, .int x2), (3, .int i3), (4, .int i4)], [.int i4], M)) rfl rfl rfl ?_
            refine ml_st (S' := (72, [(5, .int (i3 + 1)), (0, .ref p), (2, .int x2), (3, .int i3), (4, .int i4)], [.int 255, .int i4], M)) rfl rfl rfl ?_
            refine ml_if2 (S1 := (77, [(5, .int (i3 + 1)), (0, .ref p), (2, .int x2), (3, .int i3), (4, .int i4)], [], M)) (S2 := (75, [], [], M)) rfl rfl rfl (fun c_72 => ?_) (fun c_72 => ?_)
            · have c_72 : i4 ≤ 255 := of_decide_eq_true c_72
              refine ml_st (S' := (78, [(5, .int (i3 + 1)), (0, .ref p), (2, .int x2), (3, .int i3), (4, .int i4)], [.ref p], M)) rfl rfl rfl ?_
              refine mo_get (S' := (81, [(5, .int (i3 + 1)), (0, .ref p), (2, .int x2), (3, .int i3), (4, .int i4)], [.ref (q 6)], M)) rfl hP.1 rfl rfl ?_
              refine ml_st (S' := (83, [(5, .int (i3 + 1)), (0, .ref p), (2, .int x2), (3, .int i3), (4, .int i4)], [.int (i3 + 1), .ref (q 6)], M)) rfl rfl rfl ?_
              refine mo_ald (S' := (84, [(5, .int (i3 + 1)), (0, .ref p), (2, .int x2), (3, .int i3), (4, .int i4)], [.int ((f 6) (Int32.toNatClampNeg (i3 + 1)))], M)) rfl hP.2.2 ((res_in h0.1 h0.2.1 h2 hm c_64).2) rfl ?_
              refine ml_st (S' := (86, [(5, .int (i3 + 1)), (0, .ref p), (2, .int x2), (3, .int i3), (4, .int i4)], [.int 86, .int ((f 6) (Int32.toNatClampNeg (i3 + 1)))], M)) rfl rfl rfl ?_
              refine ml_if2 (S1 := (104, [(0, .ref p), (2, .int x2), (4, .int i4), (5, .int (i3 + 1))], [], M)) (S2 := (89, [(5, .int (i3 + 1)), (0, .ref p), (2, .int x2), (3, .int i3), (4, .int i4)], [], M)) rfl rfl rfl (fun c_86 => ?_) (fun c_86 => ?_)
              · have c_86 : ¬ ((f 6) (Int32.toNatClampNeg (i3 + 1))) = 86 := of_decide_eq_true c_86
                refine ml_st (S' := (105, [(0, .ref p), (2, .int x2), (4, .int i4), (5, .int (i3 + 1))], [.ref p], M)) rfl rfl rfl ?_
                refine ml_st (S' := (107, [(0, .ref p), (2, .int x2), (4, .int i4), (5, .int (i3 + 1))], [.int (i3 + 1), .ref p], M)) rfl rfl rfl ?_
                refine ml_st (S' := (108, [(0, .ref p), (2, .int x2), (4, .int i4), (5, .int (i3 + 1))], [.int x2, .int (i3 + 1), .ref p], M)) rfl rfl rfl ?_
                refine ml_call (a := [.ref p, .int (i3 + 1), .int x2]) (rest := []) rfl (okc_v rfl rfl rfl hP.1) rfl rfl (ct_typeEnd hP ((res_in h0.1 h0.2.1 h2 hm c_64).1) (h2) (by omega)) (fun v9 M9 h9 => ?_)
                obtain ⟨⟨r13, rfl, e14⟩, hh15⟩ := h9
                rw [hh15]
                show ml _ _ _ (111, [(0, .ref p), (2, .int x2), (4, .int i4), (5, .int (i3 + 1))], [.int r13], M) _
                refine ml_st (S' := (112, [(0, .ref p), (2, .int x2), (4, .int i4), (5, .int (i3 + 1))], [.int x2, .int r13], M)) rfl rfl rfl ?_
                refine ml_if2 (S1 := (117, [(0, .ref p), (2, .int x2), (4, .int i4), (5, .int (i3 + 1))], [], M)) (S2 := (115, [(0, .ref p), (2, .int x2), (4, .int i4), (5, .int (i3 + 1))], [], M)) rfl rfl rfl (fun c_112 => ?_) (fun c_112 => ?_)
                · have c_112 : r13 = x2 := of_decide_eq_true c_112
                  refine ml_st (S' := (120, [(0, .ref p), (2, .int x2), (4, .int i4), (5, .int (i3 + 1))], [.int 4096], M)) rfl rfl rfl ?_
                  refine ml_st (S' := (123, [(0, .ref p), (2, .int x2), (4, .int i4), (5, .int (i3 + 1))], [.int 1024, .int 4096], M)) rfl rfl rfl ?_
                  refine ml_st (S' := (124, [(0, .ref p), (2, .int x2), (4, .int i4), (5, .int (i3 + 1))], [.ref p, .int 1024, .int 4096], M)) rfl rfl rfl ?_
                  refine mo_get (S' := (127, [(0, .ref p), (2, .int x2), (4, .int i4), (5, .int (i3 + 1))], [.ref (q 6), .int 1024, .int 4096], M)) rfl hP.1 rfl rfl ?_
                  refine ml_st (S' := (129, [(0, .ref p), (2, .int x2), (4, .int i4), (5, .int (i3 + 1))], [.int (i3 + 1), .ref (q 6), .int 1024, .int 4096], M)) rfl rfl rfl ?_
                  refine mo_ald (S' := (130, [(0, .ref p), (2, .int x2), (4, .int i4), (5, .int (i3 + 1))], [.int ((f 6) (Int32.toNatClampNeg (i3 + 1))), .int 1024, .int 4096], M)) rfl hP.2.2 ((res_in h0.1 h0.2.1 h2 hm c_64).2) rfl ?_
                  refine ml_call (a := [.int ((f 6) (Int32.toNatClampNeg (i3 + 1)))]) (rest := [.int 1024, .int 4096]) rfl (rfl) rfl rfl (ct_placesOfType  (by omega)) (fun v16 M17 h18 => ?_)
                  obtain ⟨rfl, h18⟩ := h18
                  rw [h18]
                  show ml _ _ _ (133, [(0, .ref p), (2, .int x2), (4, .int i4), (5, .int (i3 + 1))], [.int (if ((f 6) (Int32.toNatClampNeg (i3 + 1))) = 74 then 2 else if ((f 6) (Int32.toNatClampNeg (i3 + 1))) = 68 then 2 else 1), .int 1024, .int 4096], M) _
                  refine ml_st (S' := (134, [(0, .ref p), (2, .int x2), (4, .int i4), (5, .int (i3 + 1))], [.int (1024 * (if ((f 6) (Int32.toNatClampNeg (i3 + 1))) = 74 then 2 else if ((f 6) (Int32.toNatClampNeg (i3 + 1))) = 68 then 2 else 1)), .int 4096], M)) rfl rfl rfl ?_
                  refine ml_st (S' := (135, [(0, .ref p), (2, .int x2), (4, .int i4), (5, .int (i3 + 1))], [.int (4096 + (1024 * (if ((f 6) (Int32.toNatClampNeg (i3 + 1))) = 74 then 2 else if ((f 6) (Int32.toNatClampNeg (i3 + 1))) = 68 then 2 else 1)))], M)) rfl rfl rfl ?_
                  refine ml_st (S' := (137, [(0, .ref p), (2, .int x2), (4, .int i4), (5, .int (i3 + 1))], [.int i4, .int (4096 + (1024 * (if ((f 6) (Int32.toNatClampNeg (i3 + 1))) = 74 then 2 else if ((f 6) (Int32.toNatClampNeg (i3 + 1))) = 68 then 2 else 1)))], M)) rfl rfl rfl ?_
                  refine ml_st (S' := (138, [(0, .ref p), (2, .int x2), (4, .int i4), (5, .int (i3 + 1))], [.int ((4096 + (1024 * (if ((f 6) (Int32.toNatClampNeg (i3 + 1))) = 74 then 2 else if ((f 6) (Int32.toNatClampNeg (i3 + 1))) = 68 then 2 else 1))) + i4)], M)) rfl rfl rfl ?_
                  exact ml_ret rfl (rfl) (⟨⟨_, rfl⟩, rfl⟩)
                · have c_112 : ¬ (r13 = x2) := of_decide_eq_false c_112
                  refine ml_st (S' := (116, [(0, .ref p), (2, .int x2), (4, .int i4), (5, .int (i3 + 1))], [.int (-1)], M)) rfl rfl rfl ?_
                  exact ml_ret rfl (rfl) (⟨⟨_, rfl⟩, rfl⟩)
              · have c_86 : ¬ (¬ ((f 6) (Int32.toNatClampNeg (i3 + 1))) = 86) := of_decide_eq_false c_86
                refine ml_st (S' := (91, [(5, .int (i3 + 1)), (0, .ref p), (2, .int x2), (3, .int i3), (4, .int i4)], [.int (i3 + 1)], M)) rfl rfl rfl ?_
                refine ml_st (S' := (92, [(5, .int (i3 + 1)), (0, .ref p), (2, .int x2), (3, .int i3), (4, .int i4)], [.int 1, .int (i3 + 1)], M)) rfl rfl rfl ?_
                refine ml_st (S' := (93, [(5, .int (i3 + 1)), (0, .ref p), (2, .int x2), (3, .int i3), (4, .int i4)], [.int ((i3 + 1) + 1)], M)) rfl rfl rfl ?_
                refine ml_st (S' := (94, [(5, .int (i3 + 1)), (0, .ref p), (2, .int x2), (3, .int i3), (4, .int i4)], [.int x2, .int ((i3 + 1) + 1)], M)) rfl rfl rfl ?_
                refine ml_if2 (S1 := (104, [(0, .ref p), (2, .int x2), (4, .int i4), (5, .int (i3 + 1))], [], M)) (S2 := (97, [(5, .int (i3 + 1)), (0, .ref p), (2, .int x2), (3, .int i3), (4, .int i4)], [], M)) rfl rfl rfl (fun c_94 => ?_) (fun c_94 => ?_)
                · have c_94 : ¬ ((i3 + 1) + 1) = x2 := of_decide_eq_true c_94
                  refine ml_st (S' := (105, [(0, .ref p), (2, .int x2), (4, .int i4), (5, .int (i3 + 1))], [.ref p], M)) rfl rfl rfl ?_
                  refine ml_st (S' := (107, [(0, .ref p), (2, .int x2), (4, .int i4), (5, .int (i3 + 1))], [.int (i3 + 1), .ref p], M)) rfl rfl rfl ?_
                  refine ml_st (S' := (108, [(0, .ref p), (2, .int x2), (4, .int i4), (5, .int (i3 + 1))], [.int x2, .int (i3 + 1), .ref p], M)) rfl rfl rfl ?_
                  refine ml_call (a := [.ref p, .int (i3 + 1), .int x2]) (rest := []) rfl (okc_v rfl rfl rfl hP.1) rfl rfl (ct_typeEnd hP ((res_in h0.1 h0.2.1 h2 hm c_64).1) (h2) (by omega)) (fun v9 M9 h9 => ?_)
                  obtain ⟨⟨r19, rfl, e20⟩, hh21⟩ := h9
                  rw [hh21]
                  show ml _ _ _ (111, [(0, .ref p), (2, .int x2), (4, .int i4), (5, .int (i3 + 1))], [.int r19], M) _
                  refine ml_st (S' := (112, [(0, .ref p), (2, .int x2), (4, .int i4), (5, .int (i3 + 1))], [.int x2, .int r19], M)) rfl rfl rfl ?_
                  refine ml_if2 (S1 := (117, [(0, .ref p), (2, .int x2), (4, .int i4), (5, .int (i3 + 1))], [], M)) (S2 := (115, [(0, .ref p), (2, .int x2), (4, .int i4), (5, .int (i3 + 1))], [], M)) rfl rfl rfl (fun c_112 => ?_) (fun c_112 => ?_)
                  · have c_112 : r19 = x2 := of_decide_eq_true c_112
                    refine ml_st (S' := (120, [(0, .ref p), (2, .int x2), (4, .int i4), (5, .int (i3 + 1))], [.int 4096], M)) rfl rfl rfl ?_
                    refine ml_st (S' := (123, [(0, .ref p), (2, .int x2), (4, .int i4), (5, .int (i3 + 1))], [.int 1024, .int 4096], M)) rfl rfl rfl ?_
                    refine ml_st (S' := (124, [(0, .ref p), (2, .int x2), (4, .int i4), (5, .int (i3 + 1))], [.ref p, .int 1024, .int 4096], M)) rfl rfl rfl ?_
                    refine mo_get (S' := (127, [(0, .ref p), (2, .int x2), (4, .int i4), (5, .int (i3 + 1))], [.ref (q 6), .int 1024, .int 4096], M)) rfl hP.1 rfl rfl ?_
                    refine ml_st (S' := (129, [(0, .ref p), (2, .int x2), (4, .int i4), (5, .int (i3 + 1))], [.int (i3 + 1), .ref (q 6), .int 1024, .int 4096], M)) rfl rfl rfl ?_
                    refine mo_ald (S' := (130, [(0, .ref p), (2, .int x2), (4, .int i4), (5, .int (i3 + 1))], [.int ((f 6) (Int32.toNatClampNeg (i3 + 1))), .int 1024, .int 4096], M)) rfl hP.2.2 ((res_in h0.1 h0.2.1 h2 hm c_64).2) rfl ?_
                    refine ml_call (a := [.int ((f 6) (Int32.toNatClampNeg (i3 + 1)))]) (rest := [.int 1024, .int 4096]) rfl (rfl) rfl rfl (ct_placesOfType  (by omega)) (fun v22 M23 h24 => ?_)
                    obtain ⟨rfl, h24⟩ := h24
                    rw [h24]
                    show ml _ _ _ (133, [(0, .ref p), (2, .int x2), (4, .int i4), (5, .int (i3 + 1))], [.int (if ((f 6) (Int32.toNatClampNeg (i3 + 1))) = 74 then 2 else if ((f 6) (Int32.toNatClampNeg (i3 + 1))) = 68 then 2 else 1), .int 1024, .int 4096], M) _
                    refine ml_st (S' := (134, [(0, .ref p), (2, .int x2), (4, .int i4), (5, .int (i3 + 1))], [.int (1024 * (if ((f 6) (Int32.toNatClampNeg (i3 + 1))) = 74 then 2 else if ((f 6) (Int32.toNatClampNeg (i3 + 1))) = 68 then 2 else 1)), .int 4096], M)) rfl rfl rfl ?_
                    refine ml_st (S' := (135, [(0, .ref p), (2, .int x2), (4, .int i4), (5, .int (i3 + 1))], [.int (4096 + (1024 * (if ((f 6) (Int32.toNatClampNeg (i3 + 1))) = 74 then 2 else if ((f 6) (Int32.toNatClampNeg (i3 + 1))) = 68 then 2 else 1)))], M)) rfl rfl rfl ?_
                    refine ml_st (S' := (137, [(0, .ref p), (2, .int x2), (4, .int i4), (5, .int (i3 + 1))], [.int i4, .int (4096 + (1024 * (if ((f 6) (Int32.toNatClampNeg (i3 + 1))) = 74 then 2 else if ((f 6) (Int32.toNatClampNeg (i3 + 1))) = 68 then 2 else 1)))], M)) rfl rfl rfl ?_
                    refine ml_st (S' := (138, [(0, .ref p), (2, .int x2), (4, .int i4), (5, .int (i3 + 1))], [.int ((4096 + (1024 * (if ((f 6) (Int32.toNatClampNeg (i3 + 1))) = 74 then 2 else if ((f 6) (Int32.toNatClampNeg (i3 + 1))) = 68 then 2 else 1))) + i4)], M)) rfl rfl rfl ?_
                    exact ml_ret rfl (rfl) (⟨⟨_, rfl⟩, rfl⟩)
                  · have c_112 : ¬ (r19 = x2) := of_decide_eq_false c_112
                    refine ml_st (S' := (116, [(0, .ref p), (2, .int x2), (4, .int i4), (5, .int (i3 + 1))], [.int (-1)], M)) rfl rfl rfl ?_
                    exact ml_ret rfl (rfl) (⟨⟨_, rfl⟩, rfl⟩)
                · have c_94 : ¬ (¬ ((i3 + 1) + 1) = x2) := of_decide_eq_false c_94
                  refine ml_st (S' := (100, [(5, .int (i3 + 1)), (0, .ref p), (2, .int x2), (3, .int i3), (4, .int i4)], [.int 4096], M)) rfl rfl rfl ?_
                  refine ml_st (S' := (102, [(5, .int (i3 + 1)), (0, .ref p), (2, .int x2), (3, .int i3), (4, .int i4)], [.int i4, .int 4096], M)) rfl rfl rfl ?_
                  refine ml_st (S' := (103, [(5, .int (i3 + 1)), (0, .ref p), (2, .int x2), (3, .int i3), (4, .int i4)], [.int (4096 + i4)], M)) rfl rfl rfl ?_
                  exact ml_ret rfl (rfl) (⟨⟨_, rfl⟩, rfl⟩)
            · have c_72 : ¬ (i4 ≤ 255) := of_decide_eq_false c_72
              refine ml_st (S' := (76, [], [.int (-1)], M)) rfl rfl rfl ?_
              exact ml_ret rfl (rfl) (⟨⟨_, rfl⟩, rfl⟩)
        · have c_15 : ¬ (x2 ≤ i3) := of_decide_eq_false c_15
          refine ml_st (S' := (19, [(0, .ref p), (2, .int x2), (3, .int i3), (4, .int i4)], [.ref p], M)) rfl rfl rfl ?_
          refine mo_get (S' := (22, [(0, .ref p), (2, .int x2), (3, .int i3), (4, .int i4)], [.ref (q 6)], M)) rfl hP.1 rfl rfl ?_
          refine ml_st (S' := (23, [(0, .ref p), (2, .int x2), (3, .int i3), (4, .int i4)], [.int i3, .ref (q 6)], M)) rfl rfl rfl ?_
          refine mo_ald (S' := (24, [(0, .ref p), (2, .int x2), (3, .int i3), (4, .int i4)], [.int ((f 6) (Int32.toNatClampNeg i3))], M)) rfl hP.2.2 (vin_end h0.1 c_15 h2) rfl ?_
          refine ml_st (S' := (26, [(0, .ref p), (2, .int x2), (3, .int i3), (4, .int i4)], [.int 41, .int ((f 6) (Int32.toNatClampNeg i3))], M)) rfl rfl rfl ?_
          refine ml_if2 (S1 := (56, [(0, .ref p), (2, .int x2), (3, .int i3), (4, .int i4)], [], M)) (S2 := (29, [(0, .ref p), (2, .int x2), (3, .int i3), (4, .int i4)], [], M)) rfl rfl rfl (fun c_26 => ?_) (fun c_26 => ?_)
          · have c_26 : ((f 6) (Int32.toNatClampNeg i3)) = 41 := of_decide_eq_true c_26
            refine ml_st (S' := (57, [(0, .ref p), (2, .int x2), (3, .int i3), (4, .int i4)], [.int i3], M)) rfl rfl rfl ?_
            refine ml_st (S' := (58, [(0, .ref p), (2, .int x2), (3, .int i3), (4, .int i4)], [.int 1, .int i3], M)) rfl rfl rfl ?_
            refine ml_st (S' := (59, [(0, .ref p), (2, .int x2), (3, .int i3), (4, .int i4)], [.int (i3 + 1)], M)) rfl rfl rfl ?_
            refine ml_st (S' := (61, [(5, .int (i3 + 1)), (0, .ref p), (2, .int x2), (3, .int i3), (4, .int i4)], [], M)) rfl rfl rfl ?_
            refine ml_st (S' := (63, [(5, .int (i3 + 1)), (0, .ref p), (2, .int x2), (3, .int i3), (4, .int i4)], [.int (i3 + 1)], M)) rfl rfl rfl ?_
            refine ml_st (S' := (64, [(5, .int (i3 + 1)), (0, .ref p), (2, .int x2), (3, .int i3), (4, .int i4)], [.int x2, .int (i3 + 1)], M)) rfl rfl rfl ?_
            refine ml_if2 (S1 := (75, [], [], M)) (S2 := (67, [(5, .int (i3 + 1)), (0, .ref p), (2, .int x2), (3, .int i3), (4, .int i4)], [], M)) rfl rfl rfl (fun c_64 => ?_) (fun c_64 => ?_)
            · have c_64 : x2 ≤ (i3 + 1) := of_decide_eq_true c_64
              refine ml_st (S' := (76, [], [.int (-1)], M)) rfl rfl rfl ?_
              exact ml_ret rfl (rfl) (⟨⟨_, rfl⟩, rfl⟩)
            · have c_64 : ¬ (x2 ≤ (i3 + 1)) := of_decide_eq_false c_64
              refine ml_st (S' := (69, [(5, .int (i3 + 1)), (0, .ref p), (2, .int x2), (3, .int i3), (4, .int i4)], [.int i4], M)) rfl rfl rfl ?_
              refine ml_st (S' := (72, [(5, .int (i3 + 1)), (0, .ref p), (2, .int x2), (3, .int i3), (4, .int i4)], [.int 255, .int i4], M)) rfl rfl rfl ?_
              refine ml_if2 (S1 := (77, [(5, .int (i3 + 1)), (0, .ref p), (2, .int x2), (3, .int i3), (4, .int i4)], [], M)) (S2 := (75, [], [], M)) rfl rfl rfl (fun c_72 => ?_) (fun c_72 => ?_)
              · have c_72 : i4 ≤ 255 := of_decide_eq_true c_72
                refine ml_st (S' := (78, [(5, .int (i3 + 1)), (0, .ref p), (2, .int x2), (3, .int i3), (4, .int i4)], [.ref p], M)) rfl rfl rfl ?_
                refine mo_get (S' := (81, [(5, .int (i3 + 1)), (0, .ref p), (2, .int x2), (3, .int i3), (4, .int i4)], [.ref (q 6)], M)) rfl hP.1 rfl rfl ?_
                refine ml_st (S' := (83, [(5, .int (i3 + 1)), (0, .ref p), (2, .int x2), (3, .int i3), (4, .int i4)], [.int (i3 + 1), .ref (q 6)], M)) rfl rfl rfl ?_
                refine mo_ald (S' := (84, [(5, .int (i3 + 1)), (0, .ref p), (2, .int x2), (3, .int i3), (4, .int i4)], [.int ((f 6) (Int32.toNatClampNeg (i3 + 1)))], M)) rfl hP.2.2 ((res_in h0.1 h0.2.1 h2 hm c_64).2) rfl ?_
                refine ml_st (S' := (86, [(5, .int (i3 + 1)), (0, .ref p), (2, .int x2), (3, .int i3), (4, .int i4)], [.int 86, .int ((f 6) (Int32.toNatClampNeg (i3 + 1)))], M)) rfl rfl rfl ?_
                refine ml_if2 (S1 := (104, [(0, .ref p), (2, .int x2), (4, .int i4), (5, .int (i3 + 1))], [], M)) (S2 := (89, [(5, .int (i3 + 1)), (0, .ref p), (2, .int x2), (3, .int i3), (4, .int i4)], [], M)) rfl rfl rfl (fun c_86 => ?_) (fun c_86 => ?_)
                · have c_86 : ¬ ((f 6) (Int32.toNatClampNeg (i3 + 1))) = 86 := of_decide_eq_true c_86
                  refine ml_st (S' := (105, [(0, .ref p), (2, .int x2), (4, .int i4), (5, .int (i3 + 1))], [.ref p], M)) rfl rfl rfl ?_
                  refine ml_st (S' := (107, [(0, .ref p), (2, .int x2), (4, .int i4), (5, .int (i3 + 1))], [.int (i3 + 1), .ref p], M)) rfl rfl rfl ?_
                  refine ml_st (S' := (108, [(0, .ref p), (2, .int x2), (4, .int i4), (5, .int (i3 + 1))], [.int x2, .int (i3 + 1), .ref p], M)) rfl rfl rfl ?_
                  refine ml_call (a := [.ref p, .int (i3 + 1), .int x2]) (rest := []) rfl (okc_v rfl rfl rfl hP.1) rfl rfl (ct_typeEnd hP ((res_in h0.1 h0.2.1 h2 hm c_64).1) (h2) (by omega)) (fun v9 M9 h9 => ?_)
                  obtain ⟨⟨r25, rfl, e26⟩, hh27⟩ := h9
                  rw [hh27]
                  show ml _ _ _ (111, [(0, .ref p), (2, .int x2), (4, .int i4), (5, .int (i3 + 1))], [.int r25], M) _
                  refine ml_st (S' := (112, [(0, .ref p), (2, .int x2), (4, .int i4), (5, .int (i3 + 1))], [.int x2, .int r25], M)) rfl rfl rfl ?_
                  refine ml_if2 (S1 := (117, [(0, .ref p), (2, .int x2), (4, .int i4), (5, .int (i3 + 1))], [], M)) (S2 := (115, [(0, .ref p), (2, .int x2), (4, .int i4), (5, .int (i3 + 1))], [], M)) rfl rfl rfl (fun c_112 => ?_) (fun c_112 => ?_)
                  · have c_112 : r25 = x2 := of_decide_eq_true c_112
                    refine ml_st (S' := (120, [(0, .ref p), (2, .int x2), (4, .int i4), (5, .int (i3 + 1))], [.int 4096], M)) rfl rfl rfl ?_
                    refine ml_st (S' := (123, [(0, .ref p), (2, .int x2), (4, .int i4), (5, .int (i3 + 1))], [.int 1024, .int 4096], M)) rfl rfl rfl ?_
                    refine ml_st (S' := (124, [(0, .ref p), (2, .int x2), (4, .int i4), (5, .int (i3 + 1))], [.ref p, .int 1024, .int 4096], M)) rfl rfl rfl ?_
                    refine mo_get (S' := (127, [(0, .ref p), (2, .int x2), (4, .int i4), (5, .int (i3 + 1))], [.ref (q 6), .int 1024, .int 4096], M)) rfl hP.1 rfl rfl ?_
                    refine ml_st (S' := (129, [(0, .ref p), (2, .int x2), (4, .int i4), (5, .int (i3 + 1))], [.int (i3 + 1), .ref (q 6), .int 1024, .int 4096], M)) rfl rfl rfl ?_
                    refine mo_ald (S' := (130, [(0, .ref p), (2, .int x2), (4, .int i4), (5, .int (i3 + 1))], [.int ((f 6) (Int32.toNatClampNeg (i3 + 1))), .int 1024, .int 4096], M)) rfl hP.2.2 ((res_in h0.1 h0.2.1 h2 hm c_64).2) rfl ?_
                    refine ml_call (a := [.int ((f 6) (Int32.toNatClampNeg (i3 + 1)))]) (rest := [.int 1024, .int 4096]) rfl (rfl) rfl rfl (ct_placesOfType  (by omega)) (fun v28 M29 h30 => ?_)
                    obtain ⟨rfl, h30⟩ := h30
                    rw [h30]
                    show ml _ _ _ (133, [(0, .ref p), (2, .int x2), (4, .int i4), (5, .int (i3 + 1))], [.int (if ((f 6) (Int32.toNatClampNeg (i3 + 1))) = 74 then 2 else if ((f 6) (Int32.toNatClampNeg (i3 + 1))) = 68 then 2 else 1), .int 1024, .int 4096], M) _
                    refine ml_st (S' := (134, [(0, .ref p), (2, .int x2), (4, .int i4), (5, .int (i3 + 1))], [.int (1024 * (if ((f 6) (Int32.toNatClampNeg (i3 + 1))) = 74 then 2 else if ((f 6) (Int32.toNatClampNeg (i3 + 1))) = 68 then 2 else 1)), .int 4096], M)) rfl rfl rfl ?_
                    refine ml_st (S' := (135, [(0, .ref p), (2, .int x2), (4, .int i4), (5, .int (i3 + 1))], [.int (4096 + (1024 * (if ((f 6) (Int32.toNatClampNeg (i3 + 1))) = 74 then 2 else if ((f 6) (Int32.toNatClampNeg (i3 + 1))) = 68 then 2 else 1)))], M)) rfl rfl rfl ?_
                    refine ml_st (S' := (137, [(0, .ref p), (2, .int x2), (4, .int i4), (5, .int (i3 + 1))], [.int i4, .int (4096 + (1024 * (if ((f 6) (Int32.toNatClampNeg (i3 + 1))) = 74 then 2 else if ((f 6) (Int32.toNatClampNeg (i3 + 1))) = 68 then 2 else 1)))], M)) rfl rfl rfl ?_
                    refine ml_st (S' := (138, [(0, .ref p), (2, .int x2), (4, .int i4), (5, .int (i3 + 1))], [.int ((4096 + (1024 * (if ((f 6) (Int32.toNatClampNeg (i3 + 1))) = 74 then 2 else if ((f 6) (Int32.toNatClampNeg (i3 + 1))) = 68 then 2 else 1))) + i4)], M)) rfl rfl rfl ?_
                    exact ml_ret rfl (rfl) (⟨⟨_, rfl⟩, rfl⟩)
                  · have c_112 : ¬ (r25 = x2) := of_decide_eq_false c_112
                    refine ml_st (S' := (116, [(0, .ref p), (2, .int x2), (4, .int i4), (5, .int (i3 + 1))], [.int (-1)], M)) rfl rfl rfl ?_
                    exact ml_ret rfl (rfl) (⟨⟨_, rfl⟩, rfl⟩)
                · have c_86 : ¬ (¬ ((f 6) (Int32.toNatClampNeg (i3 + 1))) = 86) := of_decide_eq_false c_86
                  refine ml_st (S' := (91, [(5, .int (i3 + 1)), (0, .ref p), (2, .int x2), (3, .int i3), (4, .int i4)], [.int (i3 + 1)], M)) rfl rfl rfl ?_
                  refine ml_st (S' := (92, [(5, .int (i3 + 1)), (0, .ref p), (2, .int x2), (3, .int i3), (4, .int i4)], [.int 1, .int (i3 + 1)], M)) rfl rfl rfl ?_
                  refine ml_st (S' := (93, [(5, .int (i3 + 1)), (0, .ref p), (2, .int x2), (3, .int i3), (4, .int i4)], [.int ((i3 + 1) + 1)], M)) rfl rfl rfl ?_
                  refine ml_st (S' := (94, [(5, .int (i3 + 1)), (0, .ref p), (2, .int x2), (3, .int i3), (4, .int i4)], [.int x2, .int ((i3 + 1) + 1)], M)) rfl rfl rfl ?_
                  refine ml_if2 (S1 := (104, [(0, .ref p), (2, .int x2), (4, .int i4), (5, .int (i3 + 1))], [], M)) (S2 := (97, [(5, .int (i3 + 1)), (0, .ref p), (2, .int x2), (3, .int i3), (4, .int i4)], [], M)) rfl rfl rfl (fun c_94 => ?_) (fun c_94 => ?_)
                  · have c_94 : ¬ ((i3 + 1) + 1) = x2 := of_decide_eq_true c_94
                    refine ml_st (S' := (105, [(0, .ref p), (2, .int x2), (4, .int i4), (5, .int (i3 + 1))], [.ref p], M)) rfl rfl rfl ?_
                    refine ml_st (S' := (107, [(0, .ref p), (2, .int x2), (4, .int i4), (5, .int (i3 + 1))], [.int (i3 + 1), .ref p], M)) rfl rfl rfl ?_
                    refine ml_st (S' := (108, [(0, .ref p), (2, .int x2), (4, .int i4), (5, .int (i3 + 1))], [.int x2, .int (i3 + 1), .ref p], M)) rfl rfl rfl ?_
                    refine ml_call (a := [.ref p, .int (i3 + 1), .int x2]) (rest := []) rfl (okc_v rfl rfl rfl hP.1) rfl rfl (ct_typeEnd hP ((res_in h0.1 h0.2.1 h2 hm c_64).1) (h2) (by omega)) (fun v9 M9 h9 => ?_)
                    obtain ⟨⟨r31, rfl, e32⟩, hh33⟩ := h9
                    rw [hh33]
                    show ml _ _ _ (111, [(0, .ref p), (2, .int x2), (4, .int i4), (5, .int (i3 + 1))], [.int r31], M) _
                    refine ml_st (S' := (112, [(0, .ref p), (2, .int x2), (4, .int i4), (5, .int (i3 + 1))], [.int x2, .int r31], M)) rfl rfl rfl ?_
                    refine ml_if2 (S1 := (117, [(0, .ref p), (2, .int x2), (4, .int i4), (5, .int (i3 + 1))], [], M)) (S2 := (115, [(0, .ref p), (2, .int x2), (4, .int i4), (5, .int (i3 + 1))], [], M)) rfl rfl rfl (fun c_112 => ?_) (fun c_112 => ?_)
                    · have c_112 : r31 = x2 := of_decide_eq_true c_112
                      refine ml_st (S' := (120, [(0, .ref p), (2, .int x2), (4, .int i4), (5, .int (i3 + 1))], [.int 4096], M)) rfl rfl rfl ?_
                      refine ml_st (S' := (123, [(0, .ref p), (2, .int x2), (4, .int i4), (5, .int (i3 + 1))], [.int 1024, .int 4096], M)) rfl rfl rfl ?_
                      refine ml_st (S' := (124, [(0, .ref p), (2, .int x2), (4, .int i4), (5, .int (i3 + 1))], [.ref p, .int 1024, .int 4096], M)) rfl rfl rfl ?_
                      refine mo_get (S' := (127, [(0, .ref p), (2, .int x2), (4, .int i4), (5, .int (i3 + 1))], [.ref (q 6), .int 1024, .int 4096], M)) rfl hP.1 rfl rfl ?_
                      refine ml_st (S' := (129, [(0, .ref p), (2, .int x2), (4, .int i4), (5, .int (i3 + 1))], [.int (i3 + 1), .ref (q 6), .int 1024, .int 4096], M)) rfl rfl rfl ?_
                      refine mo_ald (S' := (130, [(0, .ref p), (2, .int x2), (4, .int i4), (5, .int (i3 + 1))], [.int ((f 6) (Int32.toNatClampNeg (i3 + 1))), .int 1024, .int 4096], M)) rfl hP.2.2 ((res_in h0.1 h0.2.1 h2 hm c_64).2) rfl ?_
                      refine ml_call (a := [.int ((f 6) (Int32.toNatClampNeg (i3 + 1)))]) (rest := [.int 1024, .int 4096]) rfl (rfl) rfl rfl (ct_placesOfType  (by omega)) (fun v34 M35 h36 => ?_)
                      obtain ⟨rfl, h36⟩ := h36
                      rw [h36]
                      show ml _ _ _ (133, [(0, .ref p), (2, .int x2), (4, .int i4), (5, .int (i3 + 1))], [.int (if ((f 6) (Int32.toNatClampNeg (i3 + 1))) = 74 then 2 else if ((f 6) (Int32.toNatClampNeg (i3 + 1))) = 68 then 2 else 1), .int 1024, .int 4096], M) _
                      refine ml_st (S' := (134, [(0, .ref p), (2, .int x2), (4, .int i4), (5, .int (i3 + 1))], [.int (1024 * (if ((f 6) (Int32.toNatClampNeg (i3 + 1))) = 74 then 2 else if ((f 6) (Int32.toNatClampNeg (i3 + 1))) = 68 then 2 else 1)), .int 4096], M)) rfl rfl rfl ?_
                      refine ml_st (S' := (135, [(0, .ref p), (2, .int x2), (4, .int i4), (5, .int (i3 + 1))], [.int (4096 + (1024 * (if ((f 6) (Int32.toNatClampNeg (i3 + 1))) = 74 then 2 else if ((f 6) (Int32.toNatClampNeg (i3 + 1))) = 68 then 2 else 1)))], M)) rfl rfl rfl ?_
                      refine ml_st (S' := (137, [(0, .ref p), (2, .int x2), (4, .int i4), (5, .int (i3 + 1))], [.int i4, .int (4096 + (1024 * (if ((f 6) (Int32.toNatClampNeg (i3 + 1))) = 74 then 2 else if ((f 6) (Int32.toNatClampNeg (i3 + 1))) = 68 then 2 else 1)))], M)) rfl rfl rfl ?_
                      refine ml_st (S' := (138, [(0, .ref p), (2, .int x2), (4, .int i4), (5, .int (i3 + 1))], [.int ((4096 + (1024 * (if ((f 6) (Int32.toNatClampNeg (i3 + 1))) = 74 then 2 else if ((f 6) (Int32.toNatClampNeg (i3 + 1))) = 68 then 2 else 1))) + i4)], M)) rfl rfl rfl ?_
                      exact ml_ret rfl (rfl) (⟨⟨_, rfl⟩, rfl⟩)
                    · have c_112 : ¬ (r31 = x2) := of_decide_eq_false c_112
                      refine ml_st (S' := (116, [(0, .ref p), (2, .int x2), (4, .int i4), (5, .int (i3 + 1))], [.int (-1)], M)) rfl rfl rfl ?_
                      exact ml_ret rfl (rfl) (⟨⟨_, rfl⟩, rfl⟩)
                  · have c_94 : ¬ (¬ ((i3 + 1) + 1) = x2) := of_decide_eq_false c_94
                    refine ml_st (S' := (100, [(5, .int (i3 + 1)), (0, .ref p), (2, .int x2), (3, .int i3), (4, .int i4)], [.int 4096], M)) rfl rfl rfl ?_
                    refine ml_st (S' := (102, [(5, .int (i3 + 1)), (0, .ref p), (2, .int x2), (3, .int i3), (4, .int i4)], [.int i4, .int 4096], M)) rfl rfl rfl ?_
                    refine ml_st (S' := (103, [(5, .int (i3 + 1)), (0, .ref p), (2, .int x2), (3, .int i3), (4, .int i4)], [.int (4096 + i4)], M)) rfl rfl rfl ?_
                    exact ml_ret rfl (rfl) (⟨⟨_, rfl⟩, rfl⟩)
              · have c_72 : ¬ (i4 ≤ 255) := of_decide_eq_false c_72
                refine ml_st (S' := (76, [], [.int (-1)], M)) rfl rfl rfl ?_
                exact ml_ret rfl (rfl) (⟨⟨_, rfl⟩, rfl⟩)
          · have c_26 : ¬ (((f 6) (Int32.toNatClampNeg i3)) = 41) := of_decide_eq_false c_26
            refine ml_st (S' := (31, [(0, .ref p), (2, .int x2), (3, .int i3), (4, .int i4)], [.int i4], M)) rfl rfl rfl ?_
            refine ml_st (S' := (32, [(0, .ref p), (2, .int x2), (3, .int i3), (4, .int i4)], [.ref p, .int i4], M)) rfl rfl rfl ?_
            refine mo_get (S' := (35, [(0, .ref p), (2, .int x2), (3, .int i3), (4, .int i4)], [.ref (q 6), .int i4], M)) rfl hP.1 rfl rfl ?_
            refine ml_st (S' := (36, [(0, .ref p), (2, .int x2), (3, .int i3), (4, .int i4)], [.int i3, .ref (q 6), .int i4], M)) rfl rfl rfl ?_
            refine mo_ald (S' := (37, [(0, .ref p), (2, .int x2), (3, .int i3), (4, .int i4)], [.int ((f 6) (Int32.toNatClampNeg i3)), .int i4], M)) rfl hP.2.2 (vin_end h0.1 c_15 h2) rfl ?_
            refine ml_call (a := [.int ((f 6) (Int32.toNatClampNeg i3))]) (rest := [.int i4]) rfl (rfl) rfl rfl (ct_placesOfType  (by omega)) (fun v37 M38 h39 => ?_)
            obtain ⟨rfl, h39⟩ := h39
            rw [h39]
            show ml _ _ _ (40, [(0, .ref p), (2, .int x2), (3, .int i3), (4, .int i4)], [.int (if ((f 6) (Int32.toNatClampNeg i3)) = 74 then 2 else if ((f 6) (Int32.toNatClampNeg i3)) = 68 then 2 else 1), .int i4], M) _
            refine ml_st (S' := (41, [(0, .ref p), (2, .int x2), (3, .int i3), (4, .int i4)], [.int (i4 + (if ((f 6) (Int32.toNatClampNeg i3)) = 74 then 2 else if ((f 6) (Int32.toNatClampNeg i3)) = 68 then 2 else 1))], M)) rfl rfl rfl ?_
            refine ml_st (S' := (43, [(4, .int (i4 + (if ((f 6) (Int32.toNatClampNeg i3)) = 74 then 2 else if ((f 6) (Int32.toNatClampNeg i3)) = 68 then 2 else 1))), (0, .ref p), (2, .int x2), (3, .int i3)], [], M)) rfl rfl rfl ?_
            refine ml_st (S' := (44, [(4, .int (i4 + (if ((f 6) (Int32.toNatClampNeg i3)) = 74 then 2 else if ((f 6) (Int32.toNatClampNeg i3)) = 68 then 2 else 1))), (0, .ref p), (2, .int x2), (3, .int i3)], [.ref p], M)) rfl rfl rfl ?_
            refine ml_st (S' := (45, [(4, .int (i4 + (if ((f 6) (Int32.toNatClampNeg i3)) = 74 then 2 else if ((f 6) (Int32.toNatClampNeg i3)) = 68 then 2 else 1))), (0, .ref p), (2, .int x2), (3, .int i3)], [.int i3, .ref p], M)) rfl rfl rfl ?_
            refine ml_st (S' := (46, [(4, .int (i4 + (if ((f 6) (Int32.toNatClampNeg i3)) = 74 then 2 else if ((f 6) (Int32.toNatClampNeg i3)) = 68 then 2 else 1))), (0, .ref p), (2, .int x2), (3, .int i3)], [.int x2, .int i3, .ref p], M)) rfl rfl rfl ?_
            refine ml_call (a := [.ref p, .int i3, .int x2]) (rest := []) rfl (okc_v rfl rfl rfl hP.1) rfl rfl (ct_typeEnd hP (h0.1) (h2) (by omega)) (fun v9 M9 h9 => ?_)
            obtain ⟨⟨r40, rfl, e41⟩, hh42⟩ := h9
            rw [hh42]
            show ml _ _ _ (49, [(4, .int (i4 + (if ((f 6) (Int32.toNatClampNeg i3)) = 74 then 2 else if ((f 6) (Int32.toNatClampNeg i3)) = 68 then 2 else 1))), (0, .ref p), (2, .int x2), (3, .int i3)], [.int r40], M) _
            refine ml_st (S' := (50, [(3, .int r40), (4, .int (i4 + (if ((f 6) (Int32.toNatClampNeg i3)) = 74 then 2 else if ((f 6) (Int32.toNatClampNeg i3)) = 68 then 2 else 1))), (0, .ref p), (2, .int x2)], [], M)) rfl rfl rfl ?_
            refine ml_st (S' := (51, [(3, .int r40), (4, .int (i4 + (if ((f 6) (Int32.toNatClampNeg i3)) = 74 then 2 else if ((f 6) (Int32.toNatClampNeg i3)) = 68 then 2 else 1))), (0, .ref p), (2, .int x2)], [.int r40], M)) rfl rfl rfl ?_
            refine ml_if (S1 := (5, [(0, .ref p), (2, .int x2), (3, .int r40), (4, .int (i4 + (if ((f 6) (Int32.toNatClampNeg i3)) = 74 then 2 else if ((f 6) (Int32.toNatClampNeg i3)) = 68 then 2 else 1)))], [], M)) (S2 := (54, [(3, .int r40), (4, .int (i4 + (if ((f 6) (Int32.toNatClampNeg i3)) = 74 then 2 else if ((f 6) (Int32.toNatClampNeg i3)) = 68 then 2 else 1))), (0, .ref p), (2, .int x2)], [], M)) rfl rfl rfl (fun c_51 => ?_) (fun c_51 => ?_)
            · have c_51 : 0 ≤ r40 := of_decide_eq_true c_51
              exact ih _ _ (loop_pl c_10 h0.2.2 (pT_z _) hn) ⟨nneg (Int32.not_lt.mpr c_51), by rcases e41 with rfl | h9; exact absurd (show (0 : Int32) ≤ -1 from c_51) (by decide); exact h9.2, by rw [inc_pl c_10 h0.2.2 (pT_z _)]; have := pT_z (f 6 (Int32.toNatClampNeg i3)); have := h0.2.2; omega⟩
            · have c_51 : ¬ (0 ≤ r40) := of_decide_eq_false c_51
              refine ml_st (S' := (55, [(3, .int r40), (4, .int (i4 + (if ((f 6) (Int32.toNatClampNeg i3)) = 74 then 2 else if ((f 6) (Int32.toNatClampNeg i3)) = 68 then 2 else 1))), (0, .ref p), (2, .int x2)], [.int (-1)], M)) rfl rfl rfl ?_
              exact ml_ret rfl (rfl) (⟨⟨_, rfl⟩, rfl⟩)
  refine mt_in (b := mb_126 g) rfl rfl ?_
  show ml (mT g) d (mb_126 g).2 (0, [(0, .ref p), (1, .int x1), (2, .int x2)], [], M) _
  refine ml_st (S' := (1, [(0, .ref p), (1, .int x1), (2, .int x2)], [.int x1], M)) rfl rfl rfl ?_
  refine ml_st (S' := (2, [(3, .int x1), (0, .ref p), (1, .int x1), (2, .int x2)], [], M)) rfl rfl rfl ?_
  refine ml_st (S' := (3, [(3, .int x1), (0, .ref p), (1, .int x1), (2, .int x2)], [.int 0], M)) rfl rfl rfl ?_
  refine ml_st (S' := (5, [(0, .ref p), (2, .int x2), (3, .int x1), (4, .int 0)], [], M)) rfl rfl rfl ?_
  exact L5 _ _ _ (Nat.le_refl _) ⟨h1, h12, by decide⟩
set_option maxHeartbeats 1000000 in
theorem ct_shapeOf {g : xe_G} {M : mi_H} {p : Nat} {size : Int32} {n m : Nat} {q : Nat → Nat} {f : Nat → Nat → Int32} {cc : Int32} {x1 x2 : Int32} (hP : PL M p size n m q f cc) (h1 : 0 ≤ x1.toInt) (h2 : x2.toInt ≤ m) (hm : m < 1073741824) {d : Nat} (hd : 4 ≤ d) : mt (mT g) d 137 [.ref p, .int x1, .int x2] M (fun v M' => (∃ x, v = some (.int x)) ∧ M' = M) := by
  obtain ⟨d, rfl⟩ : ∃ e, d = e + 1 := ⟨d - 1, by omega⟩
  refine mt_in (b := mb_137 g) rfl rfl ?_
  show ml (mT g) d (mb_137 g).2 (0, [(0, .ref p), (1, .int x1), (2, .int x2)], [], M) _
  refine ml_st (S' := (1, [(0, .ref p), (1, .int x1), (2, .int x2)], [.int x1], M)) rfl rfl rfl ?_
  refine ml_st (S' := (2, [(0, .ref p), (1, .int x1), (2, .int x2)], [.int x2, .int x1], M)) rfl rfl rfl ?_
  refine ml_if2 (S1 := (7, [(0, .ref p), (1, .int x1), (2, .int x2)], [], M)) (S2 := (5, [(0, .ref p), (1, .int x1), (2, .int x2)], [], M)) rfl rfl rfl (fun c_2 => ?_) (fun c_2 => ?_)
  · have c_2 : x1 < x2 := of_decide_eq_true c_2
    refine ml_st (S' := (8, [(0, .ref p), (1, .int x1), (2, .int x2)], [.ref p], M)) rfl rfl rfl ?_
    refine mo_get (S' := (11, [(0, .ref p), (1, .int x1), (2, .int x2)], [.ref (q 6)], M)) rfl hP.1 rfl rfl ?_
    refine ml_st (S' := (12, [(0, .ref p), (1, .int x1), (2, .int x2)], [.int x1, .ref (q 6)], M)) rfl rfl rfl ?_
    refine mo_ald (S' := (13, [(0, .ref p), (1, .int x1), (2, .int x2)], [.int ((f 6) (Int32.toNatClampNeg x1))], M)) rfl hP.2.2 (vin_end h1 (Int32.not_le.mpr c_2) h2) rfl ?_
    refine ml_st (S' := (15, [(0, .ref p), (1, .int x1), (2, .int x2)], [.int 40, .int ((f 6) (Int32.toNatClampNeg x1))], M)) rfl rfl rfl ?_
    refine ml_if2 (S1 := (27, [(0, .ref p), (1, .int x1), (2, .int x2)], [], M)) (S2 := (18, [(0, .ref p), (1, .int x1), (2, .int x2)], [], M)) rfl rfl rfl (fun c_15 => ?_) (fun c_15 => ?_)
    · have c_15 : ¬ ((f 6) (Int32.toNatClampNeg x1)) = 40 := of_decide_eq_true c_15
      refine ml_st (S' := (28, [(0, .ref p), (1, .int x1), (2, .int x2)], [.ref p], M)) rfl rfl rfl ?_
      refine ml_st (S' := (29, [(0, .ref p), (1, .int x1), (2, .int x2)], [.int x1, .ref p], M)) rfl rfl rfl ?_
      refine ml_st (S' := (30, [(0, .ref p), (1, .int x1), (2, .int x2)], [.int x2, .int x1, .ref p], M)) rfl rfl rfl ?_
      refine ml_call (a := [.ref p, .int x1, .int x2]) (rest := []) rfl (okc_v rfl rfl rfl hP.1) rfl rfl (ct_typeEnd hP (h1) (h2) (by omega)) (fun v9 M9 h9 => ?_)
      obtain ⟨⟨r1, rfl, e2⟩, hh3⟩ := h9
      rw [hh3]
      show ml _ _ _ (33, [(0, .ref p), (1, .int x1), (2, .int x2)], [.int r1], M) _
      refine ml_st (S' := (34, [(0, .ref p), (1, .int x1), (2, .int x2)], [.int x2, .int r1], M)) rfl rfl rfl ?_
      refine ml_if2 (S1 := (49, [(0, .ref p), (1, .int x1), (2, .int x2)], [], M)) (S2 := (37, [(0, .ref p), (1, .int x1), (2, .int x2)], [], M)) rfl rfl rfl (fun c_34 => ?_) (fun c_34 => ?_)
      · have c_34 : ¬ r1 = x2 := of_decide_eq_true c_34
        refine ml_st (S' := (50, [], [.int (-1)], M)) rfl rfl rfl ?_
        exact ml_ret rfl (rfl) (⟨⟨_, rfl⟩, rfl⟩)
      · have c_34 : ¬ (¬ r1 = x2) := of_decide_eq_false c_34
        refine ml_st (S' := (38, [(0, .ref p), (1, .int x1), (2, .int x2)], [.ref p], M)) rfl rfl rfl ?_
        refine mo_get (S' := (41, [(0, .ref p), (1, .int x1), (2, .int x2)], [.ref (q 6)], M)) rfl hP.1 rfl rfl ?_
        refine ml_st (S' := (42, [(0, .ref p), (1, .int x1), (2, .int x2)], [.int x1, .ref (q 6)], M)) rfl rfl rfl ?_
        refine mo_ald (S' := (43, [(0, .ref p), (1, .int x1), (2, .int x2)], [.int ((f 6) (Int32.toNatClampNeg x1))], M)) rfl hP.2.2 (vin_end h1 (Int32.not_le.mpr c_2) h2) rfl ?_
        refine ml_call (a := [.int ((f 6) (Int32.toNatClampNeg x1))]) (rest := []) rfl (rfl) rfl rfl (ct_placesOfType  (by omega)) (fun v4 M5 h6 => ?_)
        obtain ⟨rfl, h6⟩ := h6
        rw [h6]
        show ml _ _ _ (46, [(0, .ref p), (1, .int x1), (2, .int x2)], [.int (if ((f 6) (Int32.toNatClampNeg x1)) = 74 then 2 else if ((f 6) (Int32.toNatClampNeg x1)) = 68 then 2 else 1)], M) _
        refine ml_st (S' := (50, [], [.int (if ((f 6) (Int32.toNatClampNeg x1)) = 74 then 2 else if ((f 6) (Int32.toNatClampNeg x1)) = 68 then 2 else 1)], M)) rfl rfl rfl ?_
        exact ml_ret rfl (rfl) (⟨⟨_, rfl⟩, rfl⟩)
    · have c_15 : ¬ (¬ ((f 6) (Int32.toNatClampNeg x1)) = 40) := of_decide_eq_false c_15
      refine ml_st (S' := (19, [(0, .ref p), (1, .int x1), (2, .int x2)], [.ref p], M)) rfl rfl rfl ?_
      refine ml_st (S' := (20, [(0, .ref p), (1, .int x1), (2, .int x2)], [.int x1, .ref p], M)) rfl rfl rfl ?_
      refine ml_st (S' := (21, [(0, .ref p), (1, .int x1), (2, .int x2)], [.int 1, .int x1, .ref p], M)) rfl rfl rfl ?_
      refine ml_st (S' := (22, [(0, .ref p), (1, .int x1), (2, .int x2)], [.int (x1 + 1), .ref p], M)) rfl rfl rfl ?_
      refine ml_st (S' := (23, [(0, .ref p), (1, .int x1), (2, .int x2)], [.int x2, .int (x1 + 1), .ref p], M)) rfl rfl rfl ?_
      refine ml_call (a := [.ref p, .int (x1 + 1), .int x2]) (rest := []) rfl (okc_v rfl rfl rfl hP.1) rfl rfl (ct_methodShape hP (up1 h1 (Int32.not_le.mpr c_2)).1 (up1 h1 (Int32.not_le.mpr c_2)).2 h2 hm (by omega)) (fun v9 M9 h9 => ?_)
      obtain ⟨⟨r9, rfl⟩, h9⟩ := h9
      rw [h9]
      show ml _ _ _ (26, [(0, .ref p), (1, .int x1), (2, .int x2)], [.int r9], M) _
      exact ml_ret rfl (rfl) (⟨⟨_, rfl⟩, rfl⟩)
  · have c_2 : ¬ (x1 < x2) := of_decide_eq_false c_2
    refine ml_st (S' := (6, [(0, .ref p), (1, .int x1), (2, .int x2)], [.int (-1)], M)) rfl rfl rfl ?_
    exact ml_ret rfl (rfl) (⟨⟨_, rfl⟩, rfl⟩)
