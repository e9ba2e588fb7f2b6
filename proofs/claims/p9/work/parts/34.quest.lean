/-! more of the pool's questions (laid by wip/p2/c34.py) -/
def sp_characterAt (n m : Nat) (f : Nat → Nat → Int32) (x1 : Int32) (x2 : Int32) : Int32 := if ¬ (sp_tagOf n m f x1) = 1 then ((-1)) else (if x2 < 0 then ((-1)) else (if x2 < ((f 4) (Int32.toNatClampNeg x1)) then (((f 6) (Int32.toNatClampNeg (((f 3) (Int32.toNatClampNeg x1)) + x2)))) else ((-1))))
set_option maxHeartbeats 1000000 in
theorem ct_characterAt {g : xe_G} {M : mi_H} {p : Nat} {size : Int32} {n m : Nat} {q : Nat → Nat} {f : Nat → Nat → Int32} {cc : Int32} {x1 x2 : Int32} (hP : PL M p size n m q f cc) (hT : txt n m f cc) (hm : m < 1073741824) {d : Nat} (hd : 2 ≤ d) : mt (mT g) d 113 [.ref p, .int x1, .int x2] M (fun v M' => v = some (.int (sp_characterAt n m f x1 x2)) ∧ M' = M) := by
  obtain ⟨d, rfl⟩ : ∃ e, d = e + 1 := ⟨d - 1, by omega⟩
  refine mt_in (b := mb_113 g) rfl rfl ?_
  show ml (mT g) d (mb_113 g).2 (0, [(0, .ref p), (1, .int x1), (2, .int x2)], [], M) _
  refine ml_st (S' := (1, [(0, .ref p), (1, .int x1), (2, .int x2)], [.ref p], M)) rfl rfl rfl ?_
  refine ml_st (S' := (2, [(0, .ref p), (1, .int x1), (2, .int x2)], [.int x1, .ref p], M)) rfl rfl rfl ?_
  refine ml_call (a := [.ref p, .int x1]) (rest := []) rfl (okc_v rfl rfl rfl hP.1) rfl rfl (ct_tagOf hP (by omega)) (fun v1 M2 h3 => ?_)
  obtain ⟨rfl, h3⟩ := h3
  rw [h3]
  show ml _ _ _ (5, [(0, .ref p), (1, .int x1), (2, .int x2)], [.int (sp_tagOf n m f x1)], M) _
  refine ml_st (S' := (6, [(0, .ref p), (1, .int x1), (2, .int x2)], [.int 1, .int (sp_tagOf n m f x1)], M)) rfl rfl rfl ?_
  refine ml_if2 (S1 := (23, [], [], M)) (S2 := (9, [(0, .ref p), (1, .int x1), (2, .int x2)], [], M)) rfl rfl rfl (fun c_6 => ?_) (fun c_6 => ?_)
  · have c_6 : ¬ (sp_tagOf n m f x1) = 1 := of_decide_eq_true c_6
    refine ml_st (S' := (24, [], [.int (-1)], M)) rfl rfl rfl ?_
    refine ml_st (S' := (40, [], [.int (-1)], M)) rfl rfl rfl ?_
    exact ml_ret rfl (rfl) (⟨by rw [sp_characterAt, if_pos c_6], rfl⟩)
  · have c_6 : ¬ (¬ (sp_tagOf n m f x1) = 1) := of_decide_eq_false c_6
    refine ml_st (S' := (10, [(0, .ref p), (1, .int x1), (2, .int x2)], [.int x2], M)) rfl rfl rfl ?_
    refine ml_if (S1 := (23, [], [], M)) (S2 := (13, [(0, .ref p), (1, .int x1), (2, .int x2)], [], M)) rfl rfl rfl (fun c_10 => ?_) (fun c_10 => ?_)
    · have c_10 : x2 < 0 := of_decide_eq_true c_10
      refine ml_st (S' := (24, [], [.int (-1)], M)) rfl rfl rfl ?_
      refine ml_st (S' := (40, [], [.int (-1)], M)) rfl rfl rfl ?_
      exact ml_ret rfl (rfl) (⟨by rw [sp_characterAt, if_neg c_6, if_pos c_10], rfl⟩)
    · have c_10 : ¬ (x2 < 0) := of_decide_eq_false c_10
      refine ml_st (S' := (14, [(0, .ref p), (1, .int x1), (2, .int x2)], [.int x2], M)) rfl rfl rfl ?_
      refine ml_st (S' := (15, [(0, .ref p), (1, .int x1), (2, .int x2)], [.ref p, .int x2], M)) rfl rfl rfl ?_
      refine mo_get (S' := (18, [(0, .ref p), (1, .int x1), (2, .int x2)], [.ref (q 4), .int x2], M)) rfl hP.1 rfl rfl ?_
      refine ml_st (S' := (19, [(0, .ref p), (1, .int x1), (2, .int x2)], [.int x1, .ref (q 4), .int x2], M)) rfl rfl rfl ?_
      refine mo_ald (S' := (20, [(0, .ref p), (1, .int x1), (2, .int x2)], [.int ((f 4) (Int32.toNatClampNeg x1)), .int x2], M)) rfl (hP.2.1 4 (by decide) (by decide)) ((tag_in (Decidable.not_not.mp c_6) (by decide)).1) rfl ?_
      refine ml_if2 (S1 := (27, [(0, .ref p), (1, .int x1), (2, .int x2)], [], M)) (S2 := (23, [], [], M)) rfl rfl rfl (fun c_20 => ?_) (fun c_20 => ?_)
      · have c_20 : x2 < ((f 4) (Int32.toNatClampNeg x1)) := of_decide_eq_true c_20
        refine ml_st (S' := (28, [(0, .ref p), (1, .int x1), (2, .int x2)], [.ref p], M)) rfl rfl rfl ?_
        refine mo_get (S' := (31, [(0, .ref p), (1, .int x1), (2, .int x2)], [.ref (q 6)], M)) rfl hP.1 rfl rfl ?_
        refine ml_st (S' := (32, [(0, .ref p), (1, .int x1), (2, .int x2)], [.ref p, .ref (q 6)], M)) rfl rfl rfl ?_
        refine mo_get (S' := (35, [(0, .ref p), (1, .int x1), (2, .int x2)], [.ref (q 3), .ref (q 6)], M)) rfl hP.1 rfl rfl ?_
        refine ml_st (S' := (36, [(0, .ref p), (1, .int x1), (2, .int x2)], [.int x1, .ref (q 3), .ref (q 6)], M)) rfl rfl rfl ?_
        refine mo_ald (S' := (37, [(0, .ref p), (1, .int x1), (2, .int x2)], [.int ((f 3) (Int32.toNatClampNeg x1)), .ref (q 6)], M)) rfl (hP.2.1 3 (by decide) (by decide)) ((tag_in (Decidable.not_not.mp c_6) (by decide)).1) rfl ?_
        refine ml_st (S' := (38, [(0, .ref p), (1, .int x1), (2, .int x2)], [.int x2, .int ((f 3) (Int32.toNatClampNeg x1)), .ref (q 6)], M)) rfl rfl rfl ?_
        refine ml_st (S' := (39, [(0, .ref p), (1, .int x1), (2, .int x2)], [.int (((f 3) (Int32.toNatClampNeg x1)) + x2), .ref (q 6)], M)) rfl rfl rfl ?_
        refine mo_ald (S' := (40, [], [.int ((f 6) (Int32.toNatClampNeg (((f 3) (Int32.toNatClampNeg x1)) + x2)))], M)) rfl hP.2.2 ((txt_in hT hm (nneg c_10) (by unfold sp_textLength; rw [if_neg c_6]; exact c_20)).2) rfl ?_
        exact ml_ret rfl (rfl) (⟨by rw [sp_characterAt, if_neg c_6, if_neg c_10, if_pos c_20], rfl⟩)
      · have c_20 : ¬ (x2 < ((f 4) (Int32.toNatClampNeg x1))) := of_decide_eq_false c_20
        refine ml_st (S' := (24, [], [.int (-1)], M)) rfl rfl rfl ?_
        refine ml_st (S' := (40, [], [.int (-1)], M)) rfl rfl rfl ?_
        exact ml_ret rfl (rfl) (⟨by rw [sp_characterAt, if_neg c_6, if_neg c_10, if_neg c_20], rfl⟩)
def sp_isPlainClass (n m : Nat) (f : Nat → Nat → Int32) (x1 : Int32) : Int32 := if ¬ (sp_tagOf n m f x1) = 7 then (0) else (if (sp_characterAt n m f ((f 3) (Int32.toNatClampNeg x1)) 0) = 91 then (0) else (1))
set_option maxHeartbeats 1000000 in
theorem ct_isPlainClass {g : xe_G} {M : mi_H} {p : Nat} {size : Int32} {n m : Nat} {q : Nat → Nat} {f : Nat → Nat → Int32} {cc : Int32} {x1 : Int32} (hP : PL M p size n m q f cc) (hT : txt n m f cc) (hm : m < 1073741824) {d : Nat} (hd : 3 ≤ d) : mt (mT g) d 123 [.ref p, .int x1] M (fun v M' => v = some (.int (sp_isPlainClass n m f x1)) ∧ M' = M) := by
  obtain ⟨d, rfl⟩ : ∃ e, d = e + 1 := ⟨d - 1, by omega⟩
  refine mt_in (b := mb_123 g) rfl rfl ?_
  show ml (mT g) d (mb_123 g).2 (0, [(0, .ref p), (1, .int x1)], [], M) _
  refine ml_st (S' := (1, [(0, .ref p), (1, .int x1)], [.ref p], M)) rfl rfl rfl ?_
  refine ml_st (S' := (2, [(0, .ref p), (1, .int x1)], [.int x1, .ref p], M)) rfl rfl rfl ?_
  refine ml_call (a := [.ref p, .int x1]) (rest := []) rfl (okc_v rfl rfl rfl hP.1) rfl rfl (ct_tagOf hP (by omega)) (fun v1 M2 h3 => ?_)
  obtain ⟨rfl, h3⟩ := h3
  rw [h3]
  show ml _ _ _ (5, [(0, .ref p), (1, .int x1)], [.int (sp_tagOf n m f x1)], M) _
  refine ml_st (S' := (7, [(0, .ref p), (1, .int x1)], [.int 7, .int (sp_tagOf n m f x1)], M)) rfl rfl rfl ?_
  refine ml_if2 (S1 := (30, [], [], M)) (S2 := (10, [(0, .ref p), (1, .int x1)], [], M)) rfl rfl rfl (fun c_7 => ?_) (fun c_7 => ?_)
  · have c_7 : ¬ (sp_tagOf n m f x1) = 7 := of_decide_eq_true c_7
    refine ml_st (S' := (31, [], [.int 0], M)) rfl rfl rfl ?_
    exact ml_ret rfl (rfl) (⟨by rw [sp_isPlainClass, if_pos c_7], rfl⟩)
  · have c_7 : ¬ (¬ (sp_tagOf n m f x1) = 7) := of_decide_eq_false c_7
    refine ml_st (S' := (11, [(0, .ref p), (1, .int x1)], [.ref p], M)) rfl rfl rfl ?_
    refine ml_st (S' := (12, [(0, .ref p), (1, .int x1)], [.ref p, .ref p], M)) rfl rfl rfl ?_
    refine mo_get (S' := (15, [(0, .ref p), (1, .int x1)], [.ref (q 3), .ref p], M)) rfl hP.1 rfl rfl ?_
    refine ml_st (S' := (16, [(0, .ref p), (1, .int x1)], [.int x1, .ref (q 3), .ref p], M)) rfl rfl rfl ?_
    refine mo_ald (S' := (17, [(0, .ref p), (1, .int x1)], [.int ((f 3) (Int32.toNatClampNeg x1)), .ref p], M)) rfl (hP.2.1 3 (by decide) (by decide)) ((tag_in (Decidable.not_not.mp c_7) (by decide)).1) rfl ?_
    refine ml_st (S' := (18, [(0, .ref p), (1, .int x1)], [.int 0, .int ((f 3) (Int32.toNatClampNeg x1)), .ref p], M)) rfl rfl rfl ?_
    refine ml_call (a := [.ref p, .int ((f 3) (Int32.toNatClampNeg x1)), .int 0]) (rest := []) rfl (okc_v rfl rfl rfl hP.1) rfl rfl (ct_characterAt hP hT hm (by omega)) (fun v4 M5 h6 => ?_)
    obtain ⟨rfl, h6⟩ := h6
    rw [h6]
    show ml _ _ _ (21, [(0, .ref p), (1, .int x1)], [.int (sp_characterAt n m f ((f 3) (Int32.toNatClampNeg x1)) 0)], M) _
    refine ml_st (S' := (23, [(0, .ref p), (1, .int x1)], [.int 91, .int (sp_characterAt n m f ((f 3) (Int32.toNatClampNeg x1)) 0)], M)) rfl rfl rfl ?_
    refine ml_if2 (S1 := (30, [], [], M)) (S2 := (26, [(0, .ref p), (1, .int x1)], [], M)) rfl rfl rfl (fun c_23 => ?_) (fun c_23 => ?_)
    · have c_23 : (sp_characterAt n m f ((f 3) (Int32.toNatClampNeg x1)) 0) = 91 := of_decide_eq_true c_23
      refine ml_st (S' := (31, [], [.int 0], M)) rfl rfl rfl ?_
      exact ml_ret rfl (rfl) (⟨by rw [sp_isPlainClass, if_neg c_7, if_pos c_23], rfl⟩)
    · have c_23 : ¬ ((sp_characterAt n m f ((f 3) (Int32.toNatClampNeg x1)) 0) = 91) := of_decide_eq_false c_23
      refine ml_st (S' := (27, [(0, .ref p), (1, .int x1)], [.int 1], M)) rfl rfl rfl ?_
      refine ml_st (S' := (31, [], [.int 1], M)) rfl rfl rfl ?_
      exact ml_ret rfl (rfl) (⟨by rw [sp_isPlainClass, if_neg c_7, if_neg c_23], rfl⟩)
