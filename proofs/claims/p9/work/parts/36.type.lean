/-! where a type ends (laid by wip/p2/c36.py) -/
theorem up1 {i x : Int32} (h0 : 0 ≤ i.toInt) (h : ¬ x ≤ i) : 0 ≤ (i + 1).toInt ∧ (i + 1).toInt ≤ x.toInt := by
  have h1 := Int32.not_le.mp h
  have h2 := Int32.lt_iff_toInt_lt.mp h1
  rw [inc_lt h1]
  omega
theorem mi_sw_in {ps : List (Int × Nat)} {dt t : Nat} {x : Int32} (h : mi_sw ps dt x = t) : t ∈ dt :: ps.map (fun q => q.2) := by
  unfold mi_sw at h
  split at h
  · rename_i q hq
    subst h
    exact List.mem_cons_of_mem _ (List.mem_map.mpr ⟨q, List.mem_of_find?_eq_some hq, rfl⟩)
  · subst h
    exact List.mem_cons_self
theorem mi_sw_sub {ps : List (Int × Nat)} {dt t : Nat} {x : Int32} {l : List Nat} (h : mi_sw ps dt x = t) (hs : ∀ y ∈ dt :: ps.map (fun q => q.2), y ∈ l) : t ∈ l := hs t (mi_sw_in h)

set_option maxHeartbeats 1000000 in
theorem ct_typeEnd {g : xe_G} {M : mi_H} {p : Nat} {size : Int32} {n m : Nat} {q : Nat → Nat} {f : Nat → Nat → Int32} {cc : Int32} {x1 x2 : Int32} (hP : PL M p size n m q f cc) (h1 : 0 ≤ x1.toInt) (h2 : x2.toInt ≤ m) {d : Nat} (hd : 2 ≤ d) : mt (mT g) d 142 [.ref p, .int x1, .int x2] M (fun v M' => (∃ x : Int32, v = some (.int x) ∧ (x = -1 ∨ (0 ≤ x.toInt ∧ x.toInt ≤ x2.toInt))) ∧ M' = M) := by
  obtain ⟨d, rfl⟩ : ∃ e, d = e + 1 := ⟨d - 1, by omega⟩
  have L2 : ∀ (n9 : Nat) (i3 : Int32), (2147483648 - i3.toInt).toNat ≤ n9 → 0 ≤ i3.toInt → ml (mT g) d (mb_142 g).2 (2, [(0, .ref p), (1, .int x1), (2, .int x2), (3, .int i3)], [], M) (fun v M' => (∃ x : Int32, v = some (.int x) ∧ (x = -1 ∨ (0 ≤ x.toInt ∧ x.toInt ≤ x2.toInt))) ∧ M' = M) := by
    intro n9
    induction n9 with
    | zero => intro i3 hn _; exact (loop_zero hn).elim
    | succ n9 ih =>
      intro i3 hn h0
      refine ml_st (S' := (3, [(0, .ref p), (1, .int x1), (2, .int x2), (3, .int i3)], [.int i3], M)) rfl rfl rfl ?_
      refine ml_st (S' := (4, [(0, .ref p), (1, .int x1), (2, .int x2), (3, .int i3)], [.int x2, .int i3], M)) rfl rfl rfl ?_
      refine ml_if2 (S1 := (24, [(0, .ref p), (1, .int x1), (2, .int x2), (3, .int i3)], [], M)) (S2 := (7, [(0, .ref p), (1, .int x1), (2, .int x2), (3, .int i3)], [], M)) rfl rfl rfl (fun c_4 => ?_) (fun c_4 => ?_)
      · have c_4 : x2 ≤ i3 := of_decide_eq_true c_4
        refine ml_st (S' := (25, [(0, .ref p), (1, .int x1), (2, .int x2), (3, .int i3)], [.int i3], M)) rfl rfl rfl ?_
        refine ml_st (S' := (26, [(0, .ref p), (1, .int x1), (2, .int x2), (3, .int i3)], [.int x2, .int i3], M)) rfl rfl rfl ?_
        refine ml_if2 (S1 := (38, [], [], M)) (S2 := (29, [(0, .ref p), (1, .int x1), (2, .int x2), (3, .int i3)], [], M)) rfl rfl rfl (fun c_26 => ?_) (fun c_26 => ?_)
        · have c_26 : x2 ≤ i3 := of_decide_eq_true c_26
          refine ml_st (S' := (39, [], [.int (-1)], M)) rfl rfl rfl ?_
          exact ml_ret rfl (rfl) (⟨⟨_, rfl, by first | exact Or.inl rfl | exact Or.inr (up1 h0 c_26) | exact Or.inr (up1 (nneg c_176) (Int32.not_le.mpr c_182))⟩, rfl⟩)
        · have c_26 : ¬ (x2 ≤ i3) := of_decide_eq_false c_26
          refine ml_st (S' := (30, [(0, .ref p), (1, .int x1), (2, .int x2), (3, .int i3)], [.int i3], M)) rfl rfl rfl ?_
          refine ml_st (S' := (31, [(0, .ref p), (1, .int x1), (2, .int x2), (3, .int i3)], [.int x1, .int i3], M)) rfl rfl rfl ?_
          refine ml_st (S' := (32, [(0, .ref p), (1, .int x1), (2, .int x2), (3, .int i3)], [.int (i3 - x1)], M)) rfl rfl rfl ?_
          refine ml_st (S' := (35, [(0, .ref p), (1, .int x1), (2, .int x2), (3, .int i3)], [.int 255, .int (i3 - x1)], M)) rfl rfl rfl ?_
          refine ml_if2 (S1 := (40, [(0, .ref p), (1, .int x1), (2, .int x2), (3, .int i3)], [], M)) (S2 := (38, [], [], M)) rfl rfl rfl (fun c_35 => ?_) (fun c_35 => ?_)
          · have c_35 : (i3 - x1) ≤ 255 := of_decide_eq_true c_35
            refine ml_st (S' := (41, [(0, .ref p), (1, .int x1), (2, .int x2), (3, .int i3)], [.ref p], M)) rfl rfl rfl ?_
            refine mo_get (S' := (44, [(0, .ref p), (1, .int x1), (2, .int x2), (3, .int i3)], [.ref (q 6)], M)) rfl hP.1 rfl rfl ?_
            refine ml_st (S' := (45, [(0, .ref p), (1, .int x1), (2, .int x2), (3, .int i3)], [.int i3, .ref (q 6)], M)) rfl rfl rfl ?_
            refine mo_ald (S' := (46, [(0, .ref p), (1, .int x1), (2, .int x2), (3, .int i3)], [.int ((f 6) (Int32.toNatClampNeg i3))], M)) rfl hP.2.2 (vin_end h0 c_26 h2) rfl ?_
            refine ml_sw rfl (fun t_46 ht_46 => ?_)
            have ht_46 : t_46 ∈ [160, 164, 194] := mi_sw_sub ht_46 (by decide)
            simp only [List.mem_cons, List.not_mem_nil, or_false] at ht_46
            rcases ht_46 with rfl | rfl | rfl
            · show ml _ _ _ (160, [(0, .ref p), (1, .int x1), (2, .int x2), (3, .int i3)], [], M) _
              refine ml_st (S' := (161, [(0, .ref p), (1, .int x1), (2, .int x2), (3, .int i3)], [.int i3], M)) rfl rfl rfl ?_
              refine ml_st (S' := (162, [(0, .ref p), (1, .int x1), (2, .int x2), (3, .int i3)], [.int 1, .int i3], M)) rfl rfl rfl ?_
              refine ml_st (S' := (163, [(0, .ref p), (1, .int x1), (2, .int x2), (3, .int i3)], [.int (i3 + 1)], M)) rfl rfl rfl ?_
              exact ml_ret rfl (rfl) (⟨⟨_, rfl, by first | exact Or.inl rfl | exact Or.inr (up1 h0 c_26) | exact Or.inr (up1 (nneg c_176) (Int32.not_le.mpr c_182))⟩, rfl⟩)
            · show ml _ _ _ (164, [(0, .ref p), (1, .int x1), (2, .int x2), (3, .int i3)], [], M) _
              refine ml_st (S' := (165, [(0, .ref p), (1, .int x1), (2, .int x2), (3, .int i3)], [.ref p], M)) rfl rfl rfl ?_
              refine ml_st (S' := (166, [(0, .ref p), (1, .int x1), (2, .int x2), (3, .int i3)], [.int i3, .ref p], M)) rfl rfl rfl ?_
              refine ml_st (S' := (167, [(0, .ref p), (1, .int x1), (2, .int x2), (3, .int i3)], [.int 1, .int i3, .ref p], M)) rfl rfl rfl ?_
              refine ml_st (S' := (168, [(0, .ref p), (1, .int x1), (2, .int x2), (3, .int i3)], [.int (i3 + 1), .ref p], M)) rfl rfl rfl ?_
              refine ml_st (S' := (169, [(0, .ref p), (1, .int x1), (2, .int x2), (3, .int i3)], [.int x2, .int (i3 + 1), .ref p], M)) rfl rfl rfl ?_
              refine ml_call (a := [.ref p, .int (i3 + 1), .int x2]) (rest := []) rfl (okc_v rfl rfl rfl hP.1) rfl rfl (ct_nameEnd hP (by rw [inc_lt (Int32.not_le.mp c_26)]; omega) h2 (by omega)) (fun v9 M9 h9 => ?_)
              obtain ⟨⟨r9, rfl⟩, h9⟩ := h9
              rw [h9]
              show ml _ _ _ (172, [(0, .ref p), (1, .int x1), (2, .int x2), (3, .int i3)], [.int r9], M) _
              refine ml_st (S' := (174, [(4, .int r9), (0, .ref p), (1, .int x1), (2, .int x2), (3, .int i3)], [], M)) rfl rfl rfl ?_
              refine ml_st (S' := (176, [(4, .int r9), (0, .ref p), (1, .int x1), (2, .int x2), (3, .int i3)], [.int r9], M)) rfl rfl rfl ?_
              refine ml_if (S1 := (185, [], [], M)) (S2 := (179, [(4, .int r9), (0, .ref p), (1, .int x1), (2, .int x2), (3, .int i3)], [], M)) rfl rfl rfl (fun c_176 => ?_) (fun c_176 => ?_)
              · have c_176 : r9 < 0 := of_decide_eq_true c_176
                refine ml_st (S' := (186, [], [.int (-1)], M)) rfl rfl rfl ?_
                refine ml_st (S' := (193, [], [.int (-1)], M)) rfl rfl rfl ?_
                exact ml_ret rfl (rfl) (⟨⟨_, rfl, by first | exact Or.inl rfl | exact Or.inr (up1 h0 c_26) | exact Or.inr (up1 (nneg c_176) (Int32.not_le.mpr c_182))⟩, rfl⟩)
              · have c_176 : ¬ (r9 < 0) := of_decide_eq_false c_176
                refine ml_st (S' := (181, [(4, .int r9), (0, .ref p), (1, .int x1), (2, .int x2), (3, .int i3)], [.int r9], M)) rfl rfl rfl ?_
                refine ml_st (S' := (182, [(4, .int r9), (0, .ref p), (1, .int x1), (2, .int x2), (3, .int i3)], [.int x2, .int r9], M)) rfl rfl rfl ?_
                refine ml_if2 (S1 := (189, [(4, .int r9), (0, .ref p), (1, .int x1), (2, .int x2), (3, .int i3)], [], M)) (S2 := (185, [], [], M)) rfl rfl rfl (fun c_182 => ?_) (fun c_182 => ?_)
                · have c_182 : r9 < x2 := of_decide_eq_true c_182
                  refine ml_st (S' := (191, [(4, .int r9), (0, .ref p), (1, .int x1), (2, .int x2), (3, .int i3)], [.int r9], M)) rfl rfl rfl ?_
                  refine ml_st (S' := (192, [(4, .int r9), (0, .ref p), (1, .int x1), (2, .int x2), (3, .int i3)], [.int 1, .int r9], M)) rfl rfl rfl ?_
                  refine ml_st (S' := (193, [], [.int (r9 + 1)], M)) rfl rfl rfl ?_
                  exact ml_ret rfl (rfl) (⟨⟨_, rfl, by first | exact Or.inl rfl | exact Or.inr (up1 h0 c_26) | exact Or.inr (up1 (nneg c_176) (Int32.not_le.mpr c_182))⟩, rfl⟩)
                · have c_182 : ¬ (r9 < x2) := of_decide_eq_false c_182
                  refine ml_st (S' := (186, [], [.int (-1)], M)) rfl rfl rfl ?_
                  refine ml_st (S' := (193, [], [.int (-1)], M)) rfl rfl rfl ?_
                  exact ml_ret rfl (rfl) (⟨⟨_, rfl, by first | exact Or.inl rfl | exact Or.inr (up1 h0 c_26) | exact Or.inr (up1 (nneg c_176) (Int32.not_le.mpr c_182))⟩, rfl⟩)
            · show ml _ _ _ (194, [(0, .ref p), (1, .int x1), (2, .int x2), (3, .int i3)], [], M) _
              refine ml_st (S' := (195, [(0, .ref p), (1, .int x1), (2, .int x2), (3, .int i3)], [.int (-1)], M)) rfl rfl rfl ?_
              exact ml_ret rfl (rfl) (⟨⟨_, rfl, by first | exact Or.inl rfl | exact Or.inr (up1 h0 c_26) | exact Or.inr (up1 (nneg c_176) (Int32.not_le.mpr c_182))⟩, rfl⟩)
          · have c_35 : ¬ ((i3 - x1) ≤ 255) := of_decide_eq_false c_35
            refine ml_st (S' := (39, [], [.int (-1)], M)) rfl rfl rfl ?_
            exact ml_ret rfl (rfl) (⟨⟨_, rfl, by first | exact Or.inl rfl | exact Or.inr (up1 h0 c_26) | exact Or.inr (up1 (nneg c_176) (Int32.not_le.mpr c_182))⟩, rfl⟩)
      · have c_4 : ¬ (x2 ≤ i3) := of_decide_eq_false c_4
        refine ml_st (S' := (8, [(0, .ref p), (1, .int x1), (2, .int x2), (3, .int i3)], [.ref p], M)) rfl rfl rfl ?_
        refine mo_get (S' := (11, [(0, .ref p), (1, .int x1), (2, .int x2), (3, .int i3)], [.ref (q 6)], M)) rfl hP.1 rfl rfl ?_
        refine ml_st (S' := (12, [(0, .ref p), (1, .int x1), (2, .int x2), (3, .int i3)], [.int i3, .ref (q 6)], M)) rfl rfl rfl ?_
        refine mo_ald (S' := (13, [(0, .ref p), (1, .int x1), (2, .int x2), (3, .int i3)], [.int ((f 6) (Int32.toNatClampNeg i3))], M)) rfl hP.2.2 (vin_end h0 c_4 h2) rfl ?_
        refine ml_st (S' := (15, [(0, .ref p), (1, .int x1), (2, .int x2), (3, .int i3)], [.int 91, .int ((f 6) (Int32.toNatClampNeg i3))], M)) rfl rfl rfl ?_
        refine ml_if2 (S1 := (24, [(0, .ref p), (1, .int x1), (2, .int x2), (3, .int i3)], [], M)) (S2 := (18, [(0, .ref p), (1, .int x1), (2, .int x2), (3, .int i3)], [], M)) rfl rfl rfl (fun c_15 => ?_) (fun c_15 => ?_)
        · have c_15 : ¬ ((f 6) (Int32.toNatClampNeg i3)) = 91 := of_decide_eq_true c_15
          refine ml_st (S' := (25, [(0, .ref p), (1, .int x1), (2, .int x2), (3, .int i3)], [.int i3], M)) rfl rfl rfl ?_
          refine ml_st (S' := (26, [(0, .ref p), (1, .int x1), (2, .int x2), (3, .int i3)], [.int x2, .int i3], M)) rfl rfl rfl ?_
          refine ml_if2 (S1 := (38, [], [], M)) (S2 := (29, [(0, .ref p), (1, .int x1), (2, .int x2), (3, .int i3)], [], M)) rfl rfl rfl (fun c_26 => ?_) (fun c_26 => ?_)
          · have c_26 : x2 ≤ i3 := of_decide_eq_true c_26
            refine ml_st (S' := (39, [], [.int (-1)], M)) rfl rfl rfl ?_
            exact ml_ret rfl (rfl) (⟨⟨_, rfl, by first | exact Or.inl rfl | exact Or.inr (up1 h0 c_26) | exact Or.inr (up1 (nneg c_176) (Int32.not_le.mpr c_182))⟩, rfl⟩)
          · have c_26 : ¬ (x2 ≤ i3) := of_decide_eq_false c_26
            refine ml_st (S' := (30, [(0, .ref p), (1, .int x1), (2, .int x2), (3, .int i3)], [.int i3], M)) rfl rfl rfl ?_
            refine ml_st (S' := (31, [(0, .ref p), (1, .int x1), (2, .int x2), (3, .int i3)], [.int x1, .int i3], M)) rfl rfl rfl ?_
            refine ml_st (S' := (32, [(0, .ref p), (1, .int x1), (2, .int x2), (3, .int i3)], [.int (i3 - x1)], M)) rfl rfl rfl ?_
            refine ml_st (S' := (35, [(0, .ref p), (1, .int x1), (2, .int x2), (3, .int i3)], [.int 255, .int (i3 - x1)], M)) rfl rfl rfl ?_
            refine ml_if2 (S1 := (40, [(0, .ref p), (1, .int x1), (2, .int x2), (3, .int i3)], [], M)) (S2 := (38, [], [], M)) rfl rfl rfl (fun c_35 => ?_) (fun c_35 => ?_)
            · have c_35 : (i3 - x1) ≤ 255 := of_decide_eq_true c_35
              refine ml_st (S' := (41, [(0, .ref p), (1, .int x1), (2, .int x2), (3, .int i3)], [.ref p], M)) rfl rfl rfl ?_
              refine mo_get (S' := (44, [(0, .ref p), (1, .int x1), (2, .int x2), (3, .int i3)], [.ref (q 6)], M)) rfl hP.1 rfl rfl ?_
              refine ml_st (S' := (45, [(0, .ref p), (1, .int x1), (2, .int x2), (3, .int i3)], [.int i3, .ref (q 6)], M)) rfl rfl rfl ?_
              refine mo_ald (S' := (46, [(0, .ref p), (1, .int x1), (2, .int x2), (3, .int i3)], [.int ((f 6) (Int32.toNatClampNeg i3))], M)) rfl hP.2.2 (vin_end h0 c_26 h2) rfl ?_
              refine ml_sw rfl (fun t_46 ht_46 => ?_)
              have ht_46 : t_46 ∈ [160, 164, 194] := mi_sw_sub ht_46 (by decide)
              simp only [List.mem_cons, List.not_mem_nil, or_false] at ht_46
              rcases ht_46 with rfl | rfl | rfl
              · show ml _ _ _ (160, [(0, .ref p), (1, .int x1), (2, .int x2), (3, .int i3)], [], M) _
                refine ml_st (S' := (161, [(0, .ref p), (1, .int x1), (2, .int x2), (3, .int i3)], [.int i3], M)) rfl rfl rfl ?_
                refine ml_st (S' := (162, [(0, .ref p), (1, .int x1), (2, .int x2), (3, .int i3)], [.int 1, .int i3], M)) rfl rfl rfl ?_
                refine ml_st (S' := (163, [(0, .ref p), (1, .int x1), (2, .int x2), (3, .int i3)], [.int (i3 + 1)], M)) rfl rfl rfl ?_
                exact ml_ret rfl (rfl) (⟨⟨_, rfl, by first | exact Or.inl rfl | exact Or.inr (up1 h0 c_26) | exact Or.inr (up1 (nneg c_176) (Int32.not_le.mpr c_182))⟩, rfl⟩)
              · show ml _ _ _ (164, [(0, .ref p), (1, .int x1), (2, .int x2), (3, .int i3)], [], M) _
                refine ml_st (S' := (165, [(0, .ref p), (1, .int x1), (2, .int x2), (3, .int i3)], [.ref p], M)) rfl rfl rfl ?_
                refine ml_st (S' := (166, [(0, .ref p), (1, .int x1), (2, .int x2), (3, .int i3)], [.int i3, .ref p], M)) rfl rfl rfl ?_
                refine ml_st (S' := (167, [(0, .ref p), (1, .int x1), (2, .int x2), (3, .int i3)], [.int 1, .int i3, .ref p], M)) rfl rfl rfl ?_
                refine ml_st (S' := (168, [(0, .ref p), (1, .int x1), (2, .int x2), (3, .int i3)], [.int (i3 + 1), .ref p], M)) rfl rfl rfl ?_
                refine ml_st (S' := (169, [(0, .ref p), (1, .int x1), (2, .int x2), (3, .int i3)], [.int x2, .int (i3 + 1), .ref p], M)) rfl rfl rfl ?_
                refine ml_call (a := [.ref p, .int (i3 + 1), .int x2]) (rest := []) rfl (okc_v rfl rfl rfl hP.1) rfl rfl (ct_nameEnd hP (by rw [inc_lt (Int32.not_le.mp c_26)]; omega) h2 (by omega)) (fun v9 M9 h9 => ?_)
                obtain ⟨⟨r9, rfl⟩, h9⟩ := h9
                rw [h9]
                show ml _ _ _ (172, [(0, .ref p), (1, .int x1), (2, .int x2), (3, .int i3)], [.int r9], M) _
                refine ml_st (S' := (174, [(4, .int r9), (0, .ref p), (1, .int x1), (2, .int x2), (3, .int i3)], [], M)) rfl rfl rfl ?_
                refine ml_st (S' := (176, [(4, .int r9), (0, .ref p), (1, .int x1), (2, .int x2), (3, .int i3)], [.int r9], M)) rfl rfl rfl ?_
                refine ml_if (S1 := (185, [], [], M)) (S2 := (179, [(4, .int r9), (0, .ref p), (1, .int x1), (2, .int x2), (3, .int i3)], [], M)) rfl rfl rfl (fun c_176 => ?_) (fun c_176 => ?_)
                · have c_176 : r9 < 0 := of_decide_eq_true c_176
                  refine ml_st (S' := (186, [], [.int (-1)], M)) rfl rfl rfl ?_
                  refine ml_st (S' := (193, [], [.int (-1)], M)) rfl rfl rfl ?_
                  exact ml_ret rfl (rfl) (⟨⟨_, rfl, by first | exact Or.inl rfl | exact Or.inr (up1 h0 c_26) | exact Or.inr (up1 (nneg c_176) (Int32.not_le.mpr c_182))⟩, rfl⟩)
                · have c_176 : ¬ (r9 < 0) := of_decide_eq_false c_176
                  refine ml_st (S' := (181, [(4, .int r9), (0, .ref p), (1, .int x1), (2, .int x2), (3, .int i3)], [.int r9], M)) rfl rfl rfl ?_
                  refine ml_st (S' := (182, [(4, .int r9), (0, .ref p), (1, .int x1), (2, .int x2), (3, .int i3)], [.int x2, .int r9], M)) rfl rfl rfl ?_
                  refine ml_if2 (S1 := (189, [(4, .int r9), (0, .ref p), (1, .int x1), (2, .int x2), (3, .int i3)], [], M)) (S2 := (185, [], [], M)) rfl rfl rfl (fun c_182 => ?_) (fun c_182 => ?_)
                  · have c_182 : r9 < x2 := of_decide_eq_true c_182
                    refine ml_st (S' := (191, [(4, .int r9), (0, .ref p), (1, .int x1), (2, .int x2), (3, .int i3)], [.int r9], M)) rfl rfl rfl ?_
                    refine ml_st (S' := (192, [(4, .int r9), (0, .ref p), (1, .int x1), (2, .int x2), (3, .int i3)], [.int 1, .int r9], M)) rfl rfl rfl ?_
                    refine ml_st (S' := (193, [], [.int (r9 + 1)], M)) rfl rfl rfl ?_
                    exact ml_ret rfl (rfl) (⟨⟨_, rfl, by first | exact Or.inl rfl | exact Or.inr (up1 h0 c_26) | exact Or.inr (up1 (nneg c_176) (Int32.not_le.mpr c_182))⟩, rfl⟩)
                  · have c_182 : ¬ (r9 < x2) := of_decide_eq_false c_182
                    refine ml_st (S' := (186, [], [.int (-1)], M)) rfl rfl rfl ?_
                    refine ml_st (S' := (193, [], [.int (-1)], M)) rfl rfl rfl ?_
                    exact ml_ret rfl (rfl) (⟨⟨_, rfl, by first | exact Or.inl rfl | exact Or.inr (up1 h0 c_26) | exact Or.inr (up1 (nneg c_176) (Int32.not_le.mpr c_182))⟩, rfl⟩)
              · show ml _ _ _ (194, [(0, .ref p), (1, .int x1), (2, .int x2), (3, .int i3)], [], M) _
                refine ml_st (S' := (195, [(0, .ref p), (1, .int x1), (2, .int x2), (3, .int i3)], [.int (-1)], M)) rfl rfl rfl ?_
                exact ml_ret rfl (rfl) (⟨⟨_, rfl, by first | exact Or.inl rfl | exact Or.inr (up1 h0 c_26) | exact Or.inr (up1 (nneg c_176) (Int32.not_le.mpr c_182))⟩, rfl⟩)
            · have c_35 : ¬ ((i3 - x1) ≤ 255) := of_decide_eq_false c_35
              refine ml_st (S' := (39, [], [.int (-1)], M)) rfl rfl rfl ?_
              exact ml_ret rfl (rfl) (⟨⟨_, rfl, by first | exact Or.inl rfl | exact Or.inr (up1 h0 c_26) | exact Or.inr (up1 (nneg c_176) (Int32.not_le.mpr c_182))⟩, rfl⟩)
        · have c_15 : ¬ (¬ ((f 6) (Int32.toNatClampNeg i3)) = 91) := of_decide_eq_false c_15
          refine ml_st (S' := (21, [(3, .int (i3 + 1)), (0, .ref p), (1, .int x1), (2, .int x2)], [], M)) rfl rfl rfl ?_
          refine ml_st (S' := (2, [(0, .ref p), (1, .int x1), (2, .int x2), (3, .int (i3 + 1))], [], M)) rfl rfl rfl ?_
          exact ih _ (loop_inc (Int32.not_le.mp c_4) hn) (by rw [inc_lt (Int32.not_le.mp c_4)]; omega)
  refine mt_in (b := mb_142 g) rfl rfl ?_
  show ml (mT g) d (mb_142 g).2 (0, [(0, .ref p), (1, .int x1), (2, .int x2)], [], M) _
  refine ml_st (S' := (1, [(0, .ref p), (1, .int x1), (2, .int x2)], [.int x1], M)) rfl rfl rfl ?_
  refine ml_st (S' := (2, [(0, .ref p), (1, .int x1), (2, .int x2), (3, .int x1)], [], M)) rfl rfl rfl ?_
  exact L2 _ _ (Nat.le_refl _) h1
