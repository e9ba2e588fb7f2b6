/-! the reference: texts (laid by wip/p2/c65.py) -/
theorem nI_up {n : Nat} : (nI n).toInt ≤ (n : Int) := by
  by_cases h : n < 1073741824
  · rw [nI_val h]
    omega
  · have := Int32.toInt_lt (nI n)
    have h2 : (nI n).toInt = (Int32.ofNat n).toInt := rfl
    rw [h2, Int32.toInt_ofNat']
    have h9 : Int.bmod (n : Int) (2 ^ 32) = (n : Int) % (2 ^ 32 : Nat) ∨ Int.bmod (n : Int) (2 ^ 32) = (n : Int) % (2 ^ 32 : Nat) - (2 ^ 32 : Nat) := by
      unfold Int.bmod
      simp only
      split
      · exact Or.inl rfl
      · exact Or.inr rfl
    have h8 : (n : Int) % (2 ^ 32 : Nat) ≤ n := by omega
    rcases h9 with h9 | h9 <;> rw [h9] <;> omega

set_option maxHeartbeats 2000000 in
theorem rm_length {g : xe_G}  {m0 : Nat} {q : Nat → Nat} {z : Nat × Nat} {I : rI} {R : rR} {M : mi_H} {x1 : Int32} {S cN : Nat} {sa sl ch : Nat → Int32}  (hR : RS g m0 q z I R M) (hY : SK S cN sa sl ch I R) (hs0 : 0 ≤ x1.toInt) (hs1 : x1.toInt < S) {d : Nat} (hd : 1 ≤ d) : mt (mT g) d 221 [.ref m0, .int x1] M (fun v M' => v = some (.int (sL sl x1)) ∧ M' = M) := by
  obtain ⟨d, rfl⟩ : ∃ e, d = e + 1 := ⟨d - 1, by omega⟩
  refine mt_in (b := mb_221 g) rfl rfl ?_
  show ml (mT g) d (mb_221 g).2 (0, [(0, .ref m0), (1, .int x1)], [], M) _
  refine ml_st (S' := (1, [(0, .ref m0), (1, .int x1)], [.ref m0], M)) rfl rfl rfl ?_
  refine rg_ref (S' := (4, [(0, .ref m0), (1, .int x1)], [.ref (q 5)], M)) rfl hR rfl rfl ?_
  refine ml_st (S' := (5, [(0, .ref m0), (1, .int x1)], [.int x1, .ref (q 5)], M)) rfl rfl rfl ?_
  refine ra_ld (k := 5) (S' := (6, [(0, .ref m0), (1, .int x1)], [.int (sl (Int32.toNatClampNeg x1))], M)) rfl hR rfl ((hY.s hs0 hs1).2.2.2.2.2.2) ((hY.s hs0 hs1).2.1) rfl ?_
  exact ml_ret rfl (rfl) (⟨rfl, rfl⟩)
set_option maxHeartbeats 2000000 in
theorem rm_at {g : xe_G}  {m0 : Nat} {q : Nat → Nat} {z : Nat × Nat} {I : rI} {R : rR} {M : mi_H} {x1 x2 : Int32} {S cN : Nat} {sa sl ch : Nat → Int32}  (hR : RS g m0 q z I R M) (hY : SK S cN sa sl ch I R) (hs0 : 0 ≤ x1.toInt) (hs1 : x1.toInt < S) (hk0 : 0 ≤ x2.toInt) (hk1 : x2.toInt < (sL sl x1).toInt) {d : Nat} (hd : 1 ≤ d) : mt (mT g) d 176 [.ref m0, .int x1, .int x2] M (fun v M' => v = some (.int (tx sa ch x1 x2)) ∧ M' = M) := by
  obtain ⟨d, rfl⟩ : ∃ e, d = e + 1 := ⟨d - 1, by omega⟩
  refine mt_in (b := mb_176 g) rfl rfl ?_
  show ml (mT g) d (mb_176 g).2 (0, [(0, .ref m0), (1, .int x1), (2, .int x2)], [], M) _
  refine ml_st (S' := (1, [(0, .ref m0), (1, .int x1), (2, .int x2)], [.ref m0], M)) rfl rfl rfl ?_
  refine rg_ref (S' := (4, [(0, .ref m0), (1, .int x1), (2, .int x2)], [.ref (q 1)], M)) rfl hR rfl rfl ?_
  refine ml_st (S' := (5, [(0, .ref m0), (1, .int x1), (2, .int x2)], [.ref m0, .ref (q 1)], M)) rfl rfl rfl ?_
  refine rg_ref (S' := (8, [(0, .ref m0), (1, .int x1), (2, .int x2)], [.ref (q 4), .ref (q 1)], M)) rfl hR rfl rfl ?_
  refine ml_st (S' := (9, [(0, .ref m0), (1, .int x1), (2, .int x2)], [.int x1, .ref (q 4), .ref (q 1)], M)) rfl rfl rfl ?_
  refine ra_ld (k := 4) (S' := (10, [(0, .ref m0), (1, .int x1), (2, .int x2)], [.int (sa (Int32.toNatClampNeg x1)), .ref (q 1)], M)) rfl hR rfl ((hY.s hs0 hs1).2.2.2.2.2.2) ((hY.s hs0 hs1).1) rfl ?_
  refine ml_blk 2 (S' := (12, [(0, .ref m0), (1, .int x1), (2, .int x2)], [.int ((sa (Int32.toNatClampNeg x1)) + x2), .ref (q 1)], M)) rfl ?_
  refine ra_ld (k := 1) (S' := (13, [(0, .ref m0), (1, .int x1), (2, .int x2)], [.int (ch (Int32.toNatClampNeg ((sa (Int32.toNatClampNeg x1)) + x2)))], M)) rfl hR rfl ((hY.t hs0 hs1 hk0 hk1).2.2) ((hY.t hs0 hs1 hk0 hk1).1) rfl ?_
  exact ml_ret rfl (r_c (hY.t hs0 hs1 hk0 hk1).2.1) (⟨rfl, rfl⟩)
set_option maxHeartbeats 2000000 in
theorem rm_is {g : xe_G}  {m0 : Nat} {q : Nat → Nat} {z : Nat × Nat} {I : rI} {R : rR} {M : mi_H} {x1 : Int32} {S cN : Nat} {sa sl ch : Nat → Int32} {lk : Nat}  (hR : RS g m0 q z I R M) (hY : SK S cN sa sl ch I R) (hs0 : 0 ≤ x1.toInt) (hs1 : x1.toInt < S) (hlk : rlk lk) {d : Nat} (hd : 2 ≤ d) : mt (mT g) d 216 [.ref m0, .int x1, .ref (g.2.1 lk)] M (fun v M' => (∃ x : Int32, v = some (.int x) ∧ (x = 0 ∨ x = 1)) ∧ M' = M) := by
  obtain ⟨d, rfl⟩ : ∃ e, d = e + 1 := ⟨d - 1, by omega⟩
  refine mt_in (b := mb_216 g) rfl rfl ?_
  show ml (mT g) d (mb_216 g).2 (0, [(0, .ref m0), (1, .int x1), (2, .ref (g.2.1 lk))], [], M) _
  have hsl := hY.s hs0 hs1
  have hsl0 : 0 ≤ (sL sl x1).toInt := hsl.2.2.2.1
  have hsl1 : (sL sl x1).toInt ≤ 66000 := by have h1 := hsl.2.2.1; have h2 := hsl.2.2.2.2.1; have h3 := hsl.2.2.2.2.2.1; show (sl _).toInt ≤ 66000; omega
  refine ml_blk 2 (S' := (2, [(0, .ref m0), (1, .int x1), (2, .ref (g.2.1 lk))], [.int x1, .ref m0], M)) rfl ?_
  refine ml_call (a := [.ref m0, .int x1]) (rest := []) rfl (hR.okc rfl rfl rfl) rfl rfl (rm_length hR hY (hs0) (hs1) (by omega)) (fun v11 M12 h13 => ?_)
  obtain ⟨rfl, h13⟩ := h13
  rw [h13]
  show ml _ _ _ (5, [(0, .ref m0), (1, .int x1), (2, .ref (g.2.1 lk))], [.int (sL sl x1)], M) _
  refine ml_st (S' := (6, [(0, .ref m0), (1, .int x1), (2, .ref (g.2.1 lk))], [.ref (g.2.1 lk), .int (sL sl x1)], M)) rfl rfl rfl ?_
  obtain ⟨fl14, hl15⟩ := hR.2.2.2.2.2 lk hlk
  refine ml_slen (lk := lk) (S' := (9, [(0, .ref m0), (1, .int x1), (2, .ref (g.2.1 lk))], [.int (nI (xe_lt lk).2.2.2.length), .int (sL sl x1)], M)) rfl hl15 hlk.2 rfl rfl ?_
  refine ml_if2 (S1 := (14, [(0, .ref m0), (1, .int x1), (2, .ref (g.2.1 lk))], [], M)) (S2 := (12, [(0, .ref m0), (1, .int x1), (2, .ref (g.2.1 lk))], [], M)) rfl rfl rfl (fun c_9 => ?_) (fun c_9 => ?_)
  · have c_9 : (sL sl x1) = (nI (xe_lt lk).2.2.2.length) := of_decide_eq_true c_9
    refine ml_st (S' := (15, [(0, .ref m0), (1, .int x1), (2, .ref (g.2.1 lk))], [.int 0], M)) rfl rfl rfl ?_
    refine ml_st (S' := (16, [(0, .ref m0), (1, .int x1), (2, .ref (g.2.1 lk)), (3, .int 0)], [], M)) rfl rfl rfl ?_
    have L_16 : ∀ (n_16 : Nat) (i16_3 : Int32), (2147483648 - i16_3.toInt).toNat ≤ n_16 → 0 ≤ i16_3.toInt → ml (mT g) d (mb_216 g).2 (16, [(0, .ref m0), (1, .int x1), (2, .ref (g.2.1 lk)), (3, .int i16_3)], [], M) (fun v M' => (∃ x : Int32, v = some (.int x) ∧ (x = 0 ∨ x = 1)) ∧ M' = M) := by
      intro n_16
      induction n_16 with
      | zero => intro i16_3 hn; exact (loop_zero hn).elim
      | succ n_16 ih_16 =>
        intro i16_3 hn_16 hi_16
        refine ml_blk 2 (S' := (18, [(0, .ref m0), (1, .int x1), (2, .ref (g.2.1 lk)), (3, .int i16_3)], [.ref (g.2.1 lk), .int i16_3], M)) rfl ?_
        obtain ⟨fl16, hl17⟩ := hR.2.2.2.2.2 lk hlk
        refine ml_slen (lk := lk) (S' := (21, [(0, .ref m0), (1, .int x1), (2, .ref (g.2.1 lk)), (3, .int i16_3)], [.int (nI (xe_lt lk).2.2.2.length), .int i16_3], M)) rfl hl17 hlk.2 rfl rfl ?_
        refine ml_if2 (S1 := (46, [(0, .ref m0), (1, .int x1), (2, .ref (g.2.1 lk)), (3, .int i16_3)], [], M)) (S2 := (24, [(0, .ref m0), (1, .int x1), (2, .ref (g.2.1 lk)), (3, .int i16_3)], [], M)) rfl rfl rfl (fun c_21 => ?_) (fun c_21 => ?_)
        · have c_21 : (nI (xe_lt lk).2.2.2.length) ≤ i16_3 := of_decide_eq_true c_21
          refine ml_st (S' := (47, [(0, .ref m0), (1, .int x1), (2, .ref (g.2.1 lk)), (3, .int i16_3)], [.int 1], M)) rfl rfl rfl ?_
          exact ml_ret rfl (r_z (Or.inr rfl)) (⟨⟨_, rfl, Or.inr rfl⟩, rfl⟩)
        · have c_21 : ¬ ((nI (xe_lt lk).2.2.2.length) ≤ i16_3) := of_decide_eq_false c_21
          refine ml_blk 3 (S' := (27, [(0, .ref m0), (1, .int x1), (2, .ref (g.2.1 lk)), (3, .int i16_3)], [.int i16_3, .int x1, .ref m0], M)) rfl ?_
          refine ml_call (a := [.ref m0, .int x1, .int i16_3]) (rest := []) rfl (hR.okc rfl rfl rfl) rfl rfl (rm_at hR hY (hs0) (hs1) (hi_16) (by have q := i_nle c_21; rw [show (sL sl x1) = nI (xe_lt lk).2.2.2.length from c_9]; exact q) (by omega)) (fun v18 M19 h20 => ?_)
          obtain ⟨rfl, h20⟩ := h20
          rw [h20]
          show ml _ _ _ (30, [(0, .ref m0), (1, .int x1), (2, .ref (g.2.1 lk)), (3, .int i16_3)], [.int (tx sa ch x1 i16_3)], M) _
          refine ml_blk 2 (S' := (32, [(0, .ref m0), (1, .int x1), (2, .ref (g.2.1 lk)), (3, .int i16_3)], [.int i16_3, .ref (g.2.1 lk), .int (tx sa ch x1 i16_3)], M)) rfl ?_
          obtain ⟨fl21, hl22⟩ := hR.2.2.2.2.2 lk hlk
          refine ml_scat (lk := lk) (S' := (35, [(0, .ref m0), (1, .int x1), (2, .ref (g.2.1 lk)), (3, .int i16_3)], [.int (xe_ch lk (Int32.toNatClampNeg i16_3)), .int (tx sa ch x1 i16_3)], M)) rfl hl22 hlk.2 rfl (nlt0 hi_16) (by have q := i_nle c_21; have q2 := congrArg Int32.toInt (show (sL sl x1) = nI (xe_lt lk).2.2.2.length from c_9); show i16_3.toInt.toNat < _; have q3 : (nI (xe_lt lk).2.2.2.length).toInt ≤ ((xe_lt lk).2.2.2.length : Int) := nI_up; omega) rfl ?_
          refine ml_if2 (S1 := (40, [(0, .ref m0), (1, .int x1), (2, .ref (g.2.1 lk)), (3, .int i16_3)], [], M)) (S2 := (38, [(0, .ref m0), (1, .int x1), (2, .ref (g.2.1 lk)), (3, .int i16_3)], [], M)) rfl rfl rfl (fun c_35 => ?_) (fun c_35 => ?_)
          · have c_35 : (tx sa ch x1 i16_3) = (xe_ch lk (Int32.toNatClampNeg i16_3)) := of_decide_eq_true c_35
            refine ml_st (S' := (43, [(3, .int (i16_3 + 1)), (0, .ref m0), (1, .int x1), (2, .ref (g.2.1 lk))], [], M)) rfl rfl rfl ?_
            refine ml_st (S' := (16, [(0, .ref m0), (1, .int x1), (2, .ref (g.2.1 lk)), (3, .int (i16_3 + 1))], [], M)) rfl rfl rfl ?_
            exact ih_16 (i16_3 + 1) (loop_inc (Int32.not_le.mp c_21) hn_16) (by rw [inc_lt (Int32.not_le.mp c_21)]; omega)
          · have c_35 : ¬ ((tx sa ch x1 i16_3) = (xe_ch lk (Int32.toNatClampNeg i16_3))) := of_decide_eq_false c_35
            refine ml_st (S' := (39, [(0, .ref m0), (1, .int x1), (2, .ref (g.2.1 lk)), (3, .int i16_3)], [.int 0], M)) rfl rfl rfl ?_
            exact ml_ret rfl (r_z (Or.inl rfl)) (⟨⟨_, rfl, Or.inl rfl⟩, rfl⟩)
    exact L_16 _ 0 (Nat.le_refl _) (by decide)
  · have c_9 : ¬ ((sL sl x1) = (nI (xe_lt lk).2.2.2.length)) := of_decide_eq_false c_9
    refine ml_st (S' := (13, [(0, .ref m0), (1, .int x1), (2, .ref (g.2.1 lk))], [.int 0], M)) rfl rfl rfl ?_
    exact ml_ret rfl (r_z (Or.inl rfl)) (⟨⟨_, rfl, Or.inl rfl⟩, rfl⟩)
set_option maxHeartbeats 2000000 in
theorem rm_unqualified {g : xe_G}  {m0 : Nat} {q : Nat → Nat} {z : Nat × Nat} {I : rI} {R : rR} {M : mi_H} {x1 x2 : Int32} {S cN : Nat} {sa sl ch : Nat → Int32}  (hR : RS g m0 q z I R M) (hY : SK S cN sa sl ch I R) (hs0 : 0 ≤ x1.toInt) (hs1 : x1.toInt < S) {d : Nat} (hd : 2 ≤ d) : mt (mT g) d 251 [.ref m0, .int x1, .int x2] M (fun v M' => (∃ x : Int32, v = some (.int x) ∧ (x = 0 ∨ x = 1)) ∧ M' = M) := by
  obtain ⟨d, rfl⟩ : ∃ e, d = e + 1 := ⟨d - 1, by omega⟩
  refine mt_in (b := mb_251 g) rfl rfl ?_
  show ml (mT g) d (mb_251 g).2 (0, [(0, .ref m0), (1, .int x1), (2, .int x2)], [], M) _
  refine ml_blk 2 (S' := (2, [(0, .ref m0), (1, .int x1), (2, .int x2)], [.int x1, .ref m0], M)) rfl ?_
  refine ml_call (a := [.ref m0, .int x1]) (rest := []) rfl (hR.okc rfl rfl rfl) rfl rfl (rm_length hR hY (hs0) (hs1) (by omega)) (fun v11 M12 h13 => ?_)
  obtain ⟨rfl, h13⟩ := h13
  rw [h13]
  show ml _ _ _ (5, [(0, .ref m0), (1, .int x1), (2, .int x2)], [.int (sL sl x1)], M) _
  refine ml_st (S' := (6, [(3, .int (sL sl x1)), (0, .ref m0), (1, .int x1), (2, .int x2)], [], M)) rfl rfl rfl ?_
  refine ml_st (S' := (7, [(3, .int (sL sl x1)), (0, .ref m0), (1, .int x1), (2, .int x2)], [.int 0], M)) rfl rfl rfl ?_
  refine ml_st (S' := (9, [(0, .ref m0), (1, .int x1), (2, .int x2), (3, .int (sL sl x1)), (4, .int 0)], [], M)) rfl rfl rfl ?_
  have L_9 : ∀ (n_9 : Nat) (i9_4 : Int32), (2147483648 - i9_4.toInt).toNat ≤ n_9 → 0 ≤ i9_4.toInt → ml (mT g) d (mb_251 g).2 (9, [(0, .ref m0), (1, .int x1), (2, .int x2), (3, .int (sL sl x1)), (4, .int i9_4)], [], M) (fun v M' => (∃ x : Int32, v = some (.int x) ∧ (x = 0 ∨ x = 1)) ∧ M' = M) := by
    intro n_9
    induction n_9 with
    | zero => intro i9_4 hn; exact (loop_zero hn).elim
    | succ n_9 ih_9 =>
      intro i9_4 hn_9 hi_9
      refine ml_blk 2 (S' := (12, [(0, .ref m0), (1, .int x1), (2, .int x2), (3, .int (sL sl x1)), (4, .int i9_4)], [.int (sL sl x1), .int i9_4], M)) rfl ?_
      refine ml_if2 (S1 := (78, [(0, .ref m0), (1, .int x1), (2, .int x2), (3, .int (sL sl x1)), (4, .int i9_4)], [], M)) (S2 := (15, [(0, .ref m0), (1, .int x1), (2, .int x2), (3, .int (sL sl x1)), (4, .int i9_4)], [], M)) rfl rfl rfl (fun c_12 => ?_) (fun c_12 => ?_)
      · have c_12 : (sL sl x1) ≤ i9_4 := of_decide_eq_true c_12
        refine ml_st (S' := (79, [(0, .ref m0), (1, .int x1), (2, .int x2), (3, .int (sL sl x1)), (4, .int i9_4)], [.int (sL sl x1)], M)) rfl rfl rfl ?_
        refine ml_if (S1 := (86, [(0, .ref m0), (1, .int x1), (2, .int x2), (3, .int (sL sl x1)), (4, .int i9_4)], [], M)) (S2 := (82, [(0, .ref m0), (1, .int x1), (2, .int x2), (3, .int (sL sl x1)), (4, .int i9_4)], [], M)) rfl rfl rfl (fun c_79 => ?_) (fun c_79 => ?_)
        · have c_79 : (sL sl x1) ≤ 0 := of_decide_eq_true c_79
          refine ml_st (S' := (87, [], [.int 0], M)) rfl rfl rfl ?_
          exact ml_ret rfl (r_z (Or.inl rfl)) (⟨⟨_, rfl, Or.inl rfl⟩, rfl⟩)
        · have c_79 : ¬ ((sL sl x1) ≤ 0) := of_decide_eq_false c_79
          refine ml_st (S' := (83, [(0, .ref m0), (1, .int x1), (2, .int x2), (3, .int (sL sl x1)), (4, .int i9_4)], [.int 1], M)) rfl rfl rfl ?_
          refine ml_st (S' := (87, [], [.int 1], M)) rfl rfl rfl ?_
          exact ml_ret rfl (r_z (Or.inr rfl)) (⟨⟨_, rfl, Or.inr rfl⟩, rfl⟩)
      · have c_12 : ¬ ((sL sl x1) ≤ i9_4) := of_decide_eq_false c_12
        refine ml_blk 3 (S' := (19, [(0, .ref m0), (1, .int x1), (2, .int x2), (3, .int (sL sl x1)), (4, .int i9_4)], [.int i9_4, .int x1, .ref m0], M)) rfl ?_
        refine ml_call (a := [.ref m0, .int x1, .int i9_4]) (rest := []) rfl (hR.okc rfl rfl rfl) rfl rfl (rm_at hR hY (hs0) (hs1) (hi_9) (i_nle c_12) (by omega)) (fun v14 M15 h16 => ?_)
        obtain ⟨rfl, h16⟩ := h16
        rw [h16]
        show ml _ _ _ (22, [(0, .ref m0), (1, .int x1), (2, .int x2), (3, .int (sL sl x1)), (4, .int i9_4)], [.int (tx sa ch x1 i9_4)], M) _
        refine ml_st (S' := (24, [(5, .int (tx sa ch x1 i9_4)), (0, .ref m0), (1, .int x1), (2, .int x2), (3, .int (sL sl x1)), (4, .int i9_4)], [], M)) rfl rfl rfl ?_
        refine ml_blk 2 (S' := (28, [(5, .int (tx sa ch x1 i9_4)), (0, .ref m0), (1, .int x1), (2, .int x2), (3, .int (sL sl x1)), (4, .int i9_4)], [.int 46, .int (tx sa ch x1 i9_4)], M)) rfl ?_
        refine ml_if2 (S1 := (70, [], [], M)) (S2 := (31, [(5, .int (tx sa ch x1 i9_4)), (0, .ref m0), (1, .int x1), (2, .int x2), (3, .int (sL sl x1)), (4, .int i9_4)], [], M)) rfl rfl rfl (fun c_28 => ?_) (fun c_28 => ?_)
        · have c_28 : (tx sa ch x1 i9_4) = 46 := of_decide_eq_true c_28
          refine ml_st (S' := (71, [], [.int 0], M)) rfl rfl rfl ?_
          exact ml_ret rfl (r_z (Or.inl rfl)) (⟨⟨_, rfl, Or.inl rfl⟩, rfl⟩)
        · have c_28 : ¬ ((tx sa ch x1 i9_4) = 46) := of_decide_eq_false c_28
          refine ml_blk 2 (S' := (35, [(5, .int (tx sa ch x1 i9_4)), (0, .ref m0), (1, .int x1), (2, .int x2), (3, .int (sL sl x1)), (4, .int i9_4)], [.int 59, .int (tx sa ch x1 i9_4)], M)) rfl ?_
          refine ml_if2 (S1 := (70, [], [], M)) (S2 := (38, [(5, .int (tx sa ch x1 i9_4)), (0, .ref m0), (1, .int x1), (2, .int x2), (3, .int (sL sl x1)), (4, .int i9_4)], [], M)) rfl rfl rfl (fun c_35 => ?_) (fun c_35 => ?_)
          · have c_35 : (tx sa ch x1 i9_4) = 59 := of_decide_eq_true c_35
            refine ml_st (S' := (71, [], [.int 0], M)) rfl rfl rfl ?_
            exact ml_ret rfl (r_z (Or.inl rfl)) (⟨⟨_, rfl, Or.inl rfl⟩, rfl⟩)
          · have c_35 : ¬ ((tx sa ch x1 i9_4) = 59) := of_decide_eq_false c_35
            refine ml_blk 2 (S' := (42, [(5, .int (tx sa ch x1 i9_4)), (0, .ref m0), (1, .int x1), (2, .int x2), (3, .int (sL sl x1)), (4, .int i9_4)], [.int 91, .int (tx sa ch x1 i9_4)], M)) rfl ?_
            refine ml_if2 (S1 := (70, [], [], M)) (S2 := (45, [(5, .int (tx sa ch x1 i9_4)), (0, .ref m0), (1, .int x1), (2, .int x2), (3, .int (sL sl x1)), (4, .int i9_4)], [], M)) rfl rfl rfl (fun c_42 => ?_) (fun c_42 => ?_)
            · have c_42 : (tx sa ch x1 i9_4) = 91 := of_decide_eq_true c_42
              refine ml_st (S' := (71, [], [.int 0], M)) rfl rfl rfl ?_
              exact ml_ret rfl (r_z (Or.inl rfl)) (⟨⟨_, rfl, Or.inl rfl⟩, rfl⟩)
            · have c_42 : ¬ ((tx sa ch x1 i9_4) = 91) := of_decide_eq_false c_42
              refine ml_blk 2 (S' := (49, [(5, .int (tx sa ch x1 i9_4)), (0, .ref m0), (1, .int x1), (2, .int x2), (3, .int (sL sl x1)), (4, .int i9_4)], [.int 47, .int (tx sa ch x1 i9_4)], M)) rfl ?_
              refine ml_if2 (S1 := (70, [], [], M)) (S2 := (52, [(5, .int (tx sa ch x1 i9_4)), (0, .ref m0), (1, .int x1), (2, .int x2), (3, .int (sL sl x1)), (4, .int i9_4)], [], M)) rfl rfl rfl (fun c_49 => ?_) (fun c_49 => ?_)
              · have c_49 : (tx sa ch x1 i9_4) = 47 := of_decide_eq_true c_49
                refine ml_st (S' := (71, [], [.int 0], M)) rfl rfl rfl ?_
                exact ml_ret rfl (r_z (Or.inl rfl)) (⟨⟨_, rfl, Or.inl rfl⟩, rfl⟩)
              · have c_49 : ¬ ((tx sa ch x1 i9_4) = 47) := of_decide_eq_false c_49
                refine ml_st (S' := (53, [(5, .int (tx sa ch x1 i9_4)), (0, .ref m0), (1, .int x1), (2, .int x2), (3, .int (sL sl x1)), (4, .int i9_4)], [.int x2], M)) rfl rfl rfl ?_
                refine ml_if (S1 := (72, [(0, .ref m0), (1, .int x1), (2, .int x2), (3, .int (sL sl x1)), (4, .int i9_4)], [], M)) (S2 := (56, [(5, .int (tx sa ch x1 i9_4)), (0, .ref m0), (1, .int x1), (2, .int x2), (3, .int (sL sl x1)), (4, .int i9_4)], [], M)) rfl rfl rfl (fun c_53 => ?_) (fun c_53 => ?_)
                · have c_53 : ¬ x2 = 0 := of_decide_eq_true c_53
                  refine ml_st (S' := (75, [(4, .int (i9_4 + 1)), (0, .ref m0), (1, .int x1), (2, .int x2), (3, .int (sL sl x1))], [], M)) rfl rfl rfl ?_
                  refine ml_st (S' := (9, [(0, .ref m0), (1, .int x1), (2, .int x2), (3, .int (sL sl x1)), (4, .int (i9_4 + 1))], [], M)) rfl rfl rfl ?_
                  exact ih_9 (i9_4 + 1) (loop_inc (Int32.not_le.mp c_12) hn_9) (by rw [inc_lt (Int32.not_le.mp c_12)]; omega)
                · have c_53 : ¬ (¬ x2 = 0) := of_decide_eq_false c_53
                  refine ml_blk 2 (S' := (60, [(5, .int (tx sa ch x1 i9_4)), (0, .ref m0), (1, .int x1), (2, .int x2), (3, .int (sL sl x1)), (4, .int i9_4)], [.int 60, .int (tx sa ch x1 i9_4)], M)) rfl ?_
                  refine ml_if2 (S1 := (70, [], [], M)) (S2 := (63, [(5, .int (tx sa ch x1 i9_4)), (0, .ref m0), (1, .int x1), (2, .int x2), (3, .int (sL sl x1)), (4, .int i9_4)], [], M)) rfl rfl rfl (fun c_60 => ?_) (fun c_60 => ?_)
                  · have c_60 : (tx sa ch x1 i9_4) = 60 := of_decide_eq_true c_60
                    refine ml_st (S' := (71, [], [.int 0], M)) rfl rfl rfl ?_
                    exact ml_ret rfl (r_z (Or.inl rfl)) (⟨⟨_, rfl, Or.inl rfl⟩, rfl⟩)
                  · have c_60 : ¬ ((tx sa ch x1 i9_4) = 60) := of_decide_eq_false c_60
                    refine ml_blk 2 (S' := (67, [(5, .int (tx sa ch x1 i9_4)), (0, .ref m0), (1, .int x1), (2, .int x2), (3, .int (sL sl x1)), (4, .int i9_4)], [.int 62, .int (tx sa ch x1 i9_4)], M)) rfl ?_
                    refine ml_if2 (S1 := (72, [(0, .ref m0), (1, .int x1), (2, .int x2), (3, .int (sL sl x1)), (4, .int i9_4)], [], M)) (S2 := (70, [], [], M)) rfl rfl rfl (fun c_67 => ?_) (fun c_67 => ?_)
                    · have c_67 : ¬ (tx sa ch x1 i9_4) = 62 := of_decide_eq_true c_67
                      refine ml_st (S' := (75, [(4, .int (i9_4 + 1)), (0, .ref m0), (1, .int x1), (2, .int x2), (3, .int (sL sl x1))], [], M)) rfl rfl rfl ?_
                      refine ml_st (S' := (9, [(0, .ref m0), (1, .int x1), (2, .int x2), (3, .int (sL sl x1)), (4, .int (i9_4 + 1))], [], M)) rfl rfl rfl ?_
                      exact ih_9 (i9_4 + 1) (loop_inc (Int32.not_le.mp c_12) hn_9) (by rw [inc_lt (Int32.not_le.mp c_12)]; omega)
                    · have c_67 : ¬ (¬ (tx sa ch x1 i9_4) = 62) := of_decide_eq_false c_67
                      refine ml_st (S' := (71, [], [.int 0], M)) rfl rfl rfl ?_
                      exact ml_ret rfl (r_z (Or.inl rfl)) (⟨⟨_, rfl, Or.inl rfl⟩, rfl⟩)
  exact L_9 _ 0 (Nat.le_refl _) (by decide)
set_option maxHeartbeats 2000000 in
theorem rm_angles {g : xe_G}  {m0 : Nat} {q : Nat → Nat} {z : Nat × Nat} {I : rI} {R : rR} {M : mi_H} {x1 : Int32} {S cN : Nat} {sa sl ch : Nat → Int32}  (hR : RS g m0 q z I R M) (hY : SK S cN sa sl ch I R) (hs0 : 0 ≤ x1.toInt) (hs1 : x1.toInt < S) {d : Nat} (hd : 2 ≤ d) : mt (mT g) d 175 [.ref m0, .int x1] M (fun v M' => (∃ x : Int32, v = some (.int x) ∧ (x = 0 ∨ x = 1)) ∧ M' = M) := by
  obtain ⟨d, rfl⟩ : ∃ e, d = e + 1 := ⟨d - 1, by omega⟩
  refine mt_in (b := mb_175 g) rfl rfl ?_
  show ml (mT g) d (mb_175 g).2 (0, [(0, .ref m0), (1, .int x1)], [], M) _
  refine ml_st (S' := (1, [(0, .ref m0), (1, .int x1)], [.int 0], M)) rfl rfl rfl ?_
  refine ml_st (S' := (2, [(0, .ref m0), (1, .int x1), (2, .int 0)], [], M)) rfl rfl rfl ?_
  have L_2 : ∀ (n_2 : Nat) (i2_2 : Int32), (2147483648 - i2_2.toInt).toNat ≤ n_2 → 0 ≤ i2_2.toInt → ml (mT g) d (mb_175 g).2 (2, [(0, .ref m0), (1, .int x1), (2, .int i2_2)], [], M) (fun v M' => (∃ x : Int32, v = some (.int x) ∧ (x = 0 ∨ x = 1)) ∧ M' = M) := by
    intro n_2
    induction n_2 with
    | zero => intro i2_2 hn; exact (loop_zero hn).elim
    | succ n_2 ih_2 =>
      intro i2_2 hn_2 hi_2
      refine ml_blk 3 (S' := (5, [(0, .ref m0), (1, .int x1), (2, .int i2_2)], [.int x1, .ref m0, .int i2_2], M)) rfl ?_
      refine ml_call (a := [.ref m0, .int x1]) (rest := [.int i2_2]) rfl (hR.okc rfl rfl rfl) rfl rfl (rm_length hR hY (hs0) (hs1) (by omega)) (fun v11 M12 h13 => ?_)
      obtain ⟨rfl, h13⟩ := h13
      rw [h13]
      show ml _ _ _ (8, [(0, .ref m0), (1, .int x1), (2, .int i2_2)], [.int (sL sl x1), .int i2_2], M) _
      refine ml_if2 (S1 := (41, [(0, .ref m0), (1, .int x1), (2, .int i2_2)], [], M)) (S2 := (11, [(0, .ref m0), (1, .int x1), (2, .int i2_2)], [], M)) rfl rfl rfl (fun c_8 => ?_) (fun c_8 => ?_)
      · have c_8 : (sL sl x1) ≤ i2_2 := of_decide_eq_true c_8
        refine ml_st (S' := (42, [(0, .ref m0), (1, .int x1), (2, .int i2_2)], [.int 0], M)) rfl rfl rfl ?_
        exact ml_ret rfl (r_z (Or.inl rfl)) (⟨⟨_, rfl, Or.inl rfl⟩, rfl⟩)
      · have c_8 : ¬ ((sL sl x1) ≤ i2_2) := of_decide_eq_false c_8
        refine ml_blk 3 (S' := (14, [(0, .ref m0), (1, .int x1), (2, .int i2_2)], [.int i2_2, .int x1, .ref m0], M)) rfl ?_
        refine ml_call (a := [.ref m0, .int x1, .int i2_2]) (rest := []) rfl (hR.okc rfl rfl rfl) rfl rfl (rm_at hR hY (hs0) (hs1) (hi_2) (i_nle c_8) (by omega)) (fun v14 M15 h16 => ?_)
        obtain ⟨rfl, h16⟩ := h16
        rw [h16]
        show ml _ _ _ (17, [(0, .ref m0), (1, .int x1), (2, .int i2_2)], [.int (tx sa ch x1 i2_2)], M) _
        refine ml_st (S' := (19, [(0, .ref m0), (1, .int x1), (2, .int i2_2)], [.int 60, .int (tx sa ch x1 i2_2)], M)) rfl rfl rfl ?_
        refine ml_if2 (S1 := (33, [], [], M)) (S2 := (22, [(0, .ref m0), (1, .int x1), (2, .int i2_2)], [], M)) rfl rfl rfl (fun c_19 => ?_) (fun c_19 => ?_)
        · have c_19 : (tx sa ch x1 i2_2) = 60 := of_decide_eq_true c_19
          refine ml_st (S' := (34, [], [.int 1], M)) rfl rfl rfl ?_
          exact ml_ret rfl (r_z (Or.inr rfl)) (⟨⟨_, rfl, Or.inr rfl⟩, rfl⟩)
        · have c_19 : ¬ ((tx sa ch x1 i2_2) = 60) := of_decide_eq_false c_19
          refine ml_blk 3 (S' := (25, [(0, .ref m0), (1, .int x1), (2, .int i2_2)], [.int i2_2, .int x1, .ref m0], M)) rfl ?_
          refine ml_call (a := [.ref m0, .int x1, .int i2_2]) (rest := []) rfl (hR.okc rfl rfl rfl) rfl rfl (rm_at hR hY (hs0) (hs1) (hi_2) (i_nle c_8) (by omega)) (fun v17 M18 h19 => ?_)
          obtain ⟨rfl, h19⟩ := h19
          rw [h19]
          show ml _ _ _ (28, [(0, .ref m0), (1, .int x1), (2, .int i2_2)], [.int (tx sa ch x1 i2_2)], M) _
          refine ml_st (S' := (30, [(0, .ref m0), (1, .int x1), (2, .int i2_2)], [.int 62, .int (tx sa ch x1 i2_2)], M)) rfl rfl rfl ?_
          refine ml_if2 (S1 := (35, [(0, .ref m0), (1, .int x1), (2, .int i2_2)], [], M)) (S2 := (33, [], [], M)) rfl rfl rfl (fun c_30 => ?_) (fun c_30 => ?_)
          · have c_30 : ¬ (tx sa ch x1 i2_2) = 62 := of_decide_eq_true c_30
            refine ml_st (S' := (38, [(2, .int (i2_2 + 1)), (0, .ref m0), (1, .int x1)], [], M)) rfl rfl rfl ?_
            refine ml_st (S' := (2, [(0, .ref m0), (1, .int x1), (2, .int (i2_2 + 1))], [], M)) rfl rfl rfl ?_
            exact ih_2 (i2_2 + 1) (loop_inc (Int32.not_le.mp c_8) hn_2) (by rw [inc_lt (Int32.not_le.mp c_8)]; omega)
          · have c_30 : ¬ (¬ (tx sa ch x1 i2_2) = 62) := of_decide_eq_false c_30
            refine ml_st (S' := (34, [], [.int 1], M)) rfl rfl rfl ?_
            exact ml_ret rfl (r_z (Or.inr rfl)) (⟨⟨_, rfl, Or.inr rfl⟩, rfl⟩)
  exact L_2 _ 0 (Nat.le_refl _) (by decide)
set_option maxHeartbeats 2000000 in
theorem rm_nameText {g : xe_G}  {m0 : Nat} {q : Nat → Nat} {z : Nat × Nat} {I : rI} {R : rR} {M : mi_H} {x1 x2 x3 : Int32} {S cN : Nat} {sa sl ch : Nat → Int32}  (hR : RS g m0 q z I R M) (hY : SK S cN sa sl ch I R) (hs0 : 0 ≤ x1.toInt) (hs1 : x1.toInt < S) (h20 : 0 ≤ x2.toInt) (h231 : x2.toInt ≤ x3.toInt + 1) (h3n : x3.toInt ≤ (sL sl x1).toInt) {d : Nat} (hd : 2 ≤ d) : mt (mT g) d 226 [.ref m0, .int x1, .int x2, .int x3] M (fun v M' => v = some (.int (ntv (tx sa ch x1) x2 x3)) ∧ M' = M) := by
  obtain ⟨d, rfl⟩ : ∃ e, d = e + 1 := ⟨d - 1, by omega⟩
  refine mt_in (b := mb_226 g) rfl rfl ?_
  show ml (mT g) d (mb_226 g).2 (0, [(0, .ref m0), (1, .int x1), (2, .int x2), (3, .int x3)], [], M) _
  have hsl := hY.s hs0 hs1
  have hsl0 : 0 ≤ (sL sl x1).toInt := hsl.2.2.2.1
  have hsl1 : (sL sl x1).toInt ≤ 66000 := by have h1 := hsl.2.2.1; have h2 := hsl.2.2.2.2.1; have h3 := hsl.2.2.2.2.2.1; show (sl _).toInt ≤ 66000; omega
  refine ml_blk 3 (S' := (3, [(0, .ref m0), (1, .int x1), (2, .int x2), (3, .int x3)], [.int (x2 - 1)], M)) rfl ?_
  refine ml_st (S' := (5, [(4, .int (x2 - 1)), (0, .ref m0), (1, .int x1), (2, .int x2), (3, .int x3)], [], M)) rfl rfl rfl ?_
  refine ml_st (S' := (6, [(4, .int (x2 - 1)), (0, .ref m0), (1, .int x1), (2, .int x2), (3, .int x3)], [.int x2], M)) rfl rfl rfl ?_
  refine ml_st (S' := (8, [(0, .ref m0), (1, .int x1), (3, .int x3), (4, .int (x2 - 1)), (5, .int x2)], [], M)) rfl rfl rfl ?_
  have L_8 : ∀ (n_8 : Nat) (i8_4 : Int32) (i8_5 : Int32), (2147483648 - i8_5.toInt).toNat ≤ n_8 → (x2.toInt ≤ i8_5.toInt ∧ i8_5.toInt ≤ x3.toInt + 1 ∧ ntv (tx sa ch x1) x2 x3 = ntx (tx sa ch x1) x3 (ntf x3 i8_5) i8_5 i8_4) → ml (mT g) d (mb_226 g).2 (8, [(0, .ref m0), (1, .int x1), (3, .int x3), (4, .int i8_4), (5, .int i8_5)], [], M) (fun v M' => v = some (.int (ntv (tx sa ch x1) x2 x3)) ∧ M' = M) := by
    intro n_8
    induction n_8 with
    | zero => intro i8_4 i8_5 hn; exact (loop_zero hn).elim
    | succ n_8 ih_8 =>
      intro i8_4 i8_5 hn_8 hi_8
      obtain ⟨hk0, hk1, hnt⟩ := hi_8
      refine ml_blk 2 (S' := (11, [(0, .ref m0), (1, .int x1), (3, .int x3), (4, .int i8_4), (5, .int i8_5)], [.int x3, .int i8_5], M)) rfl ?_
      refine ml_if2 (S1 := (85, [(0, .ref m0), (1, .int x1), (3, .int x3), (4, .int i8_4), (5, .int i8_5)], [], M)) (S2 := (14, [(0, .ref m0), (1, .int x1), (3, .int x3), (4, .int i8_4), (5, .int i8_5)], [], M)) rfl rfl rfl (fun c_11 => ?_) (fun c_11 => ?_)
      · have c_11 : x3 < i8_5 := of_decide_eq_true c_11
        refine ml_st (S' := (86, [(0, .ref m0), (1, .int x1), (3, .int x3), (4, .int i8_4), (5, .int i8_5)], [.int 1], M)) rfl rfl rfl ?_
        exact ml_ret rfl (r_z (Or.inr rfl)) (⟨congrArg (fun y => some (Value.int y)) (hnt.trans (ntx_end c_11)).symm, rfl⟩)
      · have c_11 : ¬ (x3 < i8_5) := of_decide_eq_false c_11
        have hks : (i8_5 + 1).toInt = i8_5.toInt + 1 := i_add (by have : (1 : Int32).toInt = 1 := rfl; omega) (by have : (1 : Int32).toInt = 1 := rfl; have := i_nlt c_11; omega)
        rw [ntf_s c_11 hks] at hnt
        refine ml_blk 2 (S' := (17, [(0, .ref m0), (1, .int x1), (3, .int x3), (4, .int i8_4), (5, .int i8_5)], [.int x3, .int i8_5], M)) rfl ?_
        have J_32 : ∀ (s32_0 : Int32), (s32_0 = (if i8_5 < x3 then (tx sa ch x1) i8_5 else 47)) → ml (mT g) d (mb_226 g).2 (32, [(0, .ref m0), (1, .int x1), (3, .int x3), (4, .int i8_4), (5, .int i8_5)], [.int s32_0], M) (fun v M' => v = some (.int (ntv (tx sa ch x1) x2 x3)) ∧ M' = M) := by
          intro s32_0 hj_32
          refine ml_st (S' := (34, [(6, .int s32_0), (0, .ref m0), (1, .int x1), (3, .int x3), (4, .int i8_4), (5, .int i8_5)], [], M)) rfl rfl rfl ?_
          refine ml_blk 2 (S' := (38, [(6, .int s32_0), (0, .ref m0), (1, .int x1), (3, .int x3), (4, .int i8_4), (5, .int i8_5)], [.int 46, .int s32_0], M)) rfl ?_
          refine ml_if2 (S1 := (55, [], [], M)) (S2 := (41, [(6, .int s32_0), (0, .ref m0), (1, .int x1), (3, .int x3), (4, .int i8_4), (5, .int i8_5)], [], M)) rfl rfl rfl (fun c_38 => ?_) (fun c_38 => ?_)
          · have c_38 : s32_0 = 46 := of_decide_eq_true c_38
            refine ml_st (S' := (56, [], [.int 0], M)) rfl rfl rfl ?_
            exact ml_ret rfl (r_z (Or.inl rfl)) (⟨congrArg (fun y => some (Value.int y)) (hnt.trans (ntx_bad c_11 hj_32 (Or.inl c_38))).symm, rfl⟩)
          · have c_38 : ¬ (s32_0 = 46) := of_decide_eq_false c_38
            refine ml_blk 2 (S' := (45, [(6, .int s32_0), (0, .ref m0), (1, .int x1), (3, .int x3), (4, .int i8_4), (5, .int i8_5)], [.int 59, .int s32_0], M)) rfl ?_
            refine ml_if2 (S1 := (55, [], [], M)) (S2 := (48, [(6, .int s32_0), (0, .ref m0), (1, .int x1), (3, .int x3), (4, .int i8_4), (5, .int i8_5)], [], M)) rfl rfl rfl (fun c_45 => ?_) (fun c_45 => ?_)
            · have c_45 : s32_0 = 59 := of_decide_eq_true c_45
              refine ml_st (S' := (56, [], [.int 0], M)) rfl rfl rfl ?_
              exact ml_ret rfl (r_z (Or.inl rfl)) (⟨congrArg (fun y => some (Value.int y)) (hnt.trans (ntx_bad c_11 hj_32 (Or.inr (Or.inl c_45)))).symm, rfl⟩)
            · have c_45 : ¬ (s32_0 = 59) := of_decide_eq_false c_45
              refine ml_blk 2 (S' := (52, [(6, .int s32_0), (0, .ref m0), (1, .int x1), (3, .int x3), (4, .int i8_4), (5, .int i8_5)], [.int 91, .int s32_0], M)) rfl ?_
              refine ml_if2 (S1 := (57, [(6, .int s32_0), (0, .ref m0), (1, .int x1), (3, .int x3), (4, .int i8_4), (5, .int i8_5)], [], M)) (S2 := (55, [], [], M)) rfl rfl rfl (fun c_52 => ?_) (fun c_52 => ?_)
              · have c_52 : ¬ s32_0 = 91 := of_decide_eq_true c_52
                refine ml_blk 2 (S' := (61, [(6, .int s32_0), (0, .ref m0), (1, .int x1), (3, .int x3), (4, .int i8_4), (5, .int i8_5)], [.int 47, .int s32_0], M)) rfl ?_
                refine ml_if2 (S1 := (79, [(0, .ref m0), (1, .int x1), (3, .int x3), (4, .int i8_4), (5, .int i8_5)], [], M)) (S2 := (64, [(6, .int s32_0), (0, .ref m0), (1, .int x1), (3, .int x3), (4, .int i8_4), (5, .int i8_5)], [], M)) rfl rfl rfl (fun c_61 => ?_) (fun c_61 => ?_)
                · have c_61 : ¬ s32_0 = 47 := of_decide_eq_true c_61
                  refine ml_st (S' := (82, [(5, .int (i8_5 + 1)), (0, .ref m0), (1, .int x1), (3, .int x3), (4, .int i8_4)], [], M)) rfl rfl rfl ?_
                  refine ml_st (S' := (8, [(0, .ref m0), (1, .int x1), (3, .int x3), (4, .int i8_4), (5, .int (i8_5 + 1))], [], M)) rfl rfl rfl ?_
                  exact ih_8 i8_4 (i8_5 + 1) (by rw [hks]; omega) (⟨by rw [hks]; omega, by rw [hks]; have := i_nlt c_11; omega, hnt.trans (ntx_go c_11 hj_32 (fun h => h.elim c_38 (fun h => h.elim c_45 c_52)) c_61)⟩)
                · have c_61 : ¬ (¬ s32_0 = 47) := of_decide_eq_false c_61
                  refine ml_blk 3 (S' := (69, [(6, .int s32_0), (0, .ref m0), (1, .int x1), (3, .int x3), (4, .int i8_4), (5, .int i8_5)], [.int 1, .int i8_4, .int i8_5], M)) rfl ?_
                  refine ml_st (S' := (70, [(6, .int s32_0), (0, .ref m0), (1, .int x1), (3, .int x3), (4, .int i8_4), (5, .int i8_5)], [.int (i8_4 + 1), .int i8_5], M)) rfl rfl rfl ?_
                  refine ml_if2 (S1 := (75, [(6, .int s32_0), (0, .ref m0), (1, .int x1), (3, .int x3), (4, .int i8_4), (5, .int i8_5)], [], M)) (S2 := (73, [(6, .int s32_0), (0, .ref m0), (1, .int x1), (3, .int x3), (4, .int i8_4), (5, .int i8_5)], [], M)) rfl rfl rfl (fun c_70 => ?_) (fun c_70 => ?_)
                  · have c_70 : ¬ i8_5 = (i8_4 + 1) := of_decide_eq_true c_70
                    refine ml_st (S' := (77, [(6, .int s32_0), (0, .ref m0), (1, .int x1), (3, .int x3), (4, .int i8_4), (5, .int i8_5)], [.int i8_5], M)) rfl rfl rfl ?_
                    refine ml_st (S' := (79, [(0, .ref m0), (1, .int x1), (3, .int x3), (4, .int i8_5), (5, .int i8_5)], [], M)) rfl rfl rfl ?_
                    refine ml_st (S' := (82, [(5, .int (i8_5 + 1)), (0, .ref m0), (1, .int x1), (3, .int x3), (4, .int i8_5)], [], M)) rfl rfl rfl ?_
                    refine ml_st (S' := (8, [(0, .ref m0), (1, .int x1), (3, .int x3), (4, .int i8_5), (5, .int (i8_5 + 1))], [], M)) rfl rfl rfl ?_
                    exact ih_8 i8_5 (i8_5 + 1) (by rw [hks]; omega) (⟨by rw [hks]; omega, by rw [hks]; have := i_nlt c_11; omega, hnt.trans (ntx_sep c_11 hj_32 (fun h => h.elim c_38 (fun h => h.elim c_45 c_52)) (Decidable.not_not.mp c_61) c_70)⟩)
                  · have c_70 : ¬ (¬ i8_5 = (i8_4 + 1)) := of_decide_eq_false c_70
                    refine ml_st (S' := (74, [(6, .int s32_0), (0, .ref m0), (1, .int x1), (3, .int x3), (4, .int i8_4), (5, .int i8_5)], [.int 0], M)) rfl rfl rfl ?_
                    exact ml_ret rfl (r_z (Or.inl rfl)) (⟨congrArg (fun y => some (Value.int y)) (hnt.trans (ntx_dbl c_11 hj_32 (fun h => h.elim c_38 (fun h => h.elim c_45 c_52)) (Decidable.not_not.mp c_61) (Decidable.not_not.mp c_70))).symm, rfl⟩)
              · have c_52 : ¬ (¬ s32_0 = 91) := of_decide_eq_false c_52
                refine ml_st (S' := (56, [], [.int 0], M)) rfl rfl rfl ?_
                exact ml_ret rfl (r_z (Or.inl rfl)) (⟨congrArg (fun y => some (Value.int y)) (hnt.trans (ntx_bad c_11 hj_32 (Or.inr (Or.inr (Decidable.not_not.mp c_52))))).symm, rfl⟩)
        refine ml_if2 (S1 := (30, [(0, .ref m0), (1, .int x1), (3, .int x3), (4, .int i8_4), (5, .int i8_5)], [], M)) (S2 := (20, [(0, .ref m0), (1, .int x1), (3, .int x3), (4, .int i8_4), (5, .int i8_5)], [], M)) rfl rfl rfl (fun c_17 => ?_) (fun c_17 => ?_)
        · have c_17 : x3 ≤ i8_5 := of_decide_eq_true c_17
          refine ml_st (S' := (32, [(0, .ref m0), (1, .int x1), (3, .int x3), (4, .int i8_4), (5, .int i8_5)], [.int 47], M)) rfl rfl rfl ?_
          exact J_32 47 ((if_neg (Int32.not_lt.mpr c_17)).symm)
        · have c_17 : ¬ (x3 ≤ i8_5) := of_decide_eq_false c_17
          refine ml_blk 3 (S' := (24, [(0, .ref m0), (1, .int x1), (3, .int x3), (4, .int i8_4), (5, .int i8_5)], [.int i8_5, .int x1, .ref m0], M)) rfl ?_
          refine ml_call (a := [.ref m0, .int x1, .int i8_5]) (rest := []) rfl (hR.okc rfl rfl rfl) rfl rfl (rm_at hR hY (hs0) (hs1) (by omega) (by have := i_nle c_17; omega) (by omega)) (fun v11 M12 h13 => ?_)
          obtain ⟨rfl, h13⟩ := h13
          rw [h13]
          show ml _ _ _ (27, [(0, .ref m0), (1, .int x1), (3, .int x3), (4, .int i8_4), (5, .int i8_5)], [.int (tx sa ch x1 i8_5)], M) _
          refine ml_st (S' := (32, [(0, .ref m0), (1, .int x1), (3, .int x3), (4, .int i8_4), (5, .int i8_5)], [.int (tx sa ch x1 i8_5)], M)) rfl rfl rfl ?_
          exact J_32 (tx sa ch x1 i8_5) ((if_pos (Int32.not_le.mp c_17)).symm)
  exact L_8 _ (x2 - 1) x2 (Nat.le_refl _) (⟨Int.le_refl _, h231, rfl⟩)
set_option maxHeartbeats 2000000 in
theorem rm_fieldText {g : xe_G}  {m0 : Nat} {q : Nat → Nat} {z : Nat × Nat} {I : rI} {R : rR} {M : mi_H} {x1 x2 : Int32} {S cN : Nat} {sa sl ch : Nat → Int32}  (hR : RS g m0 q z I R M) (hY : SK S cN sa sl ch I R) (hs0 : 0 ≤ x1.toInt) (hs1 : x1.toInt < S) (h20 : 0 ≤ x2.toInt) (h2n : x2.toInt ≤ (sL sl x1).toInt) {d : Nat} (hd : 3 ≤ d) : mt (mT g) d 206 [.ref m0, .int x1, .int x2] M (fun v M' => v = some (.int (FTx (tx sa ch x1) (sL sl x1) x2)) ∧ M' = M) := by
  obtain ⟨d, rfl⟩ : ∃ e, d = e + 1 := ⟨d - 1, by omega⟩
  refine mt_in (b := mb_206 g) rfl rfl ?_
  show ml (mT g) d (mb_206 g).2 (0, [(0, .ref m0), (1, .int x1), (2, .int x2)], [], M) _
  have hsl := hY.s hs0 hs1
  have hsl0 : 0 ≤ (sL sl x1).toInt := hsl.2.2.2.1
  have hsl1 : (sL sl x1).toInt ≤ 66000 := by have h1 := hsl.2.2.1; have h2 := hsl.2.2.2.2.1; have h3 := hsl.2.2.2.2.2.1; show (sl _).toInt ≤ 66000; omega
  refine ml_blk 2 (S' := (2, [(0, .ref m0), (1, .int x1), (2, .int x2)], [.int x1, .ref m0], M)) rfl ?_
  refine ml_call (a := [.ref m0, .int x1]) (rest := []) rfl (hR.okc rfl rfl rfl) rfl rfl (rm_length hR hY (hs0) (hs1) (by omega)) (fun v11 M12 h13 => ?_)
  obtain ⟨rfl, h13⟩ := h13
  rw [h13]
  show ml _ _ _ (5, [(0, .ref m0), (1, .int x1), (2, .int x2)], [.int (sL sl x1)], M) _
  refine ml_st (S' := (6, [(3, .int (sL sl x1)), (0, .ref m0), (1, .int x1), (2, .int x2)], [], M)) rfl rfl rfl ?_
  refine ml_st (S' := (7, [(3, .int (sL sl x1)), (0, .ref m0), (1, .int x1), (2, .int x2)], [.int x2], M)) rfl rfl rfl ?_
  refine ml_st (S' := (9, [(0, .ref m0), (1, .int x1), (2, .int x2), (3, .int (sL sl x1)), (4, .int x2)], [], M)) rfl rfl rfl ?_
  have L_9 : ∀ (n_9 : Nat) (i9_4 : Int32), (2147483648 - i9_4.toInt).toNat ≤ n_9 → (x2.toInt ≤ i9_4.toInt ∧ i9_4.toInt ≤ (sL sl x1).toInt ∧ scn (PL1 (tx sa ch x1)) (sL sl x1) (scf (sL sl x1) x2) x2 = scn (PL1 (tx sa ch x1)) (sL sl x1) (scf (sL sl x1) i9_4) i9_4) → ml (mT g) d (mb_206 g).2 (9, [(0, .ref m0), (1, .int x1), (2, .int x2), (3, .int (sL sl x1)), (4, .int i9_4)], [], M) (fun v M' => v = some (.int (FTx (tx sa ch x1) (sL sl x1) x2)) ∧ M' = M) := by
    intro n_9
    induction n_9 with
    | zero => intro i9_4 hn; exact (loop_zero hn).elim
    | succ n_9 ih_9 =>
      intro i9_4 hn_9 hi_9
      obtain ⟨hk0, hk1, hsc⟩ := hi_9
      refine ml_blk 2 (S' := (12, [(0, .ref m0), (1, .int x1), (2, .int x2), (3, .int (sL sl x1)), (4, .int i9_4)], [.int (sL sl x1), .int i9_4], M)) rfl ?_
      have J_33 : (scn (PL1 (tx sa ch x1)) (sL sl x1) (scf (sL sl x1) x2) x2 = i9_4) → ml (mT g) d (mb_206 g).2 (33, [(0, .ref m0), (1, .int x1), (2, .int x2), (3, .int (sL sl x1)), (4, .int i9_4)], [], M) (fun v M' => v = some (.int (FTx (tx sa ch x1) (sL sl x1) x2)) ∧ M' = M) := by
        intro hj_33
        refine ml_blk 3 (S' := (37, [(0, .ref m0), (1, .int x1), (2, .int x2), (3, .int (sL sl x1)), (4, .int i9_4)], [.int (i9_4 - x2)], M)) rfl ?_
        refine ml_st (S' := (40, [(0, .ref m0), (1, .int x1), (2, .int x2), (3, .int (sL sl x1)), (4, .int i9_4)], [.int 255, .int (i9_4 - x2)], M)) rfl rfl rfl ?_
        refine ml_if2 (S1 := (49, [], [], M)) (S2 := (43, [(0, .ref m0), (1, .int x1), (2, .int x2), (3, .int (sL sl x1)), (4, .int i9_4)], [], M)) rfl rfl rfl (fun c_40 => ?_) (fun c_40 => ?_)
        · have c_40 : 255 < (i9_4 - x2) := of_decide_eq_true c_40
          refine ml_st (S' := (50, [], [.int (-1)], M)) rfl rfl rfl ?_
          exact ml_ret rfl (rfl) (⟨congrArg (fun y => some (Value.int y)) (ft_1 hj_33 (Or.inl c_40)), rfl⟩)
        · have c_40 : ¬ (255 < (i9_4 - x2)) := of_decide_eq_false c_40
          refine ml_blk 2 (S' := (46, [(0, .ref m0), (1, .int x1), (2, .int x2), (3, .int (sL sl x1)), (4, .int i9_4)], [.int (sL sl x1), .int i9_4], M)) rfl ?_
          refine ml_if2 (S1 := (51, [(0, .ref m0), (1, .int x1), (2, .int x2), (3, .int (sL sl x1)), (4, .int i9_4)], [], M)) (S2 := (49, [], [], M)) rfl rfl rfl (fun c_46 => ?_) (fun c_46 => ?_)
          · have c_46 : i9_4 < (sL sl x1) := of_decide_eq_true c_46
            have hnb : ¬ (255 < i9_4 - x2 ∨ (sL sl x1) ≤ i9_4) := fun h => h.elim c_40 (Int32.not_le.mpr c_46)
            refine ml_blk 3 (S' := (55, [(0, .ref m0), (1, .int x1), (2, .int x2), (3, .int (sL sl x1)), (4, .int i9_4)], [.int i9_4, .int x1, .ref m0], M)) rfl ?_
            refine ml_call (a := [.ref m0, .int x1, .int i9_4]) (rest := []) rfl (hR.okc rfl rfl rfl) rfl rfl (rm_at hR hY (hs0) (hs1) (by omega) (i_lt c_46) (by omega)) (fun v14 M15 h16 => ?_)
            obtain ⟨rfl, h16⟩ := h16
            rw [h16]
            show ml _ _ _ (58, [(0, .ref m0), (1, .int x1), (2, .int x2), (3, .int (sL sl x1)), (4, .int i9_4)], [.int (tx sa ch x1 i9_4)], M) _
            refine ml_st (S' := (60, [(5, .int (tx sa ch x1 i9_4)), (0, .ref m0), (1, .int x1), (2, .int x2), (3, .int (sL sl x1)), (4, .int i9_4)], [], M)) rfl rfl rfl ?_
            refine ml_blk 2 (S' := (64, [(5, .int (tx sa ch x1 i9_4)), (0, .ref m0), (1, .int x1), (2, .int x2), (3, .int (sL sl x1)), (4, .int i9_4)], [.int 66, .int (tx sa ch x1 i9_4)], M)) rfl ?_
            refine ml_if2 (S1 := (116, [(4, .int i9_4)], [], M)) (S2 := (67, [(5, .int (tx sa ch x1 i9_4)), (0, .ref m0), (1, .int x1), (2, .int x2), (3, .int (sL sl x1)), (4, .int i9_4)], [], M)) rfl rfl rfl (fun c_64 => ?_) (fun c_64 => ?_)
            · have c_64 : (tx sa ch x1 i9_4) = 66 := of_decide_eq_true c_64
              refine ml_blk 3 (S' := (120, [(4, .int i9_4)], [.int (i9_4 + 1)], M)) rfl ?_
              exact ml_ret rfl (rfl) (⟨congrArg (fun y => some (Value.int y)) (ft_p hj_33 hnb (Or.inl c_64)), rfl⟩)
            · have c_64 : ¬ ((tx sa ch x1 i9_4) = 66) := of_decide_eq_false c_64
              refine ml_blk 2 (S' := (71, [(5, .int (tx sa ch x1 i9_4)), (0, .ref m0), (1, .int x1), (2, .int x2), (3, .int (sL sl x1)), (4, .int i9_4)], [.int 67, .int (tx sa ch x1 i9_4)], M)) rfl ?_
              refine ml_if2 (S1 := (116, [(4, .int i9_4)], [], M)) (S2 := (74, [(5, .int (tx sa ch x1 i9_4)), (0, .ref m0), (1, .int x1), (2, .int x2), (3, .int (sL sl x1)), (4, .int i9_4)], [], M)) rfl rfl rfl (fun c_71 => ?_) (fun c_71 => ?_)
              · have c_71 : (tx sa ch x1 i9_4) = 67 := of_decide_eq_true c_71
                refine ml_blk 3 (S' := (120, [(4, .int i9_4)], [.int (i9_4 + 1)], M)) rfl ?_
                exact ml_ret rfl (rfl) (⟨congrArg (fun y => some (Value.int y)) (ft_p hj_33 hnb (Or.inr (Or.inl (c_71)))), rfl⟩)
              · have c_71 : ¬ ((tx sa ch x1 i9_4) = 67) := of_decide_eq_false c_71
                refine ml_blk 2 (S' := (78, [(5, .int (tx sa ch x1 i9_4)), (0, .ref m0), (1, .int x1), (2, .int x2), (3, .int (sL sl x1)), (4, .int i9_4)], [.int 68, .int (tx sa ch x1 i9_4)], M)) rfl ?_
                refine ml_if2 (S1 := (116, [(4, .int i9_4)], [], M)) (S2 := (81, [(5, .int (tx sa ch x1 i9_4)), (0, .ref m0), (1, .int x1), (2, .int x2), (3, .int (sL sl x1)), (4, .int i9_4)], [], M)) rfl rfl rfl (fun c_78 => ?_) (fun c_78 => ?_)
                · have c_78 : (tx sa ch x1 i9_4) = 68 := of_decide_eq_true c_78
                  refine ml_blk 3 (S' := (120, [(4, .int i9_4)], [.int (i9_4 + 1)], M)) rfl ?_
                  exact ml_ret rfl (rfl) (⟨congrArg (fun y => some (Value.int y)) (ft_p hj_33 hnb (Or.inr (Or.inr (Or.inl (c_78))))), rfl⟩)
                · have c_78 : ¬ ((tx sa ch x1 i9_4) = 68) := of_decide_eq_false c_78
                  refine ml_blk 2 (S' := (85, [(5, .int (tx sa ch x1 i9_4)), (0, .ref m0), (1, .int x1), (2, .int x2), (3, .int (sL sl x1)), (4, .int i9_4)], [.int 70, .int (tx sa ch x1 i9_4)], M)) rfl ?_
                  refine ml_if2 (S1 := (116, [(4, .int i9_4)], [], M)) (S2 := (88, [(5, .int (tx sa ch x1 i9_4)), (0, .ref m0), (1, .int x1), (2, .int x2), (3, .int (sL sl x1)), (4, .int i9_4)], [], M)) rfl rfl rfl (fun c_85 => ?_) (fun c_85 => ?_)
                  · have c_85 : (tx sa ch x1 i9_4) = 70 := of_decide_eq_true c_85
                    refine ml_blk 3 (S' := (120, [(4, .int i9_4)], [.int (i9_4 + 1)], M)) rfl ?_
                    exact ml_ret rfl (rfl) (⟨congrArg (fun y => some (Value.int y)) (ft_p hj_33 hnb (Or.inr (Or.inr (Or.inr (Or.inl (c_85)))))), rfl⟩)
                  · have c_85 : ¬ ((tx sa ch x1 i9_4) = 70) := of_decide_eq_false c_85
                    refine ml_blk 2 (S' := (92, [(5, .int (tx sa ch x1 i9_4)), (0, .ref m0), (1, .int x1), (2, .int x2), (3, .int (sL sl x1)), (4, .int i9_4)], [.int 73, .int (tx sa ch x1 i9_4)], M)) rfl ?_
                    refine ml_if2 (S1 := (116, [(4, .int i9_4)], [], M)) (S2 := (95, [(5, .int (tx sa ch x1 i9_4)), (0, .ref m0), (1, .int x1), (2, .int x2), (3, .int (sL sl x1)), (4, .int i9_4)], [], M)) rfl rfl rfl (fun c_92 => ?_) (fun c_92 => ?_)
                    · have c_92 : (tx sa ch x1 i9_4) = 73 := of_decide_eq_true c_92
                      refine ml_blk 3 (S' := (120, [(4, .int i9_4)], [.int (i9_4 + 1)], M)) rfl ?_
                      exact ml_ret rfl (rfl) (⟨congrArg (fun y => some (Value.int y)) (ft_p hj_33 hnb (Or.inr (Or.inr (Or.inr (Or.inr (Or.inl (c_92))))))), rfl⟩)
                    · have c_92 : ¬ ((tx sa ch x1 i9_4) = 73) := of_decide_eq_false c_92
                      refine ml_blk 2 (S' := (99, [(5, .int (tx sa ch x1 i9_4)), (0, .ref m0), (1, .int x1), (2, .int x2), (3, .int (sL sl x1)), (4, .int i9_4)], [.int 74, .int (tx sa ch x1 i9_4)], M)) rfl ?_
                      refine ml_if2 (S1 := (116, [(4, .int i9_4)], [], M)) (S2 := (102, [(5, .int (tx sa ch x1 i9_4)), (0, .ref m0), (1, .int x1), (2, .int x2), (3, .int (sL sl x1)), (4, .int i9_4)], [], M)) rfl rfl rfl (fun c_99 => ?_) (fun c_99 => ?_)
                      · have c_99 : (tx sa ch x1 i9_4) = 74 := of_decide_eq_true c_99
                        refine ml_blk 3 (S' := (120, [(4, .int i9_4)], [.int (i9_4 + 1)], M)) rfl ?_
                        exact ml_ret rfl (rfl) (⟨congrArg (fun y => some (Value.int y)) (ft_p hj_33 hnb (Or.inr (Or.inr (Or.inr (Or.inr (Or.inr (Or.inl (c_99)))))))), rfl⟩)
                      · have c_99 : ¬ ((tx sa ch x1 i9_4) = 74) := of_decide_eq_false c_99
                        refine ml_blk 2 (S' := (106, [(5, .int (tx sa ch x1 i9_4)), (0, .ref m0), (1, .int x1), (2, .int x2), (3, .int (sL sl x1)), (4, .int i9_4)], [.int 83, .int (tx sa ch x1 i9_4)], M)) rfl ?_
                        refine ml_if2 (S1 := (116, [(4, .int i9_4)], [], M)) (S2 := (109, [(5, .int (tx sa ch x1 i9_4)), (0, .ref m0), (1, .int x1), (2, .int x2), (3, .int (sL sl x1)), (4, .int i9_4)], [], M)) rfl rfl rfl (fun c_106 => ?_) (fun c_106 => ?_)
                        · have c_106 : (tx sa ch x1 i9_4) = 83 := of_decide_eq_true c_106
                          refine ml_blk 3 (S' := (120, [(4, .int i9_4)], [.int (i9_4 + 1)], M)) rfl ?_
                          exact ml_ret rfl (rfl) (⟨congrArg (fun y => some (Value.int y)) (ft_p hj_33 hnb (Or.inr (Or.inr (Or.inr (Or.inr (Or.inr (Or.inr (Or.inl (c_106))))))))), rfl⟩)
                        · have c_106 : ¬ ((tx sa ch x1 i9_4) = 83) := of_decide_eq_false c_106
                          refine ml_blk 2 (S' := (113, [(5, .int (tx sa ch x1 i9_4)), (0, .ref m0), (1, .int x1), (2, .int x2), (3, .int (sL sl x1)), (4, .int i9_4)], [.int 90, .int (tx sa ch x1 i9_4)], M)) rfl ?_
                          refine ml_if2 (S1 := (121, [(5, .int (tx sa ch x1 i9_4)), (0, .ref m0), (1, .int x1), (2, .int x2), (3, .int (sL sl x1)), (4, .int i9_4)], [], M)) (S2 := (116, [(4, .int i9_4)], [], M)) rfl rfl rfl (fun c_113 => ?_) (fun c_113 => ?_)
                          · have c_113 : ¬ (tx sa ch x1 i9_4) = 90 := of_decide_eq_true c_113
                            refine ml_blk 2 (S' := (125, [(5, .int (tx sa ch x1 i9_4)), (0, .ref m0), (1, .int x1), (2, .int x2), (3, .int (sL sl x1)), (4, .int i9_4)], [.int 76, .int (tx sa ch x1 i9_4)], M)) rfl ?_
                            refine ml_if2 (S1 := (130, [(5, .int (tx sa ch x1 i9_4)), (0, .ref m0), (1, .int x1), (2, .int x2), (3, .int (sL sl x1)), (4, .int i9_4)], [], M)) (S2 := (128, [(5, .int (tx sa ch x1 i9_4)), (0, .ref m0), (1, .int x1), (2, .int x2), (3, .int (sL sl x1)), (4, .int i9_4)], [], M)) rfl rfl rfl (fun c_125 => ?_) (fun c_125 => ?_)
                            · have c_125 : (tx sa ch x1 i9_4) = 76 := of_decide_eq_true c_125
                              have hkn := i_lt c_46
                              have hk4 : (i9_4 + 1).toInt = i9_4.toInt + 1 := inc_lt c_46
                              refine ml_blk 3 (S' := (134, [(5, .int (tx sa ch x1 i9_4)), (0, .ref m0), (1, .int x1), (2, .int x2), (3, .int (sL sl x1)), (4, .int i9_4)], [.int (i9_4 + 1)], M)) rfl ?_
                              refine ml_st (S' := (136, [(0, .ref m0), (1, .int x1), (3, .int (sL sl x1)), (4, .int i9_4), (6, .int (i9_4 + 1))], [], M)) rfl rfl rfl ?_
                              have L_136 : ∀ (n_136 : Nat) (i136_6 : Int32), (2147483648 - i136_6.toInt).toNat ≤ n_136 → (i9_4.toInt + 1 ≤ i136_6.toInt ∧ i136_6.toInt ≤ (sL sl x1).toInt ∧ scn (PL2 (tx sa ch x1)) (sL sl x1) (scf (sL sl x1) (i9_4 + 1)) (i9_4 + 1) = scn (PL2 (tx sa ch x1)) (sL sl x1) (scf (sL sl x1) i136_6) i136_6) → ml (mT g) d (mb_206 g).2 (136, [(0, .ref m0), (1, .int x1), (3, .int (sL sl x1)), (4, .int i9_4), (6, .int i136_6)], [], M) (fun v M' => v = some (.int (FTx (tx sa ch x1) (sL sl x1) x2)) ∧ M' = M) := by
                                intro n_136
                                induction n_136 with
                                | zero => intro i136_6 hn; exact (loop_zero hn).elim
                                | succ n_136 ih_136 =>
                                  intro i136_6 hn_136 hi_136
                                  obtain ⟨he0, he1, hse⟩ := hi_136
                                  refine ml_blk 2 (S' := (139, [(0, .ref m0), (1, .int x1), (3, .int (sL sl x1)), (4, .int i9_4), (6, .int i136_6)], [.int (sL sl x1), .int i136_6], M)) rfl ?_
                                  have J_160 : (scn (PL2 (tx sa ch x1)) (sL sl x1) (scf (sL sl x1) (i9_4 + 1)) (i9_4 + 1) = i136_6) → ml (mT g) d (mb_206 g).2 (160, [(0, .ref m0), (1, .int x1), (3, .int (sL sl x1)), (4, .int i9_4), (6, .int i136_6)], [], M) (fun v M' => v = some (.int (FTx (tx sa ch x1) (sL sl x1) x2)) ∧ M' = M) := by
                                    intro hj_160
                                    refine ml_blk 2 (S' := (163, [(0, .ref m0), (1, .int x1), (3, .int (sL sl x1)), (4, .int i9_4), (6, .int i136_6)], [.int (sL sl x1), .int i136_6], M)) rfl ?_
                                    refine ml_if2 (S1 := (187, [], [], M)) (S2 := (166, [(0, .ref m0), (1, .int x1), (3, .int (sL sl x1)), (4, .int i9_4), (6, .int i136_6)], [], M)) rfl rfl rfl (fun c_163 => ?_) (fun c_163 => ?_)
                                    · have c_163 : (sL sl x1) ≤ i136_6 := of_decide_eq_true c_163
                                      refine ml_st (S' := (188, [], [.int (-1)], M)) rfl rfl rfl ?_
                                      exact ml_ret rfl (rfl) (⟨congrArg (fun y => some (Value.int y)) (((ft_b hj_33 hnb (fun h => by rcases h with h | h | h | h | h | h | h | h; exact c_64 h; exact c_71 h; exact c_78 h; exact c_85 h; exact c_92 h; exact c_99 h; exact c_106 h; exact c_113 h) c_125 hj_160)).trans (if_neg (fun h => Int32.not_le.mpr h.1 c_163))).symm, rfl⟩)
                                    · have c_163 : ¬ ((sL sl x1) ≤ i136_6) := of_decide_eq_false c_163
                                      refine ml_blk 3 (S' := (170, [(0, .ref m0), (1, .int x1), (3, .int (sL sl x1)), (4, .int i9_4), (6, .int i136_6)], [.int i9_4, .int x1, .ref m0], M)) rfl ?_
                                      refine ml_blk 3 (S' := (174, [(0, .ref m0), (1, .int x1), (3, .int (sL sl x1)), (4, .int i9_4), (6, .int i136_6)], [.int i136_6, .int (i9_4 + 1), .int x1, .ref m0], M)) rfl ?_
                                      refine ml_call (a := [.ref m0, .int x1, .int (i9_4 + 1), .int i136_6]) (rest := []) rfl (hR.okc rfl rfl rfl) rfl rfl (rm_nameText hR hY (hs0) (hs1) (by omega) (by rw [hk4]; omega) (by omega) (by omega)) (fun v17 M18 h19 => ?_)
                                      obtain ⟨rfl, h19⟩ := h19
                                      rw [h19]
                                      show ml _ _ _ (177, [(0, .ref m0), (1, .int x1), (3, .int (sL sl x1)), (4, .int i9_4), (6, .int i136_6)], [.int (ntv (tx sa ch x1) (i9_4 + 1) i136_6)], M) _
                                      refine ml_if (S1 := (187, [], [], M)) (S2 := (180, [(0, .ref m0), (1, .int x1), (3, .int (sL sl x1)), (4, .int i9_4), (6, .int i136_6)], [], M)) rfl rfl rfl (fun c_177 => ?_) (fun c_177 => ?_)
                                      · have c_177 : (ntv (tx sa ch x1) (i9_4 + 1) i136_6) = 0 := of_decide_eq_true c_177
                                        refine ml_st (S' := (188, [], [.int (-1)], M)) rfl rfl rfl ?_
                                        exact ml_ret rfl (rfl) (⟨congrArg (fun y => some (Value.int y)) (((ft_b hj_33 hnb (fun h => by rcases h with h | h | h | h | h | h | h | h; exact c_64 h; exact c_71 h; exact c_78 h; exact c_85 h; exact c_92 h; exact c_99 h; exact c_106 h; exact c_113 h) c_125 hj_160)).trans (if_neg (fun h => absurd (h.2.symm.trans c_177) (by decide)))).symm, rfl⟩)
                                      · have c_177 : ¬ ((ntv (tx sa ch x1) (i9_4 + 1) i136_6) = 0) := of_decide_eq_false c_177
                                        refine ml_blk 3 (S' := (184, [(0, .ref m0), (1, .int x1), (3, .int (sL sl x1)), (4, .int i9_4), (6, .int i136_6)], [.int (i136_6 + 1)], M)) rfl ?_
                                        refine ml_st (S' := (188, [], [.int (i136_6 + 1)], M)) rfl rfl rfl ?_
                                        exact ml_ret rfl (rfl) (⟨congrArg (fun y => some (Value.int y)) (((ft_b hj_33 hnb (fun h => by rcases h with h | h | h | h | h | h | h | h; exact c_64 h; exact c_71 h; exact c_78 h; exact c_85 h; exact c_92 h; exact c_99 h; exact c_106 h; exact c_113 h) c_125 hj_160)).trans (if_pos ⟨Int32.not_le.mp c_163, (ntx_01.resolve_left c_177)⟩)).symm, rfl⟩)
                                  refine ml_if2 (S1 := (160, [(0, .ref m0), (1, .int x1), (3, .int (sL sl x1)), (4, .int i9_4), (6, .int i136_6)], [], M)) (S2 := (142, [(0, .ref m0), (1, .int x1), (3, .int (sL sl x1)), (4, .int i9_4), (6, .int i136_6)], [], M)) rfl rfl rfl (fun c_139 => ?_) (fun c_139 => ?_)
                                  · have c_139 : (sL sl x1) ≤ i136_6 := of_decide_eq_true c_139
                                    exact J_160  (hse.trans (scn_end (fun h => Int32.not_le.mpr h.1 c_139)))
                                  · have c_139 : ¬ ((sL sl x1) ≤ i136_6) := of_decide_eq_false c_139
                                    refine ml_blk 3 (S' := (146, [(0, .ref m0), (1, .int x1), (3, .int (sL sl x1)), (4, .int i9_4), (6, .int i136_6)], [.int i136_6, .int x1, .ref m0], M)) rfl ?_
                                    refine ml_call (a := [.ref m0, .int x1, .int i136_6]) (rest := []) rfl (hR.okc rfl rfl rfl) rfl rfl (rm_at hR hY (hs0) (hs1) (by omega) (i_nle c_139) (by omega)) (fun v20 M21 h22 => ?_)
                                    obtain ⟨rfl, h22⟩ := h22
                                    rw [h22]
                                    show ml _ _ _ (149, [(0, .ref m0), (1, .int x1), (3, .int (sL sl x1)), (4, .int i9_4), (6, .int i136_6)], [.int (tx sa ch x1 i136_6)], M) _
                                    refine ml_st (S' := (151, [(0, .ref m0), (1, .int x1), (3, .int (sL sl x1)), (4, .int i9_4), (6, .int i136_6)], [.int 59, .int (tx sa ch x1 i136_6)], M)) rfl rfl rfl ?_
                                    refine ml_if2 (S1 := (160, [(0, .ref m0), (1, .int x1), (3, .int (sL sl x1)), (4, .int i9_4), (6, .int i136_6)], [], M)) (S2 := (154, [(0, .ref m0), (1, .int x1), (3, .int (sL sl x1)), (4, .int i9_4), (6, .int i136_6)], [], M)) rfl rfl rfl (fun c_151 => ?_) (fun c_151 => ?_)
                                    · have c_151 : (tx sa ch x1 i136_6) = 59 := of_decide_eq_true c_151
                                      exact J_160  (hse.trans (scn_end (fun h => of_decide_eq_true h.2 c_151)))
                                    · have c_151 : ¬ ((tx sa ch x1 i136_6) = 59) := of_decide_eq_false c_151
                                      refine ml_st (S' := (157, [(6, .int (i136_6 + 1)), (0, .ref m0), (1, .int x1), (3, .int (sL sl x1)), (4, .int i9_4)], [], M)) rfl rfl rfl ?_
                                      refine ml_st (S' := (136, [(0, .ref m0), (1, .int x1), (3, .int (sL sl x1)), (4, .int i9_4), (6, .int (i136_6 + 1))], [], M)) rfl rfl rfl ?_
                                      exact ih_136 (i136_6 + 1) (loop_inc (Int32.not_le.mp c_139) hn_136) (⟨by rw [inc_lt (Int32.not_le.mp c_139)]; omega, by rw [inc_lt (Int32.not_le.mp c_139)]; have := i_nle c_139; omega, hse.trans (scn_go (Int32.not_le.mp c_139) (decide_eq_true c_151) (inc_lt (Int32.not_le.mp c_139)))⟩)
                              exact L_136 _ (i9_4 + 1) (Nat.le_refl _) (⟨by rw [hk4]; omega, by rw [hk4]; omega, rfl⟩)
                            · have c_125 : ¬ ((tx sa ch x1 i9_4) = 76) := of_decide_eq_false c_125
                              refine ml_st (S' := (129, [(5, .int (tx sa ch x1 i9_4)), (0, .ref m0), (1, .int x1), (2, .int x2), (3, .int (sL sl x1)), (4, .int i9_4)], [.int (-1)], M)) rfl rfl rfl ?_
                              exact ml_ret rfl (rfl) (⟨congrArg (fun y => some (Value.int y)) (ft_n hj_33 hnb (fun h => by rcases h with h | h | h | h | h | h | h | h; exact c_64 h; exact c_71 h; exact c_78 h; exact c_85 h; exact c_92 h; exact c_99 h; exact c_106 h; exact c_113 h) c_125), rfl⟩)
                          · have c_113 : ¬ (¬ (tx sa ch x1 i9_4) = 90) := of_decide_eq_false c_113
                            refine ml_blk 3 (S' := (120, [(4, .int i9_4)], [.int (i9_4 + 1)], M)) rfl ?_
                            exact ml_ret rfl (rfl) (⟨congrArg (fun y => some (Value.int y)) (ft_p hj_33 hnb (Or.inr (Or.inr (Or.inr (Or.inr (Or.inr (Or.inr (Or.inr (Decidable.not_not.mp c_113))))))))), rfl⟩)
          · have c_46 : ¬ (i9_4 < (sL sl x1)) := of_decide_eq_false c_46
            refine ml_st (S' := (50, [], [.int (-1)], M)) rfl rfl rfl ?_
            exact ml_ret rfl (rfl) (⟨congrArg (fun y => some (Value.int y)) (ft_1 hj_33 (Or.inr (Int32.not_lt.mp c_46))), rfl⟩)
      refine ml_if2 (S1 := (33, [(0, .ref m0), (1, .int x1), (2, .int x2), (3, .int (sL sl x1)), (4, .int i9_4)], [], M)) (S2 := (15, [(0, .ref m0), (1, .int x1), (2, .int x2), (3, .int (sL sl x1)), (4, .int i9_4)], [], M)) rfl rfl rfl (fun c_12 => ?_) (fun c_12 => ?_)
      · have c_12 : (sL sl x1) ≤ i9_4 := of_decide_eq_true c_12
        exact J_33  (hsc.trans (scn_end (fun h => Int32.not_le.mpr h.1 c_12)))
      · have c_12 : ¬ ((sL sl x1) ≤ i9_4) := of_decide_eq_false c_12
        refine ml_blk 3 (S' := (19, [(0, .ref m0), (1, .int x1), (2, .int x2), (3, .int (sL sl x1)), (4, .int i9_4)], [.int i9_4, .int x1, .ref m0], M)) rfl ?_
        refine ml_call (a := [.ref m0, .int x1, .int i9_4]) (rest := []) rfl (hR.okc rfl rfl rfl) rfl rfl (rm_at hR hY (hs0) (hs1) (by omega) (i_nle c_12) (by omega)) (fun v23 M24 h25 => ?_)
        obtain ⟨rfl, h25⟩ := h25
        rw [h25]
        show ml _ _ _ (22, [(0, .ref m0), (1, .int x1), (2, .int x2), (3, .int (sL sl x1)), (4, .int i9_4)], [.int (tx sa ch x1 i9_4)], M) _
        refine ml_st (S' := (24, [(0, .ref m0), (1, .int x1), (2, .int x2), (3, .int (sL sl x1)), (4, .int i9_4)], [.int 91, .int (tx sa ch x1 i9_4)], M)) rfl rfl rfl ?_
        refine ml_if2 (S1 := (33, [(0, .ref m0), (1, .int x1), (2, .int x2), (3, .int (sL sl x1)), (4, .int i9_4)], [], M)) (S2 := (27, [(0, .ref m0), (1, .int x1), (2, .int x2), (3, .int (sL sl x1)), (4, .int i9_4)], [], M)) rfl rfl rfl (fun c_24 => ?_) (fun c_24 => ?_)
        · have c_24 : ¬ (tx sa ch x1 i9_4) = 91 := of_decide_eq_true c_24
          exact J_33  (hsc.trans (scn_end (fun h => c_24 (of_decide_eq_true h.2))))
        · have c_24 : ¬ (¬ (tx sa ch x1 i9_4) = 91) := of_decide_eq_false c_24
          refine ml_st (S' := (30, [(4, .int (i9_4 + 1)), (0, .ref m0), (1, .int x1), (2, .int x2), (3, .int (sL sl x1))], [], M)) rfl rfl rfl ?_
          refine ml_st (S' := (9, [(0, .ref m0), (1, .int x1), (2, .int x2), (3, .int (sL sl x1)), (4, .int (i9_4 + 1))], [], M)) rfl rfl rfl ?_
          exact ih_9 (i9_4 + 1) (loop_inc (Int32.not_le.mp c_12) hn_9) (⟨by rw [inc_lt (Int32.not_le.mp c_12)]; omega, by rw [inc_lt (Int32.not_le.mp c_12)]; have := i_nle c_12; omega, hsc.trans (scn_go (Int32.not_le.mp c_12) (decide_eq_true (Decidable.not_not.mp c_24)) (inc_lt (Int32.not_le.mp c_12)))⟩)
  exact L_9 _ x2 (Nat.le_refl _) (⟨Int.le_refl _, h2n, rfl⟩)
