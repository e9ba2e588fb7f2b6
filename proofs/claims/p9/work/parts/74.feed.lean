/-! the reference: feed, end (laid by wip/p2/c74.py) -/
theorem feed_ok {cc : Nat} (h : cc + 20 ≤ 65540) : nI cc + 20 ≤ (65540 : Int32) := by
  apply Int32.le_iff_toInt_le.mpr
  have e1 : (20 : Int32).toInt = 20 := rfl
  have e2 : (65540 : Int32).toInt = 65540 := rfl
  rw [i_add (by rw [nI_val (by omega)]; omega) (by rw [nI_val (by omega)]; omega), nI_val (by omega), e1, e2]
  omega

set_option maxHeartbeats 2000000 in
theorem rm_feed {g : xe_G}  {m0 : Nat} {q : Nat → Nat} {z : Nat × Nat} {I : rI} {R : rR} {M : mi_H} {x1 x2 x3 x4 x5 : Int32} {cc : Nat}  (hR : RS g m0 q z I R M) (hk19 : I 19 = some (nI cc)) (hcc : cc + 20 ≤ 65540) (hkb0 : KB 15 cc R) {d : Nat} (hd : 2 ≤ d) : mt (mT g) d 205 [.ref m0, .int x1, .int x2, .int x3, .int x4, .int x5] M (fun v M' => ∃ (x : Int32) (I' : rI) (R' : rR), v = some (.int x) ∧ RS g m0 q z I' R' M' ∧ eqI [0, 19] I I' ∧ eqR [15] R R' ∧ (x = nI (cc + 4 + 4 + 4 + 4 + 4) ∧ I' 0 = some 0 ∧ I' 19 = some (nI (cc + 4 + 4 + 4 + 4 + 4)) ∧ KB 15 (cc + 4 + 4 + 4 + 4 + 4) R')) := by
  obtain ⟨d, rfl⟩ : ∃ e, d = e + 1 := ⟨d - 1, by omega⟩
  refine mt_in (b := mb_205 g) rfl rfl ?_
  show ml (mT g) d (mb_205 g).2 (0, [(0, .ref m0), (1, .int x1), (2, .int x2), (3, .int x3), (4, .int x4), (5, .int x5)], [], M) _
  refine ml_blk 2 (S' := (2, [(0, .ref m0), (1, .int x1), (2, .int x2), (3, .int x3), (4, .int x4), (5, .int x5)], [.int 0, .ref m0], M)) rfl ?_
  refine rp_int rfl hR rfl (fun M11 I12 hR13 e14 f15 => ?_)
  show ml _ _ _ (5, [(0, .ref m0), (1, .int x1), (2, .int x2), (3, .int x3), (4, .int x4), (5, .int x5)], [], M11) _
  refine ml_st (S' := (6, [(0, .ref m0), (1, .int x1), (2, .int x2), (3, .int x3), (4, .int x4), (5, .int x5)], [.ref m0], M11)) rfl rfl rfl ?_
  refine rg_int (S' := (9, [(0, .ref m0), (1, .int x1), (2, .int x2), (3, .int x3), (4, .int x4), (5, .int x5)], [.int (nI cc)], M11)) rfl hR13 rfl ((f15 19 (by decide)).trans (hk19)) rfl ?_
  refine ml_blk 3 (S' := (14, [(0, .ref m0), (1, .int x1), (2, .int x2), (3, .int x3), (4, .int x4), (5, .int x5)], [.int 65540, .int ((nI cc) + 20)], M11)) rfl ?_
  refine ml_if2 (S1 := (24, [(0, .ref m0), (1, .int x1), (2, .int x2), (3, .int x3), (4, .int x4), (5, .int x5)], [], M11)) (S2 := (17, [(0, .ref m0), (1, .int x1), (2, .int x2), (3, .int x3), (4, .int x4), (5, .int x5)], [], M11)) rfl rfl rfl (fun c_14 => ?_) (fun c_14 => ?_)
  rotate_left
  · exact absurd (feed_ok hcc) (of_decide_eq_false c_14)
  refine ml_blk 2 (S' := (26, [(0, .ref m0), (1, .int x1), (2, .int x2), (3, .int x3), (4, .int x4), (5, .int x5)], [.int x1, .ref m0], M11)) rfl ?_
  refine ml_call (a := [.ref m0, .int x1]) (rest := []) rfl (hR13.okc rfl rfl rfl) rfl rfl (rm_four hR13 ((f15 19 (by decide)).trans (hk19)) (by omega) (hkb0) (by omega)) (fun v16 M17 h18 => ?_)
  obtain ⟨rfl, I19, R20, hR21, hI22, hV23, w25⟩ := h18
  show ml _ _ _ (29, [(0, .ref m0), (1, .int x1), (2, .int x2), (3, .int x3), (4, .int x4), (5, .int x5)], [], M17) _
  obtain ⟨hc1, hb1⟩ := w25
  refine ml_blk 2 (S' := (31, [(0, .ref m0), (1, .int x1), (2, .int x2), (3, .int x3), (4, .int x4), (5, .int x5)], [.int x2, .ref m0], M17)) rfl ?_
  refine ml_call (a := [.ref m0, .int x2]) (rest := []) rfl (hR21.okc rfl rfl rfl) rfl rfl (rm_four hR21 (hc1) (by omega) (hb1) (by omega)) (fun v26 M27 h28 => ?_)
  obtain ⟨rfl, I29, R30, hR31, hI32, hV33, w35⟩ := h28
  show ml _ _ _ (34, [(0, .ref m0), (1, .int x1), (2, .int x2), (3, .int x3), (4, .int x4), (5, .int x5)], [], M27) _
  obtain ⟨hc2, hb2⟩ := w35
  refine ml_blk 2 (S' := (36, [(0, .ref m0), (1, .int x1), (2, .int x2), (3, .int x3), (4, .int x4), (5, .int x5)], [.int x3, .ref m0], M27)) rfl ?_
  refine ml_call (a := [.ref m0, .int x3]) (rest := []) rfl (hR31.okc rfl rfl rfl) rfl rfl (rm_four hR31 (hc2) (by omega) (hb2) (by omega)) (fun v36 M37 h38 => ?_)
  obtain ⟨rfl, I39, R40, hR41, hI42, hV43, w45⟩ := h38
  show ml _ _ _ (39, [(0, .ref m0), (1, .int x1), (2, .int x2), (3, .int x3), (4, .int x4), (5, .int x5)], [], M37) _
  obtain ⟨hc3, hb3⟩ := w45
  refine ml_blk 2 (S' := (42, [(0, .ref m0), (1, .int x1), (2, .int x2), (3, .int x3), (4, .int x4), (5, .int x5)], [.int x4, .ref m0], M37)) rfl ?_
  refine ml_call (a := [.ref m0, .int x4]) (rest := []) rfl (hR41.okc rfl rfl rfl) rfl rfl (rm_four hR41 (hc3) (by omega) (hb3) (by omega)) (fun v46 M47 h48 => ?_)
  obtain ⟨rfl, I49, R50, hR51, hI52, hV53, w55⟩ := h48
  show ml _ _ _ (45, [(0, .ref m0), (1, .int x1), (2, .int x2), (3, .int x3), (4, .int x4), (5, .int x5)], [], M47) _
  obtain ⟨hc4, hb4⟩ := w55
  refine ml_blk 2 (S' := (48, [(0, .ref m0), (1, .int x1), (2, .int x2), (3, .int x3), (4, .int x4), (5, .int x5)], [.int x5, .ref m0], M47)) rfl ?_
  refine ml_call (a := [.ref m0, .int x5]) (rest := []) rfl (hR51.okc rfl rfl rfl) rfl rfl (rm_four hR51 (hc4) (by omega) (hb4) (by omega)) (fun v56 M57 h58 => ?_)
  obtain ⟨rfl, I59, R60, hR61, hI62, hV63, w65⟩ := h58
  show ml _ _ _ (51, [(0, .ref m0), (1, .int x1), (2, .int x2), (3, .int x3), (4, .int x4), (5, .int x5)], [], M57) _
  obtain ⟨hc5, hb5⟩ := w65
  refine ml_st (S' := (52, [(0, .ref m0), (1, .int x1), (2, .int x2), (3, .int x3), (4, .int x4), (5, .int x5)], [.ref m0], M57)) rfl rfl rfl ?_
  refine rg_int (S' := (55, [(0, .ref m0), (1, .int x1), (2, .int x2), (3, .int x3), (4, .int x4), (5, .int x5)], [.int (nI (cc + 4 + 4 + 4 + 4 + 4))], M57)) rfl hR61 rfl (hc5) rfl ?_
  exact ml_ret rfl (rfl) (⟨_, _, _, rfl, hR61, ((((((eqI.rf.put f15 (by decide)).tr hI22 (by decide)).tr hI32 (by decide)).tr hI42 (by decide)).tr hI52 (by decide)).tr hI62 (by decide)), (((((eqR.rf.tr hV23 (by decide)).tr hV33 (by decide)).tr hV43 (by decide)).tr hV53 (by decide)).tr hV63 (by decide)), ⟨rfl, (hI62 0 (by decide)).trans ((hI52 0 (by decide)).trans ((hI42 0 (by decide)).trans ((hI32 0 (by decide)).trans ((hI22 0 (by decide)).trans (e14))))), hc5, hb5⟩⟩)
set_option maxHeartbeats 2000000 in
theorem rm_end {g : xe_G}  {m0 : Nat} {q : Nat → Nat} {z : Nat × Nat} {I : rI} {R : rR} {M : mi_H} {x1 : Int32} {cc : Nat}  (hR : RS g m0 q z I R M) (hk19 : I 19 = some (nI cc)) (hcc : cc ≤ 65540) (hkb0 : KB 15 cc R) {d : Nat} (hd : 2 ≤ d) : mt (mT g) d 202 [.ref m0, .int x1] M (fun v M' => ∃ (x : Int32) (I' : rI) (R' : rR), v = some (.int x) ∧ RS g m0 q z I' R' M' ∧ eqI [0, 17, 19] I I' ∧ eqR [13] R R' ∧ ((¬ (0 ≤ x1.toInt ∧ x1.toInt ≤ cc) ∧ I' 0 = some 1 ∧ I' 17 = I 17 ∧ I' 19 = I 19 ∧ R' 13 = R 13) ∨ (0 ≤ x1.toInt ∧ x1.toInt ≤ cc ∧ x = x1 ∧ I' 0 = some 0 ∧ I' 17 = some x1 ∧ I' 19 = some 0 ∧ KB 13 x1.toInt.toNat R'))) := by
  obtain ⟨d, rfl⟩ : ∃ e, d = e + 1 := ⟨d - 1, by omega⟩
  refine mt_in (b := mb_202 g) rfl rfl ?_
  show ml (mT g) d (mb_202 g).2 (0, [(0, .ref m0), (1, .int x1)], [], M) _
  refine ml_blk 2 (S' := (2, [(0, .ref m0), (1, .int x1)], [.int 0, .ref m0], M)) rfl ?_
  refine rp_int rfl hR rfl (fun M11 I12 hR13 e14 f15 => ?_)
  show ml _ _ _ (5, [(0, .ref m0), (1, .int x1)], [], M11) _
  refine ml_st (S' := (6, [(0, .ref m0), (1, .int x1)], [.int x1], M11)) rfl rfl rfl ?_
  refine ml_if (S1 := (17, [(0, .ref m0)], [], M11)) (S2 := (9, [(0, .ref m0), (1, .int x1)], [], M11)) rfl rfl rfl (fun c_6 => ?_) (fun c_6 => ?_)
  · have c_6 : x1 < 0 := of_decide_eq_true c_6
    refine ml_st (S' := (18, [(0, .ref m0)], [.ref m0], M11)) rfl rfl rfl ?_
    refine ml_call (a := [.ref m0]) (rest := []) rfl (hR13.okc rfl rfl rfl) rfl rfl (rm_bad hR13 (by omega)) (fun v16 M17 h18 => ?_)
    obtain ⟨u24, I19, R20, rfl, hR21, hI22, hV23, w25⟩ := h18
    show ml _ _ _ (21, [(0, .ref m0)], [.int u24], M17) _
    exact ml_ret rfl (rfl) (⟨_, _, _, rfl, hR21, ((eqI.rf.put f15 (by decide)).tr hI22 (by decide)), (eqR.rf.tr hV23 (by decide)), Or.inl ⟨fun h => by have q := i_lt c_6; have : (0 : Int32).toInt = 0 := rfl; omega, w25, (hI22 17 (by decide)).trans (f15 17 (by decide)), (hI22 19 (by decide)).trans (f15 19 (by decide)), hV23 13 (by decide)⟩⟩)
  · have c_6 : ¬ (x1 < 0) := of_decide_eq_false c_6
    refine ml_blk 2 (S' := (11, [(0, .ref m0), (1, .int x1)], [.ref m0, .int x1], M11)) rfl ?_
    refine rg_int (S' := (14, [(0, .ref m0), (1, .int x1)], [.int (nI cc), .int x1], M11)) rfl hR13 rfl ((f15 19 (by decide)).trans (hk19)) rfl ?_
    refine ml_if2 (S1 := (22, [(0, .ref m0), (1, .int x1)], [], M11)) (S2 := (17, [(0, .ref m0)], [], M11)) rfl rfl rfl (fun c_14 => ?_) (fun c_14 => ?_)
    · have c_14 : x1 ≤ (nI cc) := of_decide_eq_true c_14
      have hx0 : 0 ≤ x1.toInt := i_nlt c_6
      have hxc : x1.toInt ≤ cc := by have q := i_le c_14; rw [nI_val (by omega)] at q; exact q
      refine ml_st (S' := (23, [(0, .ref m0), (1, .int x1)], [.int 0], M11)) rfl rfl rfl ?_
      refine ml_st (S' := (24, [(0, .ref m0), (1, .int x1), (2, .int 0)], [], M11)) rfl rfl rfl ?_
      have L_24 : ∀ (n_24 : Nat) (i24_2 : Int32) (M_24 : mi_H) (I_24 : rI) (R_24 : rR), (2147483648 - i24_2.toInt).toNat ≤ n_24 → RS g m0 q z I_24 R_24 M_24 → eqI [] I12 I_24 → eqR [13] R R_24 → (0 ≤ i24_2.toInt ∧ i24_2.toInt ≤ x1.toInt ∧ KB 13 i24_2.toInt.toNat R_24) → ml (mT g) d (mb_202 g).2 (24, [(0, .ref m0), (1, .int x1), (2, .int i24_2)], [], M_24) (fun v M' => ∃ (x : Int32) (I' : rI) (R' : rR), v = some (.int x) ∧ RS g m0 q z I' R' M' ∧ eqI [0, 17, 19] I I' ∧ eqR [13] R R' ∧ ((¬ (0 ≤ x1.toInt ∧ x1.toInt ≤ cc) ∧ I' 0 = some 1 ∧ I' 17 = I 17 ∧ I' 19 = I 19 ∧ R' 13 = R 13) ∨ (0 ≤ x1.toInt ∧ x1.toInt ≤ cc ∧ x = x1 ∧ I' 0 = some 0 ∧ I' 17 = some x1 ∧ I' 19 = some 0 ∧ KB 13 x1.toInt.toNat R'))) := by
        intro n_24
        induction n_24 with
        | zero => intro i24_2 M_24 I_24 R_24 hn; exact (loop_zero hn).elim
        | succ n_24 ih_24 =>
          intro i24_2 M_24 I_24 R_24 hn_24 hR_24 hI_24 hV_24 hi_24
          obtain ⟨hk0, hk1, hk13⟩ := hi_24
          refine ml_blk 2 (S' := (26, [(0, .ref m0), (1, .int x1), (2, .int i24_2)], [.int x1, .int i24_2], M_24)) rfl ?_
          refine ml_if2 (S1 := (47, [(0, .ref m0), (1, .int x1), (2, .int i24_2)], [], M_24)) (S2 := (29, [(0, .ref m0), (1, .int x1), (2, .int i24_2)], [], M_24)) rfl rfl rfl (fun c_26 => ?_) (fun c_26 => ?_)
          · have c_26 : x1 ≤ i24_2 := of_decide_eq_true c_26
            refine ml_blk 2 (S' := (49, [(0, .ref m0), (1, .int x1), (2, .int i24_2)], [.int x1, .ref m0], M_24)) rfl ?_
            refine rp_int rfl hR_24 rfl (fun M26 I27 hR28 e29 f30 => ?_)
            show ml _ _ _ (52, [(0, .ref m0), (1, .int x1), (2, .int i24_2)], [], M26) _
            refine ml_blk 2 (S' := (54, [(0, .ref m0), (1, .int x1), (2, .int i24_2)], [.int 0, .ref m0], M26)) rfl ?_
            refine rp_int rfl hR28 rfl (fun M31 I32 hR33 e34 f35 => ?_)
            show ml _ _ _ (57, [(0, .ref m0), (1, .int x1), (2, .int i24_2)], [], M31) _
            refine ml_st (S' := (58, [(0, .ref m0), (1, .int x1), (2, .int i24_2)], [.int x1], M31)) rfl rfl rfl ?_
            exact ml_ret rfl (rfl) (⟨_, _, _, rfl, hR33, ((((eqI.rf.put f15 (by decide)).tr hI_24 (by decide)).put f30 (by decide)).put f35 (by decide)), (eqR.rf.tr hV_24 (by decide)), Or.inr ⟨hx0, hxc, rfl, (f35 0 (by decide)).trans ((f30 0 (by decide)).trans ((hI_24 0 (by decide)).trans (e14))), (f35 17 (by decide)).trans (e29), e34, by have q := i_le c_26; rw [show x1.toInt.toNat = i24_2.toInt.toNat by omega]; exact hk13⟩⟩)
          · have c_26 : ¬ (x1 ≤ i24_2) := of_decide_eq_false c_26
            refine ml_st (S' := (30, [(0, .ref m0), (1, .int x1), (2, .int i24_2)], [.ref m0], M_24)) rfl rfl rfl ?_
            refine rg_ref (S' := (33, [(0, .ref m0), (1, .int x1), (2, .int i24_2)], [.ref (q 13)], M_24)) rfl hR_24 rfl rfl ?_
            refine ml_blk 2 (S' := (35, [(0, .ref m0), (1, .int x1), (2, .int i24_2)], [.ref m0, .int i24_2, .ref (q 13)], M_24)) rfl ?_
            refine rg_ref (S' := (38, [(0, .ref m0), (1, .int x1), (2, .int i24_2)], [.ref (q 15), .int i24_2, .ref (q 13)], M_24)) rfl hR_24 rfl rfl ?_
            refine ml_st (S' := (39, [(0, .ref m0), (1, .int x1), (2, .int i24_2)], [.int i24_2, .ref (q 15), .int i24_2, .ref (q 13)], M_24)) rfl rfl rfl ?_
            have hlt := i_nle c_26
            obtain ⟨b36, hb37⟩ := hkb0 i24_2.toNatClampNeg (by show i24_2.toInt.toNat < cc; omega)
            refine ra_ld (k := 15) (S' := (40, [(0, .ref m0), (1, .int x1), (2, .int i24_2)], [.int b36, .int i24_2, .ref (q 13)], M_24)) rfl hR_24 rfl (vin_lt hk0 (by omega)) ((congrFun (hV_24 15 (by decide)) _).trans hb37) rfl ?_
            refine ra_st (k := 13) rfl hR_24 rfl (vin_lt hk0 (by omega)) (fun M38 R39 hR40 e41 g42 f43 => ?_)
            show ml _ _ _ (41, [(0, .ref m0), (1, .int x1), (2, .int i24_2)], [], M38) _
            refine ml_st (S' := (44, [(2, .int (i24_2 + 1)), (0, .ref m0), (1, .int x1)], [], M38)) rfl rfl rfl ?_
            refine ml_st (S' := (24, [(0, .ref m0), (1, .int x1), (2, .int (i24_2 + 1))], [], M38)) rfl rfl rfl ?_
            exact ih_24 (i24_2 + 1) _ _ _ (loop_inc (Int32.not_le.mp c_26) hn_24) hR40 (eqI.rf.tr hI_24 (by decide)) ((eqR.rf.tr hV_24 (by decide)).put f43 (by decide)) (⟨by rw [inc_lt (Int32.not_le.mp c_26)]; omega, by rw [inc_lt (Int32.not_le.mp c_26)]; have := i_nle c_26; omega, by rw [show (i24_2 + 1).toInt.toNat = i24_2.toInt.toNat + 1 by rw [inc_lt (Int32.not_le.mp c_26)]; omega]; exact hk13.put (by omega) e41 g42⟩)
      exact L_24 _ 0 _ _ _ (Nat.le_refl _) hR13 eqI.rf eqR.rf (⟨by decide, hx0, fun i hi => absurd hi (Nat.not_lt_zero i)⟩)
    · have c_14 : ¬ (x1 ≤ (nI cc)) := of_decide_eq_false c_14
      refine ml_st (S' := (18, [(0, .ref m0)], [.ref m0], M11)) rfl rfl rfl ?_
      refine ml_call (a := [.ref m0]) (rest := []) rfl (hR13.okc rfl rfl rfl) rfl rfl (rm_bad hR13 (by omega)) (fun v44 M45 h46 => ?_)
      obtain ⟨u52, I47, R48, rfl, hR49, hI50, hV51, w53⟩ := h46
      show ml _ _ _ (21, [(0, .ref m0)], [.int u52], M45) _
      exact ml_ret rfl (rfl) (⟨_, _, _, rfl, hR49, ((eqI.rf.put f15 (by decide)).tr hI50 (by decide)), (eqR.rf.tr hV51 (by decide)), Or.inl ⟨fun h => by have q := i_nle c_14; rw [nI_val (by omega)] at q; omega, w53, (hI50 17 (by decide)).trans (f15 17 (by decide)), (hI50 19 (by decide)).trans (f15 19 (by decide)), hV51 13 (by decide)⟩⟩)
