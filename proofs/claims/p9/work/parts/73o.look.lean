set_option maxHeartbeats 2000000 in
theorem rm_row {g : xe_G}  {m0 : Nat} {q : Nat → Nat} {z : Nat × Nat} {I : rI} {R : rR} {M : mi_H} {x1 x2 x3 kn : Int32} {n : Nat} {f : Nat → Int32}  (hR : RS g m0 q z I R M) (hk18 : I 18 = some kn) (hG : (kn < 0 ∨ GD n f I R)) {d : Nat} (hd : 3 ≤ d) : mt (mT g) d 239 [.ref m0, .int x1, .int x2, .int x3] M (fun v M' => ∃ (x : Int32) (I' : rI) (R' : rR), v = some (.int x) ∧ RS g m0 q z I' R' M' ∧ eqI [0] I I' ∧ eqR [] R R') := by
  obtain ⟨d, rfl⟩ : ∃ e, d = e + 1 := ⟨d - 1, by omega⟩
  refine mt_in (b := mb_239 g) rfl rfl ?_
  show ml (mT g) d (mb_239 g).2 (0, [(0, .ref m0), (1, .int x1), (2, .int x2), (3, .int x3)], [], M) _
  refine ml_blk 2 (S' := (2, [(0, .ref m0), (1, .int x1), (2, .int x2), (3, .int x3)], [.int 0, .ref m0], M)) rfl ?_
  refine rp_int rfl hR rfl (fun M11 I12 hR13 e14 f15 => ?_)
  show ml _ _ _ (5, [(0, .ref m0), (1, .int x1), (2, .int x2), (3, .int x3)], [], M11) _
  refine ml_st (S' := (6, [(0, .ref m0), (1, .int x1), (2, .int x2), (3, .int x3)], [.int x3], M11)) rfl rfl rfl ?_
  refine ml_if (S1 := (14, [(0, .ref m0)], [], M11)) (S2 := (9, [(0, .ref m0), (1, .int x1), (2, .int x2), (3, .int x3)], [], M11)) rfl rfl rfl (fun c_6 => ?_) (fun c_6 => ?_)
  · have c_6 : x3 < 0 := of_decide_eq_true c_6
    refine ml_st (S' := (15, [(0, .ref m0)], [.ref m0], M11)) rfl rfl rfl ?_
    refine ml_call (a := [.ref m0]) (rest := []) rfl (hR13.okc rfl rfl rfl) rfl rfl (rm_bad hR13 (by omega)) (fun v16 M17 h18 => ?_)
    obtain ⟨u24, I19, R20, rfl, hR21, hI22, hV23, w25⟩ := h18
    show ml _ _ _ (18, [(0, .ref m0)], [.int u24], M17) _
    exact ml_ret rfl (rfl) (⟨_, _, _, rfl, hR21, ((eqI.rf.put f15 (by decide)).tr hI22 (by decide)), (eqR.rf.tr hV23 (by decide))⟩)
  · have c_6 : ¬ (x3 < 0) := of_decide_eq_false c_6
    refine ml_blk 2 (S' := (11, [(0, .ref m0), (1, .int x1), (2, .int x2), (3, .int x3)], [.int 3, .int x3], M11)) rfl ?_
    refine ml_if2 (S1 := (19, [(0, .ref m0), (1, .int x1), (2, .int x2), (3, .int x3)], [], M11)) (S2 := (14, [(0, .ref m0)], [], M11)) rfl rfl rfl (fun c_11 => ?_) (fun c_11 => ?_)
    · have c_11 : x3 ≤ 3 := of_decide_eq_true c_11
      refine ml_st (S' := (20, [(0, .ref m0), (1, .int x1), (2, .int x2), (3, .int x3)], [.ref m0], M11)) rfl rfl rfl ?_
      refine rg_int (S' := (23, [(0, .ref m0), (1, .int x1), (2, .int x2), (3, .int x3)], [.int kn], M11)) rfl hR13 rfl ((f15 18 (by decide)).trans (hk18)) rfl ?_
      refine ml_if (S1 := (61, [], [], M11)) (S2 := (26, [(0, .ref m0), (1, .int x1), (2, .int x2), (3, .int x3)], [], M11)) rfl rfl rfl (fun c_23 => ?_) (fun c_23 => ?_)
      · have c_23 : kn < 0 := of_decide_eq_true c_23
        refine ml_st (S' := (62, [], [.int (-1)], M11)) rfl rfl rfl ?_
        exact ml_ret rfl (rfl) (⟨_, _, _, rfl, hR13, (eqI.rf.put f15 (by decide)), eqR.rf⟩)
      · have c_23 : ¬ (kn < 0) := of_decide_eq_false c_23
        obtain ⟨S, cN, sa, sl, ch, cp, mj, pa, py, hA, fA, mA, aA, nf, ni, kf, km, hF0, hY0, hP0, hE0, hFO, kq54, kq58, kq61, hkf, kq25, hfk, hkm, kq26, hmk, hNW⟩ := hG.resolve_left (c_23)
        have hn := hF0.1
        refine ml_st (S' := (27, [(0, .ref m0), (1, .int x1), (2, .int x2), (3, .int x3)], [.int x1], M11)) rfl rfl rfl ?_
        refine ml_if (S1 := (61, [], [], M11)) (S2 := (30, [(0, .ref m0), (1, .int x1), (2, .int x2), (3, .int x3)], [], M11)) rfl rfl rfl (fun c_27 => ?_) (fun c_27 => ?_)
        · have c_27 : x1 < 0 := of_decide_eq_true c_27
          refine ml_st (S' := (62, [], [.int (-1)], M11)) rfl rfl rfl ?_
          exact ml_ret rfl (rfl) (⟨_, _, _, rfl, hR13, (eqI.rf.put f15 (by decide)), eqR.rf⟩)
        · have c_27 : ¬ (x1 < 0) := of_decide_eq_false c_27
          refine ml_blk 2 (S' := (32, [(0, .ref m0), (1, .int x1), (2, .int x2), (3, .int x3)], [.ref m0, .int x1], M11)) rfl ?_
          refine rg_int (S' := (35, [(0, .ref m0), (1, .int x1), (2, .int x2), (3, .int x3)], [.int (nI km), .int x1], M11)) rfl hR13 rfl ((f15 26 (by decide)).trans (kq26)) rfl ?_
          refine ml_if2 (S1 := (61, [], [], M11)) (S2 := (38, [(0, .ref m0), (1, .int x1), (2, .int x2), (3, .int x3)], [], M11)) rfl rfl rfl (fun c_35 => ?_) (fun c_35 => ?_)
          · have c_35 : (nI km) ≤ x1 := of_decide_eq_true c_35
            refine ml_st (S' := (62, [], [.int (-1)], M11)) rfl rfl rfl ?_
            exact ml_ret rfl (rfl) (⟨_, _, _, rfl, hR13, (eqI.rf.put f15 (by decide)), eqR.rf⟩)
          · have c_35 : ¬ ((nI km) ≤ x1) := of_decide_eq_false c_35
            have hx0 : 0 ≤ x1.toInt := i_nlt c_27
            have hx1 : x1.toInt < km := i_ltn (Int32.not_le.mp c_35) hkm
            obtain ⟨-, ⟨mc, hmc, hmd⟩, -⟩ := hmk x1.toNatClampNeg (by show x1.toInt.toNat < km; omega)
            refine ml_st (S' := (39, [(0, .ref m0), (1, .int x1), (2, .int x2), (3, .int x3)], [.ref m0], M11)) rfl rfl rfl ?_
            refine rg_ref (S' := (42, [(0, .ref m0), (1, .int x1), (2, .int x2), (3, .int x3)], [.ref (q 37)], M11)) rfl hR13 rfl rfl ?_
            refine ml_st (S' := (43, [(0, .ref m0), (1, .int x1), (2, .int x2), (3, .int x3)], [.int x1, .ref (q 37)], M11)) rfl rfl rfl ?_
            refine ra_ld (k := 37) (S' := (44, [(0, .ref m0), (1, .int x1), (2, .int x2), (3, .int x3)], [.int mc], M11)) rfl hR13 rfl (vin_lt hx0 (by omega)) (hmc) rfl ?_
            refine ml_if (S1 := (61, [], [], M11)) (S2 := (47, [(0, .ref m0), (1, .int x1), (2, .int x2), (3, .int x3)], [], M11)) rfl rfl rfl (fun c_44 => ?_) (fun c_44 => ?_)
            · have c_44 : mc < 0 := of_decide_eq_true c_44
              refine ml_st (S' := (62, [], [.int (-1)], M11)) rfl rfl rfl ?_
              exact ml_ret rfl (rfl) (⟨_, _, _, rfl, hR13, (eqI.rf.put f15 (by decide)), eqR.rf⟩)
            · have c_44 : ¬ (mc < 0) := of_decide_eq_false c_44
              obtain ⟨ml9, mr9, mm9, ms9, mt9, hl9, hr9, hm9, hs9, ht9, hl0, hcl, hr0, hm0, hrm⟩ := hmd.resolve_left (by have q : 0 ≤ mc.toInt := i_nlt c_44; omega)
              refine ml_st (S' := (48, [(0, .ref m0), (1, .int x1), (2, .int x2), (3, .int x3)], [.int x2], M11)) rfl rfl rfl ?_
              refine ml_if (S1 := (61, [], [], M11)) (S2 := (51, [(0, .ref m0), (1, .int x1), (2, .int x2), (3, .int x3)], [], M11)) rfl rfl rfl (fun c_48 => ?_) (fun c_48 => ?_)
              · have c_48 : x2 < 0 := of_decide_eq_true c_48
                refine ml_st (S' := (62, [], [.int (-1)], M11)) rfl rfl rfl ?_
                exact ml_ret rfl (rfl) (⟨_, _, _, rfl, hR13, (eqI.rf.put f15 (by decide)), eqR.rf⟩)
              · have c_48 : ¬ (x2 < 0) := of_decide_eq_false c_48
                refine ml_blk 2 (S' := (53, [(0, .ref m0), (1, .int x1), (2, .int x2), (3, .int x3)], [.ref m0, .int x2], M11)) rfl ?_
                refine rg_ref (S' := (56, [(0, .ref m0), (1, .int x1), (2, .int x2), (3, .int x3)], [.ref (q 42), .int x2], M11)) rfl hR13 rfl rfl ?_
                refine ml_st (S' := (57, [(0, .ref m0), (1, .int x1), (2, .int x2), (3, .int x3)], [.int x1, .ref (q 42), .int x2], M11)) rfl rfl rfl ?_
                refine ra_ld (k := 42) (S' := (58, [(0, .ref m0), (1, .int x1), (2, .int x2), (3, .int x3)], [.int mm9, .int x2], M11)) rfl hR13 rfl (vin_lt hx0 (by omega)) (hm9) rfl ?_
                refine ml_if2 (S1 := (63, [(0, .ref m0), (1, .int x1), (2, .int x2), (3, .int x3)], [], M11)) (S2 := (61, [], [], M11)) rfl rfl rfl (fun c_58 => ?_) (fun c_58 => ?_)
                · have c_58 : x2 < mm9 := of_decide_eq_true c_58
                  have y0 : 0 ≤ x2.toInt := i_nlt c_48
                  have y1 := i_lt c_58
                  have w0 : 0 ≤ x3.toInt := i_nlt c_6
                  have w1 := i_le c_11
                  have w3 : (3 : Int32).toInt = 3 := rfl
                  have m8 : (8 * x2).toInt = 8 * x2.toInt := by have e8 : (8 : Int32).toInt = 8 := rfl; rw [i_mul (by rw [e8]; omega) (by rw [e8]; omega), e8]
                  have a1 : (mr9 + 8 * x2).toInt = mr9.toInt + 8 * x2.toInt := by rw [i_add (by omega) (by omega), m8]
                  have a2 : (mr9 + 8 * x2 + 2 * x3).toInt = mr9.toInt + 8 * x2.toInt + 2 * x3.toInt := by have t2 := two_k w0 (by omega); rw [i_add (by omega) (by omega), a1, t2]
                  refine ml_blk 2 (S' := (65, [(0, .ref m0), (1, .int x1), (2, .int x2), (3, .int x3)], [.ref m0, .ref m0], M11)) rfl ?_
                  refine rg_ref (S' := (68, [(0, .ref m0), (1, .int x1), (2, .int x2), (3, .int x3)], [.ref (q 41), .ref m0], M11)) rfl hR13 rfl rfl ?_
                  refine ml_st (S' := (69, [(0, .ref m0), (1, .int x1), (2, .int x2), (3, .int x3)], [.int x1, .ref (q 41), .ref m0], M11)) rfl rfl rfl ?_
                  refine ra_ld (k := 41) (S' := (70, [(0, .ref m0), (1, .int x1), (2, .int x2), (3, .int x3)], [.int mr9, .ref m0], M11)) rfl hR13 rfl (vin_lt hx0 (by omega)) (hr9) rfl ?_
                  refine ml_blk 3 (S' := (74, [(0, .ref m0), (1, .int x1), (2, .int x2), (3, .int x3)], [.int (8 * x2), .int mr9, .ref m0], M11)) rfl ?_
                  refine ml_blk 3 (S' := (77, [(0, .ref m0), (1, .int x1), (2, .int x2), (3, .int x3)], [.int x3, .int 2, .int (mr9 + (8 * x2)), .ref m0], M11)) rfl ?_
                  refine ml_blk 2 (S' := (79, [(0, .ref m0), (1, .int x1), (2, .int x2), (3, .int x3)], [.int ((mr9 + (8 * x2)) + (2 * x3)), .ref m0], M11)) rfl ?_
                  have hF26 : FK n f I12 R := (hF0.mono (pIx f15 (by decide)) (fun _ _ => rfl))
                  refine ml_call (a := [.ref m0, .int ((mr9 + (8 * x2)) + (2 * x3))]) (rest := []) rfl (hR13.okc rfl rfl rfl) rfl rfl (rm_u2 hR13 hF26 (by omega) (by omega) (by omega)) (fun v27 M28 h29 => ?_)
                  obtain ⟨rfl, h29⟩ := h29
                  rw [h29]
                  show ml _ _ _ (82, [(0, .ref m0), (1, .int x1), (2, .int x2), (3, .int x3)], [.int (f2 f ((mr9 + (8 * x2)) + (2 * x3)))], M11) _
                  exact ml_ret rfl (rfl) (⟨_, _, _, rfl, hR13, (eqI.rf.put f15 (by decide)), eqR.rf⟩)
                · have c_58 : ¬ (x2 < mm9) := of_decide_eq_false c_58
                  refine ml_st (S' := (62, [], [.int (-1)], M11)) rfl rfl rfl ?_
                  exact ml_ret rfl (rfl) (⟨_, _, _, rfl, hR13, (eqI.rf.put f15 (by decide)), eqR.rf⟩)
    · have c_11 : ¬ (x3 ≤ 3) := of_decide_eq_false c_11
      refine ml_st (S' := (15, [(0, .ref m0)], [.ref m0], M11)) rfl rfl rfl ?_
      refine ml_call (a := [.ref m0]) (rest := []) rfl (hR13.okc rfl rfl rfl) rfl rfl (rm_bad hR13 (by omega)) (fun v30 M31 h32 => ?_)
      obtain ⟨u38, I33, R34, rfl, hR35, hI36, hV37, w39⟩ := h32
      show ml _ _ _ (18, [(0, .ref m0)], [.int u38], M31) _
      exact ml_ret rfl (rfl) (⟨_, _, _, rfl, hR35, ((eqI.rf.put f15 (by decide)).tr hI36 (by decide)), (eqR.rf.tr hV37 (by decide))⟩)
set_option maxHeartbeats 2000000 in
theorem rm_bootstrap {g : xe_G}  {m0 : Nat} {q : Nat → Nat} {z : Nat × Nat} {I : rI} {R : rR} {M : mi_H} {x1 x2 kn : Int32} {n : Nat} {f : Nat → Int32}  (hR : RS g m0 q z I R M) (hk18 : I 18 = some kn) (hG : (kn < 0 ∨ GD n f I R)) {d : Nat} (hd : 3 ≤ d) : mt (mT g) d 184 [.ref m0, .int x1, .int x2] M (fun v M' => ∃ (x : Int32) (I' : rI) (R' : rR), v = some (.int x) ∧ RS g m0 q z I' R' M' ∧ eqI [0] I I' ∧ eqR [] R R') := by
  obtain ⟨d, rfl⟩ : ∃ e, d = e + 1 := ⟨d - 1, by omega⟩
  refine mt_in (b := mb_184 g) rfl rfl ?_
  show ml (mT g) d (mb_184 g).2 (0, [(0, .ref m0), (1, .int x1), (2, .int x2)], [], M) _
  refine ml_blk 2 (S' := (2, [(0, .ref m0), (1, .int x1), (2, .int x2)], [.int 0, .ref m0], M)) rfl ?_
  refine rp_int rfl hR rfl (fun M11 I12 hR13 e14 f15 => ?_)
  show ml _ _ _ (5, [(0, .ref m0), (1, .int x1), (2, .int x2)], [], M11) _
  refine ml_st (S' := (6, [(0, .ref m0), (1, .int x1), (2, .int x2)], [.ref m0], M11)) rfl rfl rfl ?_
  refine rg_int (S' := (9, [(0, .ref m0), (1, .int x1), (2, .int x2)], [.int kn], M11)) rfl hR13 rfl ((f15 18 (by decide)).trans (hk18)) rfl ?_
  refine ml_if (S1 := (28, [], [], M11)) (S2 := (12, [(0, .ref m0), (1, .int x1), (2, .int x2)], [], M11)) rfl rfl rfl (fun c_9 => ?_) (fun c_9 => ?_)
  · have c_9 : kn < 0 := of_decide_eq_true c_9
    refine ml_st (S' := (29, [], [.int (-1)], M11)) rfl rfl rfl ?_
    exact ml_ret rfl (rfl) (⟨_, _, _, rfl, hR13, (eqI.rf.put f15 (by decide)), eqR.rf⟩)
  · have c_9 : ¬ (kn < 0) := of_decide_eq_false c_9
    obtain ⟨S, cN, sa, sl, ch, cp, mj, pa, py, hA, fA, mA, aA, nf, ni, kf, km, hF0, hY0, hP0, hE0, hFO, kq54, kq58, kq61, hkf, kq25, hfk, hkm, kq26, hmk, hNW⟩ := hG.resolve_left (c_9)
    have hn := hF0.1
    obtain ⟨hNk, nb, nc, kq70, kq71, hnc, hbs⟩ := hNW
    refine ml_st (S' := (13, [(0, .ref m0), (1, .int x1), (2, .int x2)], [.int x1], M11)) rfl rfl rfl ?_
    refine ml_if (S1 := (28, [], [], M11)) (S2 := (16, [(0, .ref m0), (1, .int x1), (2, .int x2)], [], M11)) rfl rfl rfl (fun c_13 => ?_) (fun c_13 => ?_)
    · have c_13 : x1 < 0 := of_decide_eq_true c_13
      refine ml_st (S' := (29, [], [.int (-1)], M11)) rfl rfl rfl ?_
      exact ml_ret rfl (rfl) (⟨_, _, _, rfl, hR13, (eqI.rf.put f15 (by decide)), eqR.rf⟩)
    · have c_13 : ¬ (x1 < 0) := of_decide_eq_false c_13
      refine ml_blk 2 (S' := (18, [(0, .ref m0), (1, .int x1), (2, .int x2)], [.ref m0, .int x1], M11)) rfl ?_
      refine rg_int (S' := (21, [(0, .ref m0), (1, .int x1), (2, .int x2)], [.int nc, .int x1], M11)) rfl hR13 rfl ((f15 71 (by decide)).trans (kq71)) rfl ?_
      refine ml_if2 (S1 := (28, [], [], M11)) (S2 := (24, [(0, .ref m0), (1, .int x1), (2, .int x2)], [], M11)) rfl rfl rfl (fun c_21 => ?_) (fun c_21 => ?_)
      · have c_21 : nc ≤ x1 := of_decide_eq_true c_21
        refine ml_st (S' := (29, [], [.int (-1)], M11)) rfl rfl rfl ?_
        exact ml_ret rfl (rfl) (⟨_, _, _, rfl, hR13, (eqI.rf.put f15 (by decide)), eqR.rf⟩)
      · have c_21 : ¬ (nc ≤ x1) := of_decide_eq_false c_21
        refine ml_st (S' := (25, [(0, .ref m0), (1, .int x1), (2, .int x2)], [.int x2], M11)) rfl rfl rfl ?_
        refine ml_if (S1 := (30, [(0, .ref m0), (1, .int x1), (2, .int x2)], [], M11)) (S2 := (28, [], [], M11)) rfl rfl rfl (fun c_25 => ?_) (fun c_25 => ?_)
        · have c_25 : 0 ≤ x2 := of_decide_eq_true c_25
          have x0 : 0 ≤ x1.toInt := i_nlt c_13
          have x1n := i_nle c_21
          have hp0 : 0 ≤ x2.toInt := i_le c_25
          obtain ⟨hb0, hb2, e9, hit, hen⟩ := hbs.resolve_left (by omega)
          refine ml_st (S' := (31, [(0, .ref m0), (1, .int x1), (2, .int x2)], [.ref m0], M11)) rfl rfl rfl ?_
          refine rg_int (S' := (34, [(0, .ref m0), (1, .int x1), (2, .int x2)], [.int nb], M11)) rfl hR13 rfl ((f15 70 (by decide)).trans (kq70)) rfl ?_
          refine ml_blk 2 (S' := (36, [(0, .ref m0), (1, .int x1), (2, .int x2)], [.int (nb + 2)], M11)) rfl ?_
          refine ml_st (S' := (37, [(3, .int (nb + 2)), (0, .ref m0), (1, .int x1), (2, .int x2)], [], M11)) rfl rfl rfl ?_
          refine ml_st (S' := (38, [(3, .int (nb + 2)), (0, .ref m0), (1, .int x1), (2, .int x2)], [.int 0], M11)) rfl rfl rfl ?_
          refine ml_st (S' := (40, [(0, .ref m0), (1, .int x1), (2, .int x2), (3, .int (nb + 2)), (4, .int 0)], [], M11)) rfl rfl rfl ?_
          have L_40 : ∀ (n_40 : Nat) (i40_3 : Int32) (i40_4 : Int32), (2147483648 - i40_4.toInt).toNat ≤ n_40 → (0 ≤ i40_4.toInt ∧ i40_4.toInt ≤ x1.toInt ∧ itr (BS1 f n) (nc.toInt - i40_4.toInt).toNat i40_3 e9) → ml (mT g) d (mb_184 g).2 (40, [(0, .ref m0), (1, .int x1), (2, .int x2), (3, .int i40_3), (4, .int i40_4)], [], M11) (fun v M' => ∃ (x : Int32) (I' : rI) (R' : rR), v = some (.int x) ∧ RS g m0 q z I' R' M' ∧ eqI [0] I I' ∧ eqR [] R R') := by
            intro n_40
            induction n_40 with
            | zero => intro i40_3 i40_4 hn; exact (loop_zero hn).elim
            | succ n_40 ih_40 =>
              intro i40_3 i40_4 hn_40 hi_40
              obtain ⟨hk0b, hk1b, hitb⟩ := hi_40
              have hkc : ¬ nc ≤ i40_4 := fun e => by have := i_le e; omega
              obtain ⟨b1, hb1, hnx⟩ := itr_next hitb hkc
              have hb2 := hb1
              obtain ⟨g0, g1, g2, g3⟩ := hb2
              have eq2 : (i40_3 + 2).toInt = i40_3.toInt + 2 := i_add (by have : (2 : Int32).toInt = 2 := rfl; omega) (by have : (2 : Int32).toInt = 2 := rfl; omega)
              have hbs2 := bs_of (f := f) hn g0 g1
              have hm0 := f2_pos (f := f) (x := i40_3 + 2)
              have hm1 := f2_le (f := f) (x := i40_3 + 2)
              refine ml_blk 2 (S' := (43, [(0, .ref m0), (1, .int x1), (2, .int x2), (3, .int i40_3), (4, .int i40_4)], [.int x1, .int i40_4], M11)) rfl ?_
              refine ml_if2 (S1 := (66, [(0, .ref m0), (1, .int x1), (2, .int x2), (3, .int i40_3), (4, .int i40_4)], [], M11)) (S2 := (46, [(0, .ref m0), (1, .int x1), (2, .int x2), (3, .int i40_3), (4, .int i40_4)], [], M11)) rfl rfl rfl (fun c_43 => ?_) (fun c_43 => ?_)
              · have c_43 : x1 ≤ i40_4 := of_decide_eq_true c_43
                refine ml_st (S' := (67, [(0, .ref m0), (1, .int x1), (2, .int x2), (3, .int i40_3), (4, .int i40_4)], [.int x2], M11)) rfl rfl rfl ?_
                refine ml_if (S1 := (76, [(0, .ref m0), (1, .int x1), (2, .int x2), (3, .int i40_3), (4, .int i40_4)], [], M11)) (S2 := (70, [(0, .ref m0), (1, .int x1), (2, .int x2), (3, .int i40_3), (4, .int i40_4)], [], M11)) rfl rfl rfl (fun c_67 => ?_) (fun c_67 => ?_)
                · have c_67 : ¬ x2 = 0 := of_decide_eq_true c_67
                  refine ml_blk 3 (S' := (79, [(0, .ref m0), (1, .int x1), (2, .int x2), (3, .int i40_3), (4, .int i40_4)], [.int i40_3, .ref m0, .int x2], M11)) rfl ?_
                  refine ml_blk 2 (S' := (81, [(0, .ref m0), (1, .int x1), (2, .int x2), (3, .int i40_3), (4, .int i40_4)], [.int (i40_3 + 2), .ref m0, .int x2], M11)) rfl ?_
                  have hF16 : FK n f I12 R := (hF0.mono (pIx f15 (by decide)) (fun _ _ => rfl))
                  refine ml_call (a := [.ref m0, .int (i40_3 + 2)]) (rest := [.int x2]) rfl (hR13.okc rfl rfl rfl) rfl rfl (rm_u2 hR13 hF16 (by omega) (by omega) (by omega)) (fun v17 M18 h19 => ?_)
                  obtain ⟨rfl, h19⟩ := h19
                  rw [h19]
                  show ml _ _ _ (84, [(0, .ref m0), (1, .int x1), (2, .int x2), (3, .int i40_3), (4, .int i40_4)], [.int (f2 f (i40_3 + 2)), .int x2], M11) _
                  refine ml_if2 (S1 := (91, [(0, .ref m0), (1, .int x1), (2, .int x2), (3, .int i40_3), (4, .int i40_4)], [], M11)) (S2 := (87, [(0, .ref m0), (1, .int x1), (2, .int x2), (3, .int i40_3), (4, .int i40_4)], [], M11)) rfl rfl rfl (fun c_84 => ?_) (fun c_84 => ?_)
                  · have c_84 : x2 ≤ (f2 f (i40_3 + 2)) := of_decide_eq_true c_84
                    have r1 := i_le c_84
                    have t2 := two_k hp0 (by omega)
                    have a2 : (i40_3 + 2 + 2 * x2).toInt = i40_3.toInt + 2 + 2 * x2.toInt := by rw [i_add (by omega) (by omega), eq2, t2]
                    refine ml_blk 3 (S' := (94, [(0, .ref m0), (1, .int x1), (2, .int x2), (3, .int i40_3), (4, .int i40_4)], [.int 2, .int i40_3, .ref m0], M11)) rfl ?_
                    refine ml_blk 3 (S' := (97, [(0, .ref m0), (1, .int x1), (2, .int x2), (3, .int i40_3), (4, .int i40_4)], [.int x2, .int 2, .int (i40_3 + 2), .ref m0], M11)) rfl ?_
                    refine ml_blk 2 (S' := (99, [(0, .ref m0), (1, .int x1), (2, .int x2), (3, .int i40_3), (4, .int i40_4)], [.int ((i40_3 + 2) + (2 * x2)), .ref m0], M11)) rfl ?_
                    refine ml_call (a := [.ref m0, .int ((i40_3 + 2) + (2 * x2))]) (rest := []) rfl (hR13.okc rfl rfl rfl) rfl rfl (rm_u2 hR13 hF16 (by omega) (by omega) (by omega)) (fun v20 M21 h22 => ?_)
                    obtain ⟨rfl, h22⟩ := h22
                    rw [h22]
                    show ml _ _ _ (102, [], [.int (f2 f ((i40_3 + 2) + (2 * x2)))], M11) _
                    exact ml_ret rfl (rfl) (⟨_, _, _, rfl, hR13, (eqI.rf.put f15 (by decide)), eqR.rf⟩)
                  · have c_84 : ¬ (x2 ≤ (f2 f (i40_3 + 2))) := of_decide_eq_false c_84
                    refine ml_st (S' := (88, [(0, .ref m0), (1, .int x1), (2, .int x2), (3, .int i40_3), (4, .int i40_4)], [.int (-1)], M11)) rfl rfl rfl ?_
                    refine ml_st (S' := (102, [], [.int (-1)], M11)) rfl rfl rfl ?_
                    exact ml_ret rfl (rfl) (⟨_, _, _, rfl, hR13, (eqI.rf.put f15 (by decide)), eqR.rf⟩)
                · have c_67 : ¬ (¬ x2 = 0) := of_decide_eq_false c_67
                  refine ml_blk 2 (S' := (72, [(0, .ref m0), (1, .int x1), (2, .int x2), (3, .int i40_3), (4, .int i40_4)], [.int i40_3, .ref m0], M11)) rfl ?_
                  have hF23 : FK n f I12 R := (hF0.mono (pIx f15 (by decide)) (fun _ _ => rfl))
                  refine ml_call (a := [.ref m0, .int i40_3]) (rest := []) rfl (hR13.okc rfl rfl rfl) rfl rfl (rm_u2 hR13 hF23 (g0) (by omega) (by omega)) (fun v24 M25 h26 => ?_)
                  obtain ⟨rfl, h26⟩ := h26
                  rw [h26]
                  show ml _ _ _ (75, [(0, .ref m0), (1, .int x1), (2, .int x2), (3, .int i40_3), (4, .int i40_4)], [.int (f2 f i40_3)], M11) _
                  exact ml_ret rfl (rfl) (⟨_, _, _, rfl, hR13, (eqI.rf.put f15 (by decide)), eqR.rf⟩)
              · have c_43 : ¬ (x1 ≤ i40_4) := of_decide_eq_false c_43
                refine ml_blk 3 (S' := (49, [(0, .ref m0), (1, .int x1), (2, .int x2), (3, .int i40_3), (4, .int i40_4)], [.int 2, .int 4, .int i40_3], M11)) rfl ?_
                refine ml_blk 3 (S' := (52, [(0, .ref m0), (1, .int x1), (2, .int x2), (3, .int i40_3), (4, .int i40_4)], [.int 2, .int i40_3, .ref m0, .int 2, .int 4, .int i40_3], M11)) rfl ?_
                refine ml_st (S' := (53, [(0, .ref m0), (1, .int x1), (2, .int x2), (3, .int i40_3), (4, .int i40_4)], [.int (i40_3 + 2), .ref m0, .int 2, .int 4, .int i40_3], M11)) rfl rfl rfl ?_
                have hF27 : FK n f I12 R := (hF0.mono (pIx f15 (by decide)) (fun _ _ => rfl))
                refine ml_call (a := [.ref m0, .int (i40_3 + 2)]) (rest := [.int 2, .int 4, .int i40_3]) rfl (hR13.okc rfl rfl rfl) rfl rfl (rm_u2 hR13 hF27 (by omega) (by omega) (by omega)) (fun v28 M29 h30 => ?_)
                obtain ⟨rfl, h30⟩ := h30
                rw [h30]
                show ml _ _ _ (56, [(0, .ref m0), (1, .int x1), (2, .int x2), (3, .int i40_3), (4, .int i40_4)], [.int (f2 f (i40_3 + 2)), .int 2, .int 4, .int i40_3], M11) _
                refine ml_blk 3 (S' := (59, [(0, .ref m0), (1, .int x1), (2, .int x2), (3, .int i40_3), (4, .int i40_4)], [.int (i40_3 + (4 + (2 * (f2 f (i40_3 + 2)))))], M11)) rfl ?_
                refine ml_st (S' := (60, [(3, .int (i40_3 + (4 + (2 * (f2 f (i40_3 + 2)))))), (0, .ref m0), (1, .int x1), (2, .int x2), (4, .int i40_4)], [], M11)) rfl rfl rfl ?_
                refine ml_st (S' := (63, [(4, .int (i40_4 + 1)), (3, .int (i40_3 + (4 + (2 * (f2 f (i40_3 + 2)))))), (0, .ref m0), (1, .int x1), (2, .int x2)], [], M11)) rfl rfl rfl ?_
                refine ml_st (S' := (40, [(0, .ref m0), (1, .int x1), (2, .int x2), (3, .int (i40_3 + (4 + (2 * (f2 f (i40_3 + 2)))))), (4, .int (i40_4 + 1))], [], M11)) rfl rfl rfl ?_
                exact ih_40 (i40_3 + (4 + (2 * (f2 f (i40_3 + 2))))) (i40_4 + 1) (loop_inc (Int32.not_le.mp c_43) hn_40) (⟨by rw [inc_lt (Int32.not_le.mp c_43)]; omega, by rw [inc_lt (Int32.not_le.mp c_43)]; have := i_nle c_43; omega, hb1.eq hbs2.1 ▸ hnx⟩)
          exact L_40 _ (nb + 2) 0 (Nat.le_refl _) (⟨by decide, x0, by rw [show (nc.toInt - (0 : Int32).toInt).toNat = nc.toInt.toNat by have : (0 : Int32).toInt = 0 := rfl; omega]; exact hit⟩)
        · have c_25 : ¬ (0 ≤ x2) := of_decide_eq_false c_25
          refine ml_st (S' := (29, [], [.int (-1)], M11)) rfl rfl rfl ?_
          exact ml_ret rfl (rfl) (⟨_, _, _, rfl, hR13, (eqI.rf.put f15 (by decide)), eqR.rf⟩)
set_option maxHeartbeats 2000000 in
theorem rm_isMethodX {g : xe_G}  {m0 : Nat} {q : Nat → Nat} {z : Nat × Nat} {I : rI} {R : rR} {M : mi_H} {x1 : Int32} {S cN : Nat} {sa sl ch : Nat → Int32}  (hR : RS g m0 q z I R M) (hY : SK S cN sa sl ch I R) (hs0 : 0 ≤ x1.toInt) (hs1 : x1.toInt < S) {d : Nat} (hd : 5 ≤ d) : mt (mT g) d 218 [.ref m0, .int x1] M (fun v M' => (∃ x : Int32, v = some (.int x) ∧ (x = 0 ∨ x = 1) ∧ (x = 0 ∨ MTX sa sl ch x1 ∧ AGX (tx sa ch x1) (sL sl x1) 1)) ∧ M' = M) := by
  obtain ⟨d, rfl⟩ : ∃ e, d = e + 1 := ⟨d - 1, by omega⟩
  refine mt_in (b := mb_218 g) rfl rfl ?_
  show ml (mT g) d (mb_218 g).2 (0, [(0, .ref m0), (1, .int x1)], [], M) _
  have hsl := hY.s hs0 hs1
  have hsl0 : 0 ≤ (sL sl x1).toInt := hsl.2.2.2.1
  have hsl1 : (sL sl x1).toInt ≤ 66000 := by have h1 := hsl.2.2.1; have h2 := hsl.2.2.2.2.1; have h3 := hsl.2.2.2.2.2.1; show (sl _).toInt ≤ 66000; omega
  refine ml_blk 2 (S' := (2, [(0, .ref m0), (1, .int x1)], [.int x1, .ref m0], M)) rfl ?_
  refine ml_call (a := [.ref m0, .int x1]) (rest := []) rfl (hR.okc rfl rfl rfl) rfl rfl (rm_length hR hY (hs0) (hs1) (by omega)) (fun v11 M12 h13 => ?_)
  obtain ⟨rfl, h13⟩ := h13
  rw [h13]
  show ml _ _ _ (5, [(0, .ref m0), (1, .int x1)], [.int (sL sl x1)], M) _
  refine ml_st (S' := (6, [(2, .int (sL sl x1)), (0, .ref m0), (1, .int x1)], [], M)) rfl rfl rfl ?_
  refine ml_st (S' := (7, [(2, .int (sL sl x1)), (0, .ref m0), (1, .int x1)], [.int (sL sl x1)], M)) rfl rfl rfl ?_
  refine ml_if (S1 := (21, [], [], M)) (S2 := (10, [(2, .int (sL sl x1)), (0, .ref m0), (1, .int x1)], [], M)) rfl rfl rfl (fun c_7 => ?_) (fun c_7 => ?_)
  · have c_7 : (sL sl x1) = 0 := of_decide_eq_true c_7
    refine ml_st (S' := (22, [], [.int 0], M)) rfl rfl rfl ?_
    exact ml_ret rfl (r_z (Or.inl rfl)) (⟨⟨_, rfl, Or.inl rfl, Or.inl rfl⟩, rfl⟩)
  · have c_7 : ¬ ((sL sl x1) = 0) := of_decide_eq_false c_7
    refine ml_blk 3 (S' := (13, [(2, .int (sL sl x1)), (0, .ref m0), (1, .int x1)], [.int 0, .int x1, .ref m0], M)) rfl ?_
    refine ml_call (a := [.ref m0, .int x1, .int 0]) (rest := []) rfl (hR.okc rfl rfl rfl) rfl rfl (rm_at hR hY (hs0) (hs1) (by decide) (by have h7 : (sL sl x1).toInt ≠ 0 := (fun e => c_7 (Int32.toInt_inj.mp e)); have : (0 : Int32).toInt = 0 := rfl; omega) (by omega)) (fun v14 M15 h16 => ?_)
    obtain ⟨rfl, h16⟩ := h16
    rw [h16]
    show ml _ _ _ (16, [(2, .int (sL sl x1)), (0, .ref m0), (1, .int x1)], [.int (tx sa ch x1 0)], M) _
    refine ml_st (S' := (18, [(2, .int (sL sl x1)), (0, .ref m0), (1, .int x1)], [.int 40, .int (tx sa ch x1 0)], M)) rfl rfl rfl ?_
    refine ml_if2 (S1 := (23, [(2, .int (sL sl x1)), (0, .ref m0), (1, .int x1)], [], M)) (S2 := (21, [], [], M)) rfl rfl rfl (fun c_18 => ?_) (fun c_18 => ?_)
    · have c_18 : (tx sa ch x1 0) = 40 := of_decide_eq_true c_18
      refine ml_st (S' := (24, [(2, .int (sL sl x1)), (0, .ref m0), (1, .int x1)], [.int 1], M)) rfl rfl rfl ?_
      refine ml_st (S' := (25, [(0, .ref m0), (1, .int x1), (2, .int (sL sl x1)), (3, .int 1)], [], M)) rfl rfl rfl ?_
      have L_25 : ∀ (n_25 : Nat) (i25_3 : Int32), (2147483648 - i25_3.toInt).toNat ≤ n_25 → (1 ≤ i25_3.toInt ∧ i25_3.toInt ≤ (sL sl x1).toInt ∧ ∃ m, itr (AG1 (tx sa ch x1) (sL sl x1)) m 1 i25_3) → ml (mT g) d (mb_218 g).2 (25, [(0, .ref m0), (1, .int x1), (2, .int (sL sl x1)), (3, .int i25_3)], [], M) (fun v M' => (∃ x : Int32, v = some (.int x) ∧ (x = 0 ∨ x = 1) ∧ (x = 0 ∨ MTX sa sl ch x1 ∧ AGX (tx sa ch x1) (sL sl x1) 1)) ∧ M' = M) := by
        intro n_25
        induction n_25 with
        | zero => intro i25_3 hn; exact (loop_zero hn).elim
        | succ n_25 ih_25 =>
          intro i25_3 hn_25 hi_25
          obtain ⟨hk1, hkn, m9, hit⟩ := hi_25
          refine ml_blk 2 (S' := (27, [(0, .ref m0), (1, .int x1), (2, .int (sL sl x1)), (3, .int i25_3)], [.int (sL sl x1), .int i25_3], M)) rfl ?_
          have J_54 : ((sL sl x1) ≤ i25_3 ∨ (tx sa ch x1) i25_3 = 41) → ml (mT g) d (mb_218 g).2 (54, [(0, .ref m0), (1, .int x1), (2, .int (sL sl x1)), (3, .int i25_3)], [], M) (fun v M' => (∃ x : Int32, v = some (.int x) ∧ (x = 0 ∨ x = 1) ∧ (x = 0 ∨ MTX sa sl ch x1 ∧ AGX (tx sa ch x1) (sL sl x1) 1)) ∧ M' = M) := by
            intro hj_54
            refine ml_blk 2 (S' := (56, [(0, .ref m0), (1, .int x1), (2, .int (sL sl x1)), (3, .int i25_3)], [.int (sL sl x1), .int i25_3], M)) rfl ?_
            refine ml_if2 (S1 := (61, [(0, .ref m0), (1, .int x1), (2, .int (sL sl x1)), (3, .int i25_3)], [], M)) (S2 := (59, [(0, .ref m0), (1, .int x1), (2, .int (sL sl x1)), (3, .int i25_3)], [], M)) rfl rfl rfl (fun c_56 => ?_) (fun c_56 => ?_)
            · have c_56 : i25_3 < (sL sl x1) := of_decide_eq_true c_56
              have hk54 := hj_54.resolve_left (Int32.not_le.mpr c_56)
              have hlt := i_lt c_56
              have hk2 : (i25_3 + 1).toInt = i25_3.toInt + 1 := inc_lt c_56
              have hagw : AGW (tx sa ch x1) (sL sl x1) 1 := ⟨m9, i25_3, hit, by omega, hlt, hk54⟩
              refine ml_st (S' := (64, [(3, .int (i25_3 + 1)), (0, .ref m0), (1, .int x1), (2, .int (sL sl x1))], [], M)) rfl rfl rfl ?_
              refine ml_blk 3 (S' := (67, [(3, .int (i25_3 + 1)), (0, .ref m0), (1, .int x1), (2, .int (sL sl x1))], [.int ((i25_3 + 1) + 1)], M)) rfl ?_
              refine ml_st (S' := (68, [(3, .int (i25_3 + 1)), (0, .ref m0), (1, .int x1), (2, .int (sL sl x1))], [.int (sL sl x1), .int ((i25_3 + 1) + 1)], M)) rfl rfl rfl ?_
              have J_94 : (3 ≤ (sL sl x1).toInt ∧ (i25_3 + 1).toInt < (sL sl x1).toInt) → ml (mT g) d (mb_218 g).2 (94, [(0, .ref m0), (1, .int x1)], [], M) (fun v M' => (∃ x : Int32, v = some (.int x) ∧ (x = 0 ∨ x = 1) ∧ (x = 0 ∨ MTX sa sl ch x1 ∧ AGX (tx sa ch x1) (sL sl x1) 1)) ∧ M' = M) := by
                intro hj_94
                refine ml_blk 2 (S' := (96, [(0, .ref m0), (1, .int x1)], [.int x1, .ref m0], M)) rfl ?_
                refine ml_call (a := [.ref m0, .int x1]) (rest := []) rfl (hR.okc rfl rfl rfl) rfl rfl (rm_places0 hR hY (hs0) (hs1) (hagw) (by omega)) (fun v17 M18 h19 => ?_)
                obtain ⟨⟨u20, rfl⟩, h19⟩ := h19
                rw [h19]
                show ml _ _ _ (99, [(0, .ref m0), (1, .int x1)], [.int u20], M) _
                refine ml_st (S' := (102, [(0, .ref m0), (1, .int x1)], [.int 255, .int u20], M)) rfl rfl rfl ?_
                refine ml_if2 (S1 := (109, [(0, .ref m0), (1, .int x1)], [], M)) (S2 := (105, [(0, .ref m0), (1, .int x1)], [], M)) rfl rfl rfl (fun c_102 => ?_) (fun c_102 => ?_)
                · have c_102 : 255 < u20 := of_decide_eq_true c_102
                  refine ml_st (S' := (110, [], [.int 0], M)) rfl rfl rfl ?_
                  exact ml_ret rfl (r_z (Or.inl rfl)) (⟨⟨_, rfl, Or.inl rfl, Or.inl rfl⟩, rfl⟩)
                · have c_102 : ¬ (255 < u20) := of_decide_eq_false c_102
                  refine ml_st (S' := (106, [(0, .ref m0), (1, .int x1)], [.int 1], M)) rfl rfl rfl ?_
                  refine ml_st (S' := (110, [], [.int 1], M)) rfl rfl rfl ?_
                  exact ml_ret rfl (r_z (Or.inr rfl)) (⟨⟨_, rfl, Or.inr rfl, Or.inr ⟨⟨hagw, hj_94.1⟩, m9, i25_3, hit, by omega, by have := hj_94.2; omega, hk54⟩⟩, rfl⟩)
              refine ml_if2 (S1 := (82, [(0, .ref m0), (1, .int x1), (2, .int (sL sl x1)), (3, .int (i25_3 + 1))], [], M)) (S2 := (71, [(3, .int (i25_3 + 1)), (0, .ref m0), (1, .int x1), (2, .int (sL sl x1))], [], M)) rfl rfl rfl (fun c_68 => ?_) (fun c_68 => ?_)
              · have c_68 : ¬ ((i25_3 + 1) + 1) = (sL sl x1) := of_decide_eq_true c_68
                refine ml_blk 3 (S' := (85, [(0, .ref m0), (1, .int x1), (2, .int (sL sl x1)), (3, .int (i25_3 + 1))], [.int (i25_3 + 1), .int x1, .ref m0], M)) rfl ?_
                refine ml_call (a := [.ref m0, .int x1, .int (i25_3 + 1)]) (rest := []) rfl (hR.okc rfl rfl rfl) rfl rfl (rm_fieldText hR hY (hs0) (hs1) (by omega) (by omega) (by omega)) (fun v21 M22 h23 => ?_)
                obtain ⟨rfl, h23⟩ := h23
                rw [h23]
                show ml _ _ _ (88, [(0, .ref m0), (1, .int x1), (2, .int (sL sl x1)), (3, .int (i25_3 + 1))], [.int (FTx (tx sa ch x1) (sL sl x1) (i25_3 + 1))], M) _
                refine ml_st (S' := (89, [(0, .ref m0), (1, .int x1), (2, .int (sL sl x1)), (3, .int (i25_3 + 1))], [.int (sL sl x1), .int (FTx (tx sa ch x1) (sL sl x1) (i25_3 + 1))], M)) rfl rfl rfl ?_
                refine ml_if2 (S1 := (94, [(0, .ref m0), (1, .int x1)], [], M)) (S2 := (92, [(0, .ref m0), (1, .int x1), (2, .int (sL sl x1)), (3, .int (i25_3 + 1))], [], M)) rfl rfl rfl (fun c_89 => ?_) (fun c_89 => ?_)
                · have c_89 : (FTx (tx sa ch x1) (sL sl x1) (i25_3 + 1)) = (sL sl x1) := of_decide_eq_true c_89
                  exact J_94  ((by have q := FTx_b (c := (tx sa ch x1)) (n := (sL sl x1)) (a := i25_3 + 1) (by omega) (by omega) (by omega); have e : FTx (tx sa ch x1) (sL sl x1) (i25_3 + 1) = (sL sl x1) := c_89; rw [e] at q; rcases q with q | q; (rw [q] at hsl0; exact absurd hsl0 (by decide)); omega))
                · have c_89 : ¬ ((FTx (tx sa ch x1) (sL sl x1) (i25_3 + 1)) = (sL sl x1)) := of_decide_eq_false c_89
                  refine ml_st (S' := (93, [(0, .ref m0), (1, .int x1), (2, .int (sL sl x1)), (3, .int (i25_3 + 1))], [.int 0], M)) rfl rfl rfl ?_
                  exact ml_ret rfl (r_z (Or.inl rfl)) (⟨⟨_, rfl, Or.inl rfl, Or.inl rfl⟩, rfl⟩)
              · have c_68 : ¬ (¬ ((i25_3 + 1) + 1) = (sL sl x1)) := of_decide_eq_false c_68
                refine ml_blk 3 (S' := (74, [(3, .int (i25_3 + 1)), (0, .ref m0), (1, .int x1), (2, .int (sL sl x1))], [.int (i25_3 + 1), .int x1, .ref m0], M)) rfl ?_
                refine ml_call (a := [.ref m0, .int x1, .int (i25_3 + 1)]) (rest := []) rfl (hR.okc rfl rfl rfl) rfl rfl (rm_at hR hY (hs0) (hs1) (by omega) (by have e : (i25_3 + 1 + 1).toInt = (sL sl x1).toInt := congrArg Int32.toInt (Decidable.not_not.mp c_68); rw [i_add (by have : (1 : Int32).toInt = 1 := rfl; omega) (by have : (1 : Int32).toInt = 1 := rfl; omega), hk2] at e; have : (1 : Int32).toInt = 1 := rfl; omega) (by omega)) (fun v24 M25 h26 => ?_)
                obtain ⟨rfl, h26⟩ := h26
                rw [h26]
                show ml _ _ _ (77, [(3, .int (i25_3 + 1)), (0, .ref m0), (1, .int x1), (2, .int (sL sl x1))], [.int (tx sa ch x1 (i25_3 + 1))], M) _
                refine ml_st (S' := (79, [(3, .int (i25_3 + 1)), (0, .ref m0), (1, .int x1), (2, .int (sL sl x1))], [.int 86, .int (tx sa ch x1 (i25_3 + 1))], M)) rfl rfl rfl ?_
                refine ml_if2 (S1 := (94, [(0, .ref m0), (1, .int x1)], [], M)) (S2 := (82, [(0, .ref m0), (1, .int x1), (2, .int (sL sl x1)), (3, .int (i25_3 + 1))], [], M)) rfl rfl rfl (fun c_79 => ?_) (fun c_79 => ?_)
                · have c_79 : (tx sa ch x1 (i25_3 + 1)) = 86 := of_decide_eq_true c_79
                  exact J_94  ((by have e : (i25_3 + 1 + 1).toInt = (sL sl x1).toInt := congrArg Int32.toInt (Decidable.not_not.mp c_68); rw [i_add (by have : (1 : Int32).toInt = 1 := rfl; omega) (by have : (1 : Int32).toInt = 1 := rfl; omega), hk2] at e; have : (1 : Int32).toInt = 1 := rfl; omega))
                · have c_79 : ¬ ((tx sa ch x1 (i25_3 + 1)) = 86) := of_decide_eq_false c_79
                  refine ml_blk 3 (S' := (85, [(0, .ref m0), (1, .int x1), (2, .int (sL sl x1)), (3, .int (i25_3 + 1))], [.int (i25_3 + 1), .int x1, .ref m0], M)) rfl ?_
                  refine ml_call (a := [.ref m0, .int x1, .int (i25_3 + 1)]) (rest := []) rfl (hR.okc rfl rfl rfl) rfl rfl (rm_fieldText hR hY (hs0) (hs1) (by omega) (by omega) (by omega)) (fun v27 M28 h29 => ?_)
                  obtain ⟨rfl, h29⟩ := h29
                  rw [h29]
                  show ml _ _ _ (88, [(0, .ref m0), (1, .int x1), (2, .int (sL sl x1)), (3, .int (i25_3 + 1))], [.int (FTx (tx sa ch x1) (sL sl x1) (i25_3 + 1))], M) _
                  refine ml_st (S' := (89, [(0, .ref m0), (1, .int x1), (2, .int (sL sl x1)), (3, .int (i25_3 + 1))], [.int (sL sl x1), .int (FTx (tx sa ch x1) (sL sl x1) (i25_3 + 1))], M)) rfl rfl rfl ?_
                  refine ml_if2 (S1 := (94, [(0, .ref m0), (1, .int x1)], [], M)) (S2 := (92, [(0, .ref m0), (1, .int x1), (2, .int (sL sl x1)), (3, .int (i25_3 + 1))], [], M)) rfl rfl rfl (fun c_89 => ?_) (fun c_89 => ?_)
                  · have c_89 : (FTx (tx sa ch x1) (sL sl x1) (i25_3 + 1)) = (sL sl x1) := of_decide_eq_true c_89
                    exact J_94  ((by have q := FTx_b (c := (tx sa ch x1)) (n := (sL sl x1)) (a := i25_3 + 1) (by omega) (by omega) (by omega); have e : FTx (tx sa ch x1) (sL sl x1) (i25_3 + 1) = (sL sl x1) := c_89; rw [e] at q; rcases q with q | q; (rw [q] at hsl0; exact absurd hsl0 (by decide)); omega))
                  · have c_89 : ¬ ((FTx (tx sa ch x1) (sL sl x1) (i25_3 + 1)) = (sL sl x1)) := of_decide_eq_false c_89
                    refine ml_st (S' := (93, [(0, .ref m0), (1, .int x1), (2, .int (sL sl x1)), (3, .int (i25_3 + 1))], [.int 0], M)) rfl rfl rfl ?_
                    exact ml_ret rfl (r_z (Or.inl rfl)) (⟨⟨_, rfl, Or.inl rfl, Or.inl rfl⟩, rfl⟩)
            · have c_56 : ¬ (i25_3 < (sL sl x1)) := of_decide_eq_false c_56
              refine ml_st (S' := (60, [(0, .ref m0), (1, .int x1), (2, .int (sL sl x1)), (3, .int i25_3)], [.int 0], M)) rfl rfl rfl ?_
              exact ml_ret rfl (r_z (Or.inl rfl)) (⟨⟨_, rfl, Or.inl rfl, Or.inl rfl⟩, rfl⟩)
          refine ml_if2 (S1 := (54, [(0, .ref m0), (1, .int x1), (2, .int (sL sl x1)), (3, .int i25_3)], [], M)) (S2 := (30, [(0, .ref m0), (1, .int x1), (2, .int (sL sl x1)), (3, .int i25_3)], [], M)) rfl rfl rfl (fun c_27 => ?_) (fun c_27 => ?_)
          · have c_27 : (sL sl x1) ≤ i25_3 := of_decide_eq_true c_27
            exact J_54  (Or.inl c_27)
          · have c_27 : ¬ ((sL sl x1) ≤ i25_3) := of_decide_eq_false c_27
            refine ml_blk 3 (S' := (33, [(0, .ref m0), (1, .int x1), (2, .int (sL sl x1)), (3, .int i25_3)], [.int i25_3, .int x1, .ref m0], M)) rfl ?_
            refine ml_call (a := [.ref m0, .int x1, .int i25_3]) (rest := []) rfl (hR.okc rfl rfl rfl) rfl rfl (rm_at hR hY (hs0) (hs1) (by omega) (i_nle c_27) (by omega)) (fun v30 M31 h32 => ?_)
            obtain ⟨rfl, h32⟩ := h32
            rw [h32]
            show ml _ _ _ (36, [(0, .ref m0), (1, .int x1), (2, .int (sL sl x1)), (3, .int i25_3)], [.int (tx sa ch x1 i25_3)], M) _
            refine ml_st (S' := (38, [(0, .ref m0), (1, .int x1), (2, .int (sL sl x1)), (3, .int i25_3)], [.int 41, .int (tx sa ch x1 i25_3)], M)) rfl rfl rfl ?_
            refine ml_if2 (S1 := (54, [(0, .ref m0), (1, .int x1), (2, .int (sL sl x1)), (3, .int i25_3)], [], M)) (S2 := (41, [(0, .ref m0), (1, .int x1), (2, .int (sL sl x1)), (3, .int i25_3)], [], M)) rfl rfl rfl (fun c_38 => ?_) (fun c_38 => ?_)
            · have c_38 : (tx sa ch x1 i25_3) = 41 := of_decide_eq_true c_38
              exact J_54  (Or.inr c_38)
            · have c_38 : ¬ ((tx sa ch x1 i25_3) = 41) := of_decide_eq_false c_38
              refine ml_blk 3 (S' := (44, [(0, .ref m0), (1, .int x1), (2, .int (sL sl x1)), (3, .int i25_3)], [.int i25_3, .int x1, .ref m0], M)) rfl ?_
              refine ml_call (a := [.ref m0, .int x1, .int i25_3]) (rest := []) rfl (hR.okc rfl rfl rfl) rfl rfl (rm_fieldText hR hY (hs0) (hs1) (by omega) (hkn) (by omega)) (fun v33 M34 h35 => ?_)
              obtain ⟨rfl, h35⟩ := h35
              rw [h35]
              show ml _ _ _ (47, [(0, .ref m0), (1, .int x1), (2, .int (sL sl x1)), (3, .int i25_3)], [.int (FTx (tx sa ch x1) (sL sl x1) i25_3)], M) _
              refine ml_st (S' := (48, [(3, .int (FTx (tx sa ch x1) (sL sl x1) i25_3)), (0, .ref m0), (1, .int x1), (2, .int (sL sl x1))], [], M)) rfl rfl rfl ?_
              refine ml_st (S' := (49, [(3, .int (FTx (tx sa ch x1) (sL sl x1) i25_3)), (0, .ref m0), (1, .int x1), (2, .int (sL sl x1))], [.int (FTx (tx sa ch x1) (sL sl x1) i25_3)], M)) rfl rfl rfl ?_
              refine ml_if (S1 := (25, [(0, .ref m0), (1, .int x1), (2, .int (sL sl x1)), (3, .int (FTx (tx sa ch x1) (sL sl x1) i25_3))], [], M)) (S2 := (52, [(3, .int (FTx (tx sa ch x1) (sL sl x1) i25_3)), (0, .ref m0), (1, .int x1), (2, .int (sL sl x1))], [], M)) rfl rfl rfl (fun c_49 => ?_) (fun c_49 => ?_)
              · have c_49 : 0 ≤ (FTx (tx sa ch x1) (sL sl x1) i25_3) := of_decide_eq_true c_49
                have hft := (FTx_b (c := (tx sa ch x1)) (n := (sL sl x1)) (a := i25_3) (by omega) hkn (by omega)).resolve_left (fun e => absurd (e ▸ c_49 : (0 : Int32) ≤ -1) (by decide))
                exact ih_25 (FTx (tx sa ch x1) (sL sl x1) i25_3) (by have := hft.1; omega) (⟨by omega, hft.2, m9 + 1, i25_3, hit, by omega, i_nle c_27, c_38, rfl, hft.1, hft.2⟩)
              · have c_49 : ¬ (0 ≤ (FTx (tx sa ch x1) (sL sl x1) i25_3)) := of_decide_eq_false c_49
                refine ml_st (S' := (53, [(3, .int (FTx (tx sa ch x1) (sL sl x1) i25_3)), (0, .ref m0), (1, .int x1), (2, .int (sL sl x1))], [.int 0], M)) rfl rfl rfl ?_
                exact ml_ret rfl (r_z (Or.inl rfl)) (⟨⟨_, rfl, Or.inl rfl, Or.inl rfl⟩, rfl⟩)
      exact L_25 _ 1 (Nat.le_refl _) (⟨by decide, by have h7 : (sL sl x1).toInt ≠ 0 := (fun e => c_7 (Int32.toInt_inj.mp e)); show (1 : Int) ≤ _; omega, 0, rfl⟩)
    · have c_18 : ¬ ((tx sa ch x1 0) = 40) := of_decide_eq_false c_18
      refine ml_st (S' := (22, [], [.int 0], M)) rfl rfl rfl ?_
      exact ml_ret rfl (r_z (Or.inl rfl)) (⟨⟨_, rfl, Or.inl rfl, Or.inl rfl⟩, rfl⟩)
