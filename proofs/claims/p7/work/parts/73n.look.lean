set_option maxHeartbeats 2000000 in
theorem rm_bits {g : xe_G}  {m0 : Nat} {q : Nat → Nat} {z : Nat × Nat} {I : rI} {R : rR} {M : mi_H} {x1 kn : Int32} {n : Nat} {f : Nat → Int32}  (hR : RS g m0 q z I R M) (hk18 : I 18 = some kn) (hG : (kn < 0 ∨ GD n f I R)) {d : Nat} (hd : 4 ≤ d) : mt (mT g) d 183 [.ref m0, .int x1] M (fun v M' => ∃ (x : Int64) (I' : rI) (R' : rR), v = some (.long x) ∧ RS g m0 q z I' R' M' ∧ eqI [0] I I' ∧ eqR [] R R') := by
  obtain ⟨d, rfl⟩ : ∃ e, d = e + 1 := ⟨d - 1, by omega⟩
  refine mt_in (b := mb_183 g) rfl rfl ?_
  show ml (mT g) d (mb_183 g).2 (0, [(0, .ref m0), (1, .int x1)], [], M) _
  refine ml_blk 2 (S' := (2, [(0, .ref m0), (1, .int x1)], [.int 0, .ref m0], M)) rfl ?_
  refine rp_int rfl hR rfl (fun M11 I12 hR13 e14 f15 => ?_)
  show ml _ _ _ (5, [(0, .ref m0), (1, .int x1)], [], M11) _
  refine ml_st (S' := (6, [(0, .ref m0), (1, .int x1)], [.ref m0], M11)) rfl rfl rfl ?_
  refine rg_int (S' := (9, [(0, .ref m0), (1, .int x1)], [.int kn], M11)) rfl hR13 rfl ((f15 18 (by decide)).trans (hk18)) rfl ?_
  refine ml_if (S1 := (14, [(0, .ref m0), (1, .int x1)], [], M11)) (S2 := (12, [(0, .ref m0), (1, .int x1)], [], M11)) rfl rfl rfl (fun c_9 => ?_) (fun c_9 => ?_)
  · have c_9 : 0 ≤ kn := of_decide_eq_true c_9
    obtain ⟨S, cN, sa, sl, ch, cp, mj, pa, py, hA, fA, mA, aA, nf, ni, kf, km, hF0, hY0, hP0, hE0, hFO, kq54, kq58, kq61, hkf, kq25, hfk, hkm, kq26, hmk, hNW⟩ := hG.resolve_left (Int32.not_lt.mpr c_9)
    have hn := hF0.1
    refine ml_blk 2 (S' := (16, [(0, .ref m0), (1, .int x1)], [.int x1, .ref m0], M11)) rfl ?_
    have hF16 : FK n f I12 R := (hF0.mono (pIx f15 (by decide)) (fun _ _ => rfl))
    have hP17 : PK n f S cp mj pa py I12 R := (hP0.mono (pIx f15 (by decide)) (fun _ _ => rfl))
    refine ml_call (a := [.ref m0, .int x1]) (rest := []) rfl (hR13.okc rfl rfl rfl) rfl rfl (rm_tag hR13 hF16 hP17 (by omega)) (fun v18 M19 h20 => ?_)
    obtain ⟨rfl, h20⟩ := h20
    rw [h20]
    show ml _ _ _ (19, [(0, .ref m0), (1, .int x1)], [.int (tgf f cp pa x1)], M11) _
    refine ml_st (S' := (20, [(2, .int (tgf f cp pa x1)), (0, .ref m0), (1, .int x1)], [], M11)) rfl rfl rfl ?_
    refine ml_blk 2 (S' := (22, [(2, .int (tgf f cp pa x1)), (0, .ref m0), (1, .int x1)], [.int 3, .int (tgf f cp pa x1)], M11)) rfl ?_
    have J_30 : (tgf f cp pa x1 = 3 ∨ tgf f cp pa x1 = 4) → ml (mT g) d (mb_183 g).2 (30, [(0, .ref m0), (1, .int x1)], [], M11) (fun v M' => ∃ (x : Int64) (I' : rI) (R' : rR), v = some (.long x) ∧ RS g m0 q z I' R' M' ∧ eqI [0] I I' ∧ eqR [] R R') := by
      intro hj_30
      have h3 := hP0.tg (rfl : tgf f cp pa x1 = _) (fun e => by rcases hj_30 with h | h <;> rw [h] at e <;> exact absurd e (by decide))
      have q3 : (pa (Int32.toNatClampNeg x1)).toInt + 5 ≤ n := by have q := h3.2.2.2.2; rcases hj_30 with h | h <;> rw [h] at q <;> exact q
      have e1 : ((pa (Int32.toNatClampNeg x1)) + 1).toInt = (pa (Int32.toNatClampNeg x1)).toInt + 1 := i_add (by have : (1 : Int32).toInt = 1 := rfl; omega) (by have : (1 : Int32).toInt = 1 := rfl; omega)
      refine ml_blk 2 (S' := (32, [(0, .ref m0), (1, .int x1)], [.ref m0, .ref m0], M11)) rfl ?_
      refine rg_ref (S' := (35, [(0, .ref m0), (1, .int x1)], [.ref (q 21), .ref m0], M11)) rfl hR13 rfl rfl ?_
      refine ml_st (S' := (36, [(0, .ref m0), (1, .int x1)], [.int x1, .ref (q 21), .ref m0], M11)) rfl rfl rfl ?_
      refine ra_ld (k := 21) (S' := (37, [(0, .ref m0), (1, .int x1)], [.int (pa (Int32.toNatClampNeg x1)), .ref m0], M11)) rfl hR13 rfl (by have q := (hP0.e h3.1 h3.2.1).2.1; rwa [Int32.zero_add] at q) (by have q := (hP0.e h3.1 h3.2.1).1; rwa [Int32.zero_add] at q) rfl ?_
      refine ml_blk 2 (S' := (39, [(0, .ref m0), (1, .int x1)], [.int ((pa (Int32.toNatClampNeg x1)) + 1), .ref m0], M11)) rfl ?_
      refine ml_call (a := [.ref m0, .int ((pa (Int32.toNatClampNeg x1)) + 1)]) (rest := []) rfl (hR13.okc rfl rfl rfl) rfl rfl (rm_u4 hR13 hF16 (by omega) (by omega) (by omega)) (fun v21 M22 h23 => ?_)
      obtain ⟨rfl, h23⟩ := h23
      rw [h23]
      show ml _ _ _ (42, [(0, .ref m0), (1, .int x1)], [.long (f4 f ((pa (Int32.toNatClampNeg x1)) + 1))], M11) _
      refine ml_blk 2 (S' := (44, [(0, .ref m0), (1, .int x1)], [.long (Int32.toInt64 (Int64.toInt32 (f4 f ((pa (Int32.toNatClampNeg x1)) + 1))))], M11)) rfl ?_
      exact ml_ret rfl (rfl) (⟨_, _, _, rfl, hR13, (eqI.rf.put f15 (by decide)), eqR.rf⟩)
    refine ml_if2 (S1 := (30, [(0, .ref m0), (1, .int x1)], [], M11)) (S2 := (25, [(2, .int (tgf f cp pa x1)), (0, .ref m0), (1, .int x1)], [], M11)) rfl rfl rfl (fun c_22 => ?_) (fun c_22 => ?_)
    · have c_22 : (tgf f cp pa x1) = 3 := of_decide_eq_true c_22
      exact J_30  (Or.inl c_22)
    · have c_22 : ¬ ((tgf f cp pa x1) = 3) := of_decide_eq_false c_22
      refine ml_blk 2 (S' := (27, [(2, .int (tgf f cp pa x1)), (0, .ref m0), (1, .int x1)], [.int 4, .int (tgf f cp pa x1)], M11)) rfl ?_
      refine ml_if2 (S1 := (45, [(2, .int (tgf f cp pa x1)), (0, .ref m0), (1, .int x1)], [], M11)) (S2 := (30, [(0, .ref m0), (1, .int x1)], [], M11)) rfl rfl rfl (fun c_27 => ?_) (fun c_27 => ?_)
      · have c_27 : ¬ (tgf f cp pa x1) = 4 := of_decide_eq_true c_27
        refine ml_blk 2 (S' := (47, [(2, .int (tgf f cp pa x1)), (0, .ref m0), (1, .int x1)], [.int 5, .int (tgf f cp pa x1)], M11)) rfl ?_
        have J_56 : (tgf f cp pa x1 = 5 ∨ tgf f cp pa x1 = 6) → ml (mT g) d (mb_183 g).2 (56, [(0, .ref m0), (1, .int x1)], [], M11) (fun v M' => ∃ (x : Int64) (I' : rI) (R' : rR), v = some (.long x) ∧ RS g m0 q z I' R' M' ∧ eqI [0] I I' ∧ eqR [] R R') := by
          intro hj_56
          have h3 := hP0.tg (rfl : tgf f cp pa x1 = _) (fun e => by rcases hj_56 with h | h <;> rw [h] at e <;> exact absurd e (by decide))
          have q3 : (pa (Int32.toNatClampNeg x1)).toInt + 9 ≤ n := by have q := h3.2.2.2.2; rcases hj_56 with h | h <;> rw [h] at q <;> exact q
          have e1 : ((pa (Int32.toNatClampNeg x1)) + 1).toInt = (pa (Int32.toNatClampNeg x1)).toInt + 1 := i_add (by have : (1 : Int32).toInt = 1 := rfl; omega) (by have : (1 : Int32).toInt = 1 := rfl; omega)
          have e5 : ((pa (Int32.toNatClampNeg x1)) + 5).toInt = (pa (Int32.toNatClampNeg x1)).toInt + 5 := i_add (by have : (5 : Int32).toInt = 5 := rfl; omega) (by have : (5 : Int32).toInt = 5 := rfl; omega)
          refine ml_blk 2 (S' := (58, [(0, .ref m0), (1, .int x1)], [.ref m0, .ref m0], M11)) rfl ?_
          refine rg_ref (S' := (61, [(0, .ref m0), (1, .int x1)], [.ref (q 21), .ref m0], M11)) rfl hR13 rfl rfl ?_
          refine ml_st (S' := (62, [(0, .ref m0), (1, .int x1)], [.int x1, .ref (q 21), .ref m0], M11)) rfl rfl rfl ?_
          refine ra_ld (k := 21) (S' := (63, [(0, .ref m0), (1, .int x1)], [.int (pa (Int32.toNatClampNeg x1)), .ref m0], M11)) rfl hR13 rfl (by have q := (hP0.e h3.1 h3.2.1).2.1; rwa [Int32.zero_add] at q) (by have q := (hP0.e h3.1 h3.2.1).1; rwa [Int32.zero_add] at q) rfl ?_
          refine ml_blk 2 (S' := (65, [(0, .ref m0), (1, .int x1)], [.int ((pa (Int32.toNatClampNeg x1)) + 1), .ref m0], M11)) rfl ?_
          refine ml_call (a := [.ref m0, .int ((pa (Int32.toNatClampNeg x1)) + 1)]) (rest := []) rfl (hR13.okc rfl rfl rfl) rfl rfl (rm_u4 hR13 hF16 (by omega) (by omega) (by omega)) (fun v24 M25 h26 => ?_)
          obtain ⟨rfl, h26⟩ := h26
          rw [h26]
          show ml _ _ _ (68, [(0, .ref m0), (1, .int x1)], [.long (f4 f ((pa (Int32.toNatClampNeg x1)) + 1))], M11) _
          refine ml_blk 3 (S' := (72, [(0, .ref m0), (1, .int x1)], [.ref m0, .long ((f4 f ((pa (Int32.toNatClampNeg x1)) + 1)) <<< (Int32.toInt64 32 &&& 63))], M11)) rfl ?_
          refine ml_st (S' := (73, [(0, .ref m0), (1, .int x1)], [.ref m0, .ref m0, .long ((f4 f ((pa (Int32.toNatClampNeg x1)) + 1)) <<< (Int32.toInt64 32 &&& 63))], M11)) rfl rfl rfl ?_
          refine rg_ref (S' := (76, [(0, .ref m0), (1, .int x1)], [.ref (q 21), .ref m0, .long ((f4 f ((pa (Int32.toNatClampNeg x1)) + 1)) <<< (Int32.toInt64 32 &&& 63))], M11)) rfl hR13 rfl rfl ?_
          refine ml_st (S' := (77, [(0, .ref m0), (1, .int x1)], [.int x1, .ref (q 21), .ref m0, .long ((f4 f ((pa (Int32.toNatClampNeg x1)) + 1)) <<< (Int32.toInt64 32 &&& 63))], M11)) rfl rfl rfl ?_
          refine ra_ld (k := 21) (S' := (78, [(0, .ref m0), (1, .int x1)], [.int (pa (Int32.toNatClampNeg x1)), .ref m0, .long ((f4 f ((pa (Int32.toNatClampNeg x1)) + 1)) <<< (Int32.toInt64 32 &&& 63))], M11)) rfl hR13 rfl (by have q := (hP0.e h3.1 h3.2.1).2.1; rwa [Int32.zero_add] at q) (by have q := (hP0.e h3.1 h3.2.1).1; rwa [Int32.zero_add] at q) rfl ?_
          refine ml_blk 2 (S' := (80, [(0, .ref m0), (1, .int x1)], [.int ((pa (Int32.toNatClampNeg x1)) + 5), .ref m0, .long ((f4 f ((pa (Int32.toNatClampNeg x1)) + 1)) <<< (Int32.toInt64 32 &&& 63))], M11)) rfl ?_
          refine ml_call (a := [.ref m0, .int ((pa (Int32.toNatClampNeg x1)) + 5)]) (rest := [.long ((f4 f ((pa (Int32.toNatClampNeg x1)) + 1)) <<< (Int32.toInt64 32 &&& 63))]) rfl (hR13.okc rfl rfl rfl) rfl rfl (rm_u4 hR13 hF16 (by omega) (by omega) (by omega)) (fun v27 M28 h29 => ?_)
          obtain ⟨rfl, h29⟩ := h29
          rw [h29]
          show ml _ _ _ (83, [(0, .ref m0), (1, .int x1)], [.long (f4 f ((pa (Int32.toNatClampNeg x1)) + 5)), .long ((f4 f ((pa (Int32.toNatClampNeg x1)) + 1)) <<< (Int32.toInt64 32 &&& 63))], M11) _
          refine ml_st (S' := (84, [(0, .ref m0), (1, .int x1)], [.long (((f4 f ((pa (Int32.toNatClampNeg x1)) + 1)) <<< (Int32.toInt64 32 &&& 63)) ||| (f4 f ((pa (Int32.toNatClampNeg x1)) + 5)))], M11)) rfl rfl rfl ?_
          exact ml_ret rfl (rfl) (⟨_, _, _, rfl, hR13, (eqI.rf.put f15 (by decide)), eqR.rf⟩)
        refine ml_if2 (S1 := (56, [(0, .ref m0), (1, .int x1)], [], M11)) (S2 := (50, [(2, .int (tgf f cp pa x1)), (0, .ref m0), (1, .int x1)], [], M11)) rfl rfl rfl (fun c_47 => ?_) (fun c_47 => ?_)
        · have c_47 : (tgf f cp pa x1) = 5 := of_decide_eq_true c_47
          exact J_56  (Or.inl c_47)
        · have c_47 : ¬ ((tgf f cp pa x1) = 5) := of_decide_eq_false c_47
          refine ml_blk 2 (S' := (53, [(2, .int (tgf f cp pa x1)), (0, .ref m0), (1, .int x1)], [.int 6, .int (tgf f cp pa x1)], M11)) rfl ?_
          refine ml_if2 (S1 := (85, [(2, .int (tgf f cp pa x1)), (0, .ref m0), (1, .int x1)], [], M11)) (S2 := (56, [(0, .ref m0), (1, .int x1)], [], M11)) rfl rfl rfl (fun c_53 => ?_) (fun c_53 => ?_)
          · have c_53 : ¬ (tgf f cp pa x1) = 6 := of_decide_eq_true c_53
            refine ml_st (S' := (86, [(2, .int (tgf f cp pa x1)), (0, .ref m0), (1, .int x1)], [.long 0], M11)) rfl rfl rfl ?_
            exact ml_ret rfl (rfl) (⟨_, _, _, rfl, hR13, (eqI.rf.put f15 (by decide)), eqR.rf⟩)
          · have c_53 : ¬ (¬ (tgf f cp pa x1) = 6) := of_decide_eq_false c_53
            exact J_56  (Or.inr (Decidable.not_not.mp c_53))
      · have c_27 : ¬ (¬ (tgf f cp pa x1) = 4) := of_decide_eq_false c_27
        exact J_30  (Or.inr (Decidable.not_not.mp c_27))
  · have c_9 : ¬ (0 ≤ kn) := of_decide_eq_false c_9
    refine ml_st (S' := (13, [(0, .ref m0), (1, .int x1)], [.long 0], M11)) rfl rfl rfl ?_
    exact ml_ret rfl (rfl) (⟨_, _, _, rfl, hR13, (eqI.rf.put f15 (by decide)), eqR.rf⟩)
set_option maxHeartbeats 2000000 in
theorem rm_character {g : xe_G}  {m0 : Nat} {q : Nat → Nat} {z : Nat × Nat} {I : rI} {R : rR} {M : mi_H} {x1 x2 kn : Int32} {n : Nat} {f : Nat → Int32}  (hR : RS g m0 q z I R M) (hk18 : I 18 = some kn) (hG : (kn < 0 ∨ GD n f I R)) {d : Nat} (hd : 3 ≤ d) : mt (mT g) d 186 [.ref m0, .int x1, .int x2] M (fun v M' => ∃ (x : Int32) (I' : rI) (R' : rR), v = some (.int x) ∧ RS g m0 q z I' R' M' ∧ eqI [0] I I' ∧ eqR [] R R') := by
  obtain ⟨d, rfl⟩ : ∃ e, d = e + 1 := ⟨d - 1, by omega⟩
  refine mt_in (b := mb_186 g) rfl rfl ?_
  show ml (mT g) d (mb_186 g).2 (0, [(0, .ref m0), (1, .int x1), (2, .int x2)], [], M) _
  refine ml_blk 2 (S' := (2, [(0, .ref m0), (1, .int x1), (2, .int x2)], [.int 0, .ref m0], M)) rfl ?_
  refine rp_int rfl hR rfl (fun M11 I12 hR13 e14 f15 => ?_)
  show ml _ _ _ (5, [(0, .ref m0), (1, .int x1), (2, .int x2)], [], M11) _
  refine ml_st (S' := (6, [(0, .ref m0), (1, .int x1), (2, .int x2)], [.ref m0], M11)) rfl rfl rfl ?_
  refine rg_int (S' := (9, [(0, .ref m0), (1, .int x1), (2, .int x2)], [.int kn], M11)) rfl hR13 rfl ((f15 18 (by decide)).trans (hk18)) rfl ?_
  refine ml_if (S1 := (38, [], [], M11)) (S2 := (12, [(0, .ref m0), (1, .int x1), (2, .int x2)], [], M11)) rfl rfl rfl (fun c_9 => ?_) (fun c_9 => ?_)
  · have c_9 : kn < 0 := of_decide_eq_true c_9
    refine ml_st (S' := (39, [], [.int (-1)], M11)) rfl rfl rfl ?_
    refine ml_st (S' := (52, [], [.int (-1)], M11)) rfl rfl rfl ?_
    exact ml_ret rfl (rfl) (⟨_, _, _, rfl, hR13, (eqI.rf.put f15 (by decide)), eqR.rf⟩)
  · have c_9 : ¬ (kn < 0) := of_decide_eq_false c_9
    obtain ⟨S, cN, sa, sl, ch, cp, mj, pa, py, hA, fA, mA, aA, nf, ni, kf, km, hF0, hY0, hP0, hE0, hFO, kq54, kq58, kq61, hkf, kq25, hfk, hkm, kq26, hmk, hNW⟩ := hG.resolve_left (c_9)
    have hn := hF0.1
    refine ml_blk 2 (S' := (14, [(0, .ref m0), (1, .int x1), (2, .int x2)], [.int x1, .ref m0], M11)) rfl ?_
    have hF16 : FK n f I12 R := (hF0.mono (pIx f15 (by decide)) (fun _ _ => rfl))
    have hP17 : PK n f S cp mj pa py I12 R := (hP0.mono (pIx f15 (by decide)) (fun _ _ => rfl))
    refine ml_call (a := [.ref m0, .int x1]) (rest := []) rfl (hR13.okc rfl rfl rfl) rfl rfl (rm_tag hR13 hF16 hP17 (by omega)) (fun v18 M19 h20 => ?_)
    obtain ⟨rfl, h20⟩ := h20
    rw [h20]
    show ml _ _ _ (17, [(0, .ref m0), (1, .int x1), (2, .int x2)], [.int (tgf f cp pa x1)], M11) _
    refine ml_st (S' := (18, [(0, .ref m0), (1, .int x1), (2, .int x2)], [.int 1, .int (tgf f cp pa x1)], M11)) rfl rfl rfl ?_
    refine ml_if2 (S1 := (38, [], [], M11)) (S2 := (21, [(0, .ref m0), (1, .int x1), (2, .int x2)], [], M11)) rfl rfl rfl (fun c_18 => ?_) (fun c_18 => ?_)
    · have c_18 : ¬ (tgf f cp pa x1) = 1 := of_decide_eq_true c_18
      refine ml_st (S' := (39, [], [.int (-1)], M11)) rfl rfl rfl ?_
      refine ml_st (S' := (52, [], [.int (-1)], M11)) rfl rfl rfl ?_
      exact ml_ret rfl (rfl) (⟨_, _, _, rfl, hR13, (eqI.rf.put f15 (by decide)), eqR.rf⟩)
    · have c_18 : ¬ (¬ (tgf f cp pa x1) = 1) := of_decide_eq_false c_18
      refine ml_st (S' := (22, [(0, .ref m0), (1, .int x1), (2, .int x2)], [.int x2], M11)) rfl rfl rfl ?_
      refine ml_if (S1 := (38, [], [], M11)) (S2 := (25, [(0, .ref m0), (1, .int x1), (2, .int x2)], [], M11)) rfl rfl rfl (fun c_22 => ?_) (fun c_22 => ?_)
      · have c_22 : x2 < 0 := of_decide_eq_true c_22
        refine ml_st (S' := (39, [], [.int (-1)], M11)) rfl rfl rfl ?_
        refine ml_st (S' := (52, [], [.int (-1)], M11)) rfl rfl rfl ?_
        exact ml_ret rfl (rfl) (⟨_, _, _, rfl, hR13, (eqI.rf.put f15 (by decide)), eqR.rf⟩)
      · have c_22 : ¬ (x2 < 0) := of_decide_eq_false c_22
        refine ml_blk 3 (S' := (28, [(0, .ref m0), (1, .int x1), (2, .int x2)], [.ref m0, .ref m0, .int x2], M11)) rfl ?_
        refine ml_st (S' := (29, [(0, .ref m0), (1, .int x1), (2, .int x2)], [.int x1, .ref m0, .ref m0, .int x2], M11)) rfl rfl rfl ?_
        refine ml_call (a := [.ref m0, .int x1]) (rest := [.ref m0, .int x2]) rfl (hR13.okc rfl rfl rfl) rfl rfl (rm_symOf hR13 hP17 (Decidable.not_not.mp c_18) (by omega)) (fun v21 M22 h23 => ?_)
        obtain ⟨rfl, h23⟩ := h23
        rw [h23]
        show ml _ _ _ (32, [(0, .ref m0), (1, .int x1), (2, .int x2)], [.int (pyf py x1), .ref m0, .int x2], M11) _
        have hY24 : SK S cN sa sl ch I12 R := (hY0.mono (pIx f15 (by decide)) (fun _ _ => rfl))
        refine ml_call (a := [.ref m0, .int (pyf py x1)]) (rest := [.int x2]) rfl (hR13.okc rfl rfl rfl) rfl rfl (rm_length hR13 hY24 ((hP0.y (Decidable.not_not.mp c_18)).2.2.1) ((hP0.y (Decidable.not_not.mp c_18)).2.2.2) (by omega)) (fun v25 M26 h27 => ?_)
        obtain ⟨rfl, h27⟩ := h27
        rw [h27]
        show ml _ _ _ (35, [(0, .ref m0), (1, .int x1), (2, .int x2)], [.int (sL sl (pyf py x1)), .int x2], M11) _
        refine ml_if2 (S1 := (42, [(0, .ref m0), (1, .int x1), (2, .int x2)], [], M11)) (S2 := (38, [], [], M11)) rfl rfl rfl (fun c_35 => ?_) (fun c_35 => ?_)
        · have c_35 : x2 < (sL sl (pyf py x1)) := of_decide_eq_true c_35
          refine ml_blk 3 (S' := (45, [(0, .ref m0), (1, .int x1), (2, .int x2)], [.int x1, .ref m0, .ref m0], M11)) rfl ?_
          refine ml_call (a := [.ref m0, .int x1]) (rest := [.ref m0]) rfl (hR13.okc rfl rfl rfl) rfl rfl (rm_symOf hR13 hP17 (Decidable.not_not.mp c_18) (by omega)) (fun v28 M29 h30 => ?_)
          obtain ⟨rfl, h30⟩ := h30
          rw [h30]
          show ml _ _ _ (48, [(0, .ref m0), (1, .int x1), (2, .int x2)], [.int (pyf py x1), .ref m0], M11) _
          refine ml_st (S' := (49, [(0, .ref m0), (1, .int x1), (2, .int x2)], [.int x2, .int (pyf py x1), .ref m0], M11)) rfl rfl rfl ?_
          refine ml_call (a := [.ref m0, .int (pyf py x1), .int x2]) (rest := []) rfl (hR13.okc rfl rfl rfl) rfl rfl (rm_at hR13 hY24 ((hP0.y (Decidable.not_not.mp c_18)).2.2.1) ((hP0.y (Decidable.not_not.mp c_18)).2.2.2) (i_nlt c_22) (i_lt c_35) (by omega)) (fun v31 M32 h33 => ?_)
          obtain ⟨rfl, h33⟩ := h33
          rw [h33]
          show ml _ _ _ (52, [], [.int (tx sa ch (pyf py x1) x2)], M11) _
          exact ml_ret rfl (rfl) (⟨_, _, _, rfl, hR13, (eqI.rf.put f15 (by decide)), eqR.rf⟩)
        · have c_35 : ¬ (x2 < (sL sl (pyf py x1))) := of_decide_eq_false c_35
          refine ml_st (S' := (39, [], [.int (-1)], M11)) rfl rfl rfl ?_
          refine ml_st (S' := (52, [], [.int (-1)], M11)) rfl rfl rfl ?_
          exact ml_ret rfl (rfl) (⟨_, _, _, rfl, hR13, (eqI.rf.put f15 (by decide)), eqR.rf⟩)
set_option maxHeartbeats 2000000 in
theorem rm_member {g : xe_G}  {m0 : Nat} {q : Nat → Nat} {z : Nat × Nat} {I : rI} {R : rR} {M : mi_H} {x1 x2 x3 kn : Int32} {n : Nat} {f : Nat → Int32}  (hR : RS g m0 q z I R M) (hk18 : I 18 = some kn) (hG : (kn < 0 ∨ GD n f I R)) {d : Nat} (hd : 5 ≤ d) : mt (mT g) d 223 [.ref m0, .int x1, .int x2, .int x3] M (fun v M' => ∃ (x : Int32) (I' : rI) (R' : rR), v = some (.int x) ∧ RS g m0 q z I' R' M' ∧ eqI [0] I I' ∧ eqR [] R R') := by
  obtain ⟨d, rfl⟩ : ∃ e, d = e + 1 := ⟨d - 1, by omega⟩
  refine mt_in (b := mb_223 g) rfl rfl ?_
  show ml (mT g) d (mb_223 g).2 (0, [(0, .ref m0), (1, .int x1), (2, .int x2), (3, .int x3)], [], M) _
  refine ml_blk 2 (S' := (2, [(0, .ref m0), (1, .int x1), (2, .int x2), (3, .int x3)], [.int 0, .ref m0], M)) rfl ?_
  refine rp_int rfl hR rfl (fun M11 I12 hR13 e14 f15 => ?_)
  show ml _ _ _ (5, [(0, .ref m0), (1, .int x1), (2, .int x2), (3, .int x3)], [], M11) _
  refine ml_st (S' := (6, [(0, .ref m0), (1, .int x1), (2, .int x2), (3, .int x3)], [.int x3], M11)) rfl rfl rfl ?_
  refine ml_if (S1 := (15, [(0, .ref m0)], [], M11)) (S2 := (9, [(0, .ref m0), (1, .int x1), (2, .int x2), (3, .int x3)], [], M11)) rfl rfl rfl (fun c_6 => ?_) (fun c_6 => ?_)
  · have c_6 : x3 < 0 := of_decide_eq_true c_6
    refine ml_st (S' := (16, [(0, .ref m0)], [.ref m0], M11)) rfl rfl rfl ?_
    refine ml_call (a := [.ref m0]) (rest := []) rfl (hR13.okc rfl rfl rfl) rfl rfl (rm_bad hR13 (by omega)) (fun v16 M17 h18 => ?_)
    obtain ⟨u24, I19, R20, rfl, hR21, hI22, hV23, w25⟩ := h18
    show ml _ _ _ (19, [(0, .ref m0)], [.int u24], M17) _
    exact ml_ret rfl (rfl) (⟨_, _, _, rfl, hR21, ((eqI.rf.put f15 (by decide)).tr hI22 (by decide)), (eqR.rf.tr hV23 (by decide))⟩)
  · have c_6 : ¬ (x3 < 0) := of_decide_eq_false c_6
    refine ml_blk 2 (S' := (12, [(0, .ref m0), (1, .int x1), (2, .int x2), (3, .int x3)], [.int 9, .int x3], M11)) rfl ?_
    refine ml_if2 (S1 := (20, [(0, .ref m0), (1, .int x1), (2, .int x2), (3, .int x3)], [], M11)) (S2 := (15, [(0, .ref m0)], [], M11)) rfl rfl rfl (fun c_12 => ?_) (fun c_12 => ?_)
    · have c_12 : x3 ≤ 9 := of_decide_eq_true c_12
      refine ml_st (S' := (21, [(0, .ref m0), (1, .int x1), (2, .int x2), (3, .int x3)], [.ref m0], M11)) rfl rfl rfl ?_
      refine rg_int (S' := (24, [(0, .ref m0), (1, .int x1), (2, .int x2), (3, .int x3)], [.int kn], M11)) rfl hR13 rfl ((f15 18 (by decide)).trans (hk18)) rfl ?_
      refine ml_if (S1 := (50, [], [], M11)) (S2 := (27, [(0, .ref m0), (1, .int x1), (2, .int x2), (3, .int x3)], [], M11)) rfl rfl rfl (fun c_24 => ?_) (fun c_24 => ?_)
      · have c_24 : kn < 0 := of_decide_eq_true c_24
        refine ml_st (S' := (51, [], [.int (-1)], M11)) rfl rfl rfl ?_
        exact ml_ret rfl (rfl) (⟨_, _, _, rfl, hR13, (eqI.rf.put f15 (by decide)), eqR.rf⟩)
      · have c_24 : ¬ (kn < 0) := of_decide_eq_false c_24
        obtain ⟨S, cN, sa, sl, ch, cp, mj, pa, py, hA, fA, mA, aA, nf, ni, kf, km, hF0, hY0, hP0, hE0, hFO, kq54, kq58, kq61, hkf, kq25, hfk, hkm, kq26, hmk, hNW⟩ := hG.resolve_left (c_24)
        have hn := hF0.1
        refine ml_st (S' := (28, [(0, .ref m0), (1, .int x1), (2, .int x2), (3, .int x3)], [.int x2], M11)) rfl rfl rfl ?_
        refine ml_if (S1 := (50, [], [], M11)) (S2 := (31, [(0, .ref m0), (1, .int x1), (2, .int x2), (3, .int x3)], [], M11)) rfl rfl rfl (fun c_28 => ?_) (fun c_28 => ?_)
        · have c_28 : x2 < 0 := of_decide_eq_true c_28
          refine ml_st (S' := (51, [], [.int (-1)], M11)) rfl rfl rfl ?_
          exact ml_ret rfl (rfl) (⟨_, _, _, rfl, hR13, (eqI.rf.put f15 (by decide)), eqR.rf⟩)
        · have c_28 : ¬ (x2 < 0) := of_decide_eq_false c_28
          refine ml_blk 2 (S' := (33, [(0, .ref m0), (1, .int x1), (2, .int x2), (3, .int x3)], [.int x1, .int x2], M11)) rfl ?_
          have J_47 : ∀ (s47_0 : Int32), ((x1 = 0 → s47_0 = nI kf) ∧ (¬ x1 = 0 → s47_0 = nI km)) → ml (mT g) d (mb_223 g).2 (47, [(0, .ref m0), (1, .int x1), (2, .int x2), (3, .int x3)], [.int s47_0, .int x2], M11) (fun v M' => ∃ (x : Int32) (I' : rI) (R' : rR), v = some (.int x) ∧ RS g m0 q z I' R' M' ∧ eqI [0] I I' ∧ eqR [] R R') := by
            intro s47_0 hj_47
            refine ml_if2 (S1 := (52, [(0, .ref m0), (1, .int x1), (2, .int x2), (3, .int x3)], [], M11)) (S2 := (50, [], [], M11)) rfl rfl rfl (fun c_47 => ?_) (fun c_47 => ?_)
            · have c_47 : x2 < s47_0 := of_decide_eq_true c_47
              have hj_52 : (0 ≤ x2.toInt ∧ (x1 = 0 → x2.toInt < kf) ∧ (¬ x1 = 0 → x2.toInt < km)) := ⟨i_nlt c_28, fun e => i_ltn (hj_47.1 e ▸ c_47) hkf, fun e => i_ltn (hj_47.2 e ▸ c_47) hkm⟩
              refine ml_st (S' := (53, [(0, .ref m0), (1, .int x1), (2, .int x2), (3, .int x3)], [.int x3], M11)) rfl rfl rfl ?_
              refine ml_sw rfl (fun t_53 ht_53 => ?_)
              have kt_53 := ht_53
              have ht_53 : t_53 ∈ [88, 108, 128, 148, 168, 188] := mi_sw_sub ht_53 (by decide)
              simp only [List.mem_cons, List.not_mem_nil, or_false] at ht_53
              rcases ht_53 with rfl | rfl | rfl | rfl | rfl | rfl
              · show ml _ _ _ (88, [(0, .ref m0), (1, .int x1), (2, .int x2), (3, .int x3)], [], M11) _
                refine ml_st (S' := (89, [(0, .ref m0), (1, .int x1), (2, .int x2), (3, .int x3)], [.int x1], M11)) rfl rfl rfl ?_
                refine ml_if (S1 := (101, [(0, .ref m0), (1, .int x1), (2, .int x2), (3, .int x3)], [], M11)) (S2 := (92, [(0, .ref m0), (1, .int x1), (2, .int x2), (3, .int x3)], [], M11)) rfl rfl rfl (fun c_89 => ?_) (fun c_89 => ?_)
                · have c_89 : x1 = 0 := of_decide_eq_true c_89
                  refine ml_st (S' := (102, [(0, .ref m0), (1, .int x1), (2, .int x2), (3, .int x3)], [.ref m0], M11)) rfl rfl rfl ?_
                  refine rg_ref (S' := (105, [(0, .ref m0), (1, .int x1), (2, .int x2), (3, .int x3)], [.ref (q 27)], M11)) rfl hR13 rfl rfl ?_
                  refine ml_st (S' := (106, [(0, .ref m0), (1, .int x1), (2, .int x2), (3, .int x3)], [.int x2, .ref (q 27)], M11)) rfl rfl rfl ?_
                  have hx106 := hj_52.2.1 c_89
                  obtain ⟨v26, hv27⟩ := hfk x2.toNatClampNeg (by show x2.toInt.toNat < kf; omega) 27 (by decide)
                  refine ra_ld (k := 27) (S' := (107, [], [.int v26], M11)) rfl hR13 rfl (vin_lt hj_52.1 (by omega)) (hv27) rfl ?_
                  exact ml_ret rfl (rfl) (⟨_, _, _, rfl, hR13, (eqI.rf.put f15 (by decide)), eqR.rf⟩)
                · have c_89 : ¬ (x1 = 0) := of_decide_eq_false c_89
                  refine ml_st (S' := (93, [(0, .ref m0), (1, .int x1), (2, .int x2), (3, .int x3)], [.ref m0], M11)) rfl rfl rfl ?_
                  refine rg_ref (S' := (96, [(0, .ref m0), (1, .int x1), (2, .int x2), (3, .int x3)], [.ref (q 34)], M11)) rfl hR13 rfl rfl ?_
                  refine ml_st (S' := (97, [(0, .ref m0), (1, .int x1), (2, .int x2), (3, .int x3)], [.int x2, .ref (q 34)], M11)) rfl rfl rfl ?_
                  have hx97 := hj_52.2.2 c_89
                  obtain ⟨v28, hv29⟩ := (hmk x2.toNatClampNeg (by show x2.toInt.toNat < km; omega)).1 34 (by decide)
                  refine ra_ld (k := 34) (S' := (98, [(0, .ref m0), (1, .int x1), (2, .int x2), (3, .int x3)], [.int v28], M11)) rfl hR13 rfl (vin_lt hj_52.1 (by omega)) (hv29) rfl ?_
                  refine ml_st (S' := (107, [], [.int v28], M11)) rfl rfl rfl ?_
                  exact ml_ret rfl (rfl) (⟨_, _, _, rfl, hR13, (eqI.rf.put f15 (by decide)), eqR.rf⟩)
              · show ml _ _ _ (108, [(0, .ref m0), (1, .int x1), (2, .int x2), (3, .int x3)], [], M11) _
                refine ml_st (S' := (109, [(0, .ref m0), (1, .int x1), (2, .int x2), (3, .int x3)], [.int x1], M11)) rfl rfl rfl ?_
                refine ml_if (S1 := (121, [(0, .ref m0), (1, .int x1), (2, .int x2), (3, .int x3)], [], M11)) (S2 := (112, [(0, .ref m0), (1, .int x1), (2, .int x2), (3, .int x3)], [], M11)) rfl rfl rfl (fun c_109 => ?_) (fun c_109 => ?_)
                · have c_109 : x1 = 0 := of_decide_eq_true c_109
                  refine ml_st (S' := (122, [(0, .ref m0), (1, .int x1), (2, .int x2), (3, .int x3)], [.ref m0], M11)) rfl rfl rfl ?_
                  refine rg_ref (S' := (125, [(0, .ref m0), (1, .int x1), (2, .int x2), (3, .int x3)], [.ref (q 32)], M11)) rfl hR13 rfl rfl ?_
                  refine ml_st (S' := (126, [(0, .ref m0), (1, .int x1), (2, .int x2), (3, .int x3)], [.int x2, .ref (q 32)], M11)) rfl rfl rfl ?_
                  have hx126 := hj_52.2.1 c_109
                  obtain ⟨v30, hv31⟩ := hfk x2.toNatClampNeg (by show x2.toInt.toNat < kf; omega) 32 (by decide)
                  refine ra_ld (k := 32) (S' := (127, [], [.int v30], M11)) rfl hR13 rfl (vin_lt hj_52.1 (by omega)) (hv31) rfl ?_
                  exact ml_ret rfl (rfl) (⟨_, _, _, rfl, hR13, (eqI.rf.put f15 (by decide)), eqR.rf⟩)
                · have c_109 : ¬ (x1 = 0) := of_decide_eq_false c_109
                  refine ml_st (S' := (113, [(0, .ref m0), (1, .int x1), (2, .int x2), (3, .int x3)], [.ref m0], M11)) rfl rfl rfl ?_
                  refine rg_ref (S' := (116, [(0, .ref m0), (1, .int x1), (2, .int x2), (3, .int x3)], [.ref (q 45)], M11)) rfl hR13 rfl rfl ?_
                  refine ml_st (S' := (117, [(0, .ref m0), (1, .int x1), (2, .int x2), (3, .int x3)], [.int x2, .ref (q 45)], M11)) rfl rfl rfl ?_
                  have hx117 := hj_52.2.2 c_109
                  obtain ⟨v32, hv33⟩ := (hmk x2.toNatClampNeg (by show x2.toInt.toNat < km; omega)).1 45 (by decide)
                  refine ra_ld (k := 45) (S' := (118, [(0, .ref m0), (1, .int x1), (2, .int x2), (3, .int x3)], [.int v32], M11)) rfl hR13 rfl (vin_lt hj_52.1 (by omega)) (hv33) rfl ?_
                  refine ml_st (S' := (127, [], [.int v32], M11)) rfl rfl rfl ?_
                  exact ml_ret rfl (rfl) (⟨_, _, _, rfl, hR13, (eqI.rf.put f15 (by decide)), eqR.rf⟩)
              · show ml _ _ _ (128, [(0, .ref m0), (1, .int x1), (2, .int x2), (3, .int x3)], [], M11) _
                refine ml_st (S' := (129, [(0, .ref m0), (1, .int x1), (2, .int x2), (3, .int x3)], [.int x1], M11)) rfl rfl rfl ?_
                refine ml_if (S1 := (141, [(0, .ref m0), (1, .int x1), (2, .int x2), (3, .int x3)], [], M11)) (S2 := (132, [(0, .ref m0), (1, .int x1), (2, .int x2), (3, .int x3)], [], M11)) rfl rfl rfl (fun c_129 => ?_) (fun c_129 => ?_)
                · have c_129 : x1 = 0 := of_decide_eq_true c_129
                  refine ml_st (S' := (142, [(0, .ref m0), (1, .int x1), (2, .int x2), (3, .int x3)], [.ref m0], M11)) rfl rfl rfl ?_
                  refine rg_ref (S' := (145, [(0, .ref m0), (1, .int x1), (2, .int x2), (3, .int x3)], [.ref (q 33)], M11)) rfl hR13 rfl rfl ?_
                  refine ml_st (S' := (146, [(0, .ref m0), (1, .int x1), (2, .int x2), (3, .int x3)], [.int x2, .ref (q 33)], M11)) rfl rfl rfl ?_
                  have hx146 := hj_52.2.1 c_129
                  obtain ⟨v34, hv35⟩ := hfk x2.toNatClampNeg (by show x2.toInt.toNat < kf; omega) 33 (by decide)
                  refine ra_ld (k := 33) (S' := (147, [], [.int v34], M11)) rfl hR13 rfl (vin_lt hj_52.1 (by omega)) (hv35) rfl ?_
                  exact ml_ret rfl (rfl) (⟨_, _, _, rfl, hR13, (eqI.rf.put f15 (by decide)), eqR.rf⟩)
                · have c_129 : ¬ (x1 = 0) := of_decide_eq_false c_129
                  refine ml_st (S' := (133, [(0, .ref m0), (1, .int x1), (2, .int x2), (3, .int x3)], [.ref m0], M11)) rfl rfl rfl ?_
                  refine rg_ref (S' := (136, [(0, .ref m0), (1, .int x1), (2, .int x2), (3, .int x3)], [.ref (q 46)], M11)) rfl hR13 rfl rfl ?_
                  refine ml_st (S' := (137, [(0, .ref m0), (1, .int x1), (2, .int x2), (3, .int x3)], [.int x2, .ref (q 46)], M11)) rfl rfl rfl ?_
                  have hx137 := hj_52.2.2 c_129
                  obtain ⟨v36, hv37⟩ := (hmk x2.toNatClampNeg (by show x2.toInt.toNat < km; omega)).1 46 (by decide)
                  refine ra_ld (k := 46) (S' := (138, [(0, .ref m0), (1, .int x1), (2, .int x2), (3, .int x3)], [.int v36], M11)) rfl hR13 rfl (vin_lt hj_52.1 (by omega)) (hv37) rfl ?_
                  refine ml_st (S' := (147, [], [.int v36], M11)) rfl rfl rfl ?_
                  exact ml_ret rfl (rfl) (⟨_, _, _, rfl, hR13, (eqI.rf.put f15 (by decide)), eqR.rf⟩)
              · show ml _ _ _ (148, [(0, .ref m0), (1, .int x1), (2, .int x2), (3, .int x3)], [], M11) _
                refine ml_st (S' := (149, [(0, .ref m0), (1, .int x1), (2, .int x2), (3, .int x3)], [.int x1], M11)) rfl rfl rfl ?_
                refine ml_if (S1 := (161, [(0, .ref m0), (1, .int x1), (2, .int x2), (3, .int x3)], [], M11)) (S2 := (152, [(0, .ref m0), (1, .int x1), (2, .int x2), (3, .int x3)], [], M11)) rfl rfl rfl (fun c_149 => ?_) (fun c_149 => ?_)
                · have c_149 : x1 = 0 := of_decide_eq_true c_149
                  refine ml_st (S' := (162, [(0, .ref m0), (1, .int x1), (2, .int x2), (3, .int x3)], [.ref m0], M11)) rfl rfl rfl ?_
                  refine rg_ref (S' := (165, [(0, .ref m0), (1, .int x1), (2, .int x2), (3, .int x3)], [.ref (q 31)], M11)) rfl hR13 rfl rfl ?_
                  refine ml_st (S' := (166, [(0, .ref m0), (1, .int x1), (2, .int x2), (3, .int x3)], [.int x2, .ref (q 31)], M11)) rfl rfl rfl ?_
                  have hx166 := hj_52.2.1 c_149
                  obtain ⟨v38, hv39⟩ := hfk x2.toNatClampNeg (by show x2.toInt.toNat < kf; omega) 31 (by decide)
                  refine ra_ld (k := 31) (S' := (167, [], [.int v38], M11)) rfl hR13 rfl (vin_lt hj_52.1 (by omega)) (hv39) rfl ?_
                  exact ml_ret rfl (rfl) (⟨_, _, _, rfl, hR13, (eqI.rf.put f15 (by decide)), eqR.rf⟩)
                · have c_149 : ¬ (x1 = 0) := of_decide_eq_false c_149
                  refine ml_st (S' := (153, [(0, .ref m0), (1, .int x1), (2, .int x2), (3, .int x3)], [.ref m0], M11)) rfl rfl rfl ?_
                  refine rg_ref (S' := (156, [(0, .ref m0), (1, .int x1), (2, .int x2), (3, .int x3)], [.ref (q 43)], M11)) rfl hR13 rfl rfl ?_
                  refine ml_st (S' := (157, [(0, .ref m0), (1, .int x1), (2, .int x2), (3, .int x3)], [.int x2, .ref (q 43)], M11)) rfl rfl rfl ?_
                  have hx157 := hj_52.2.2 c_149
                  obtain ⟨v40, hv41⟩ := (hmk x2.toNatClampNeg (by show x2.toInt.toNat < km; omega)).1 43 (by decide)
                  refine ra_ld (k := 43) (S' := (158, [(0, .ref m0), (1, .int x1), (2, .int x2), (3, .int x3)], [.int v40], M11)) rfl hR13 rfl (vin_lt hj_52.1 (by omega)) (hv41) rfl ?_
                  refine ml_st (S' := (167, [], [.int v40], M11)) rfl rfl rfl ?_
                  exact ml_ret rfl (rfl) (⟨_, _, _, rfl, hR13, (eqI.rf.put f15 (by decide)), eqR.rf⟩)
              · show ml _ _ _ (168, [(0, .ref m0), (1, .int x1), (2, .int x2), (3, .int x3)], [], M11) _
                refine ml_st (S' := (169, [(0, .ref m0), (1, .int x1), (2, .int x2), (3, .int x3)], [.int x1], M11)) rfl rfl rfl ?_
                refine ml_if (S1 := (181, [(0, .ref m0), (1, .int x1), (2, .int x2), (3, .int x3)], [], M11)) (S2 := (172, [(0, .ref m0), (1, .int x1), (2, .int x2), (3, .int x3)], [], M11)) rfl rfl rfl (fun c_169 => ?_) (fun c_169 => ?_)
                · have c_169 : x1 = 0 := of_decide_eq_true c_169
                  refine ml_st (S' := (182, [(0, .ref m0), (1, .int x1), (2, .int x2), (3, .int x3)], [.ref m0], M11)) rfl rfl rfl ?_
                  refine rg_ref (S' := (185, [(0, .ref m0), (1, .int x1), (2, .int x2), (3, .int x3)], [.ref (q 30)], M11)) rfl hR13 rfl rfl ?_
                  refine ml_st (S' := (186, [(0, .ref m0), (1, .int x1), (2, .int x2), (3, .int x3)], [.int x2, .ref (q 30)], M11)) rfl rfl rfl ?_
                  have hx186 := hj_52.2.1 c_169
                  obtain ⟨v42, hv43⟩ := hfk x2.toNatClampNeg (by show x2.toInt.toNat < kf; omega) 30 (by decide)
                  refine ra_ld (k := 30) (S' := (187, [], [.int v42], M11)) rfl hR13 rfl (vin_lt hj_52.1 (by omega)) (hv43) rfl ?_
                  exact ml_ret rfl (rfl) (⟨_, _, _, rfl, hR13, (eqI.rf.put f15 (by decide)), eqR.rf⟩)
                · have c_169 : ¬ (x1 = 0) := of_decide_eq_false c_169
                  refine ml_st (S' := (173, [(0, .ref m0), (1, .int x1), (2, .int x2), (3, .int x3)], [.ref m0], M11)) rfl rfl rfl ?_
                  refine rg_ref (S' := (176, [(0, .ref m0), (1, .int x1), (2, .int x2), (3, .int x3)], [.ref (q 38)], M11)) rfl hR13 rfl rfl ?_
                  refine ml_st (S' := (177, [(0, .ref m0), (1, .int x1), (2, .int x2), (3, .int x3)], [.int x2, .ref (q 38)], M11)) rfl rfl rfl ?_
                  have hx177 := hj_52.2.2 c_169
                  obtain ⟨v44, hv45⟩ := (hmk x2.toNatClampNeg (by show x2.toInt.toNat < km; omega)).1 38 (by decide)
                  refine ra_ld (k := 38) (S' := (178, [(0, .ref m0), (1, .int x1), (2, .int x2), (3, .int x3)], [.int v44], M11)) rfl hR13 rfl (vin_lt hj_52.1 (by omega)) (hv45) rfl ?_
                  refine ml_st (S' := (187, [], [.int v44], M11)) rfl rfl rfl ?_
                  exact ml_ret rfl (rfl) (⟨_, _, _, rfl, hR13, (eqI.rf.put f15 (by decide)), eqR.rf⟩)
              · show ml _ _ _ (188, [(0, .ref m0), (1, .int x1), (2, .int x2), (3, .int x3)], [], M11) _
                refine ml_st (S' := (189, [(0, .ref m0), (1, .int x1), (2, .int x2), (3, .int x3)], [.int x1], M11)) rfl rfl rfl ?_
                refine ml_if (S1 := (194, [(0, .ref m0), (1, .int x1), (2, .int x2), (3, .int x3)], [], M11)) (S2 := (192, [(0, .ref m0), (1, .int x1), (2, .int x2), (3, .int x3)], [], M11)) rfl rfl rfl (fun c_189 => ?_) (fun c_189 => ?_)
                · have c_189 : ¬ x1 = 0 := of_decide_eq_true c_189
                  refine ml_blk 2 (S' := (196, [(0, .ref m0), (1, .int x1), (2, .int x2), (3, .int x3)], [.int 5, .int x3], M11)) rfl ?_
                  refine ml_if2 (S1 := (208, [(0, .ref m0), (1, .int x1), (2, .int x2), (3, .int x3)], [], M11)) (S2 := (199, [(0, .ref m0), (1, .int x1), (2, .int x2), (3, .int x3)], [], M11)) rfl rfl rfl (fun c_196 => ?_) (fun c_196 => ?_)
                  · have c_196 : ¬ x3 = 5 := of_decide_eq_true c_196
                    refine ml_blk 2 (S' := (211, [(0, .ref m0), (1, .int x1), (2, .int x2), (3, .int x3)], [.int 6, .int x3], M11)) rfl ?_
                    refine ml_if2 (S1 := (223, [(0, .ref m0), (1, .int x1), (2, .int x2), (3, .int x3)], [], M11)) (S2 := (214, [(0, .ref m0), (1, .int x1), (2, .int x2), (3, .int x3)], [], M11)) rfl rfl rfl (fun c_211 => ?_) (fun c_211 => ?_)
                    · have c_211 : ¬ x3 = 6 := of_decide_eq_true c_211
                      refine ml_blk 2 (S' := (226, [(0, .ref m0), (1, .int x1), (2, .int x2), (3, .int x3)], [.int 7, .int x3], M11)) rfl ?_
                      refine ml_if2 (S1 := (238, [(0, .ref m0), (1, .int x1), (2, .int x2), (3, .int x3)], [], M11)) (S2 := (229, [(0, .ref m0), (1, .int x1), (2, .int x2), (3, .int x3)], [], M11)) rfl rfl rfl (fun c_226 => ?_) (fun c_226 => ?_)
                      · have c_226 : ¬ x3 = 7 := of_decide_eq_true c_226
                        refine ml_blk 2 (S' := (241, [(0, .ref m0), (1, .int x1), (2, .int x2), (3, .int x3)], [.int 8, .int x3], M11)) rfl ?_
                        refine ml_if2 (S1 := (275, [(0, .ref m0), (1, .int x1), (2, .int x2), (3, .int x3)], [], M11)) (S2 := (244, [(0, .ref m0), (1, .int x1), (2, .int x2), (3, .int x3)], [], M11)) rfl rfl rfl (fun c_241 => ?_) (fun c_241 => ?_)
                        · have c_241 : ¬ x3 = 8 := of_decide_eq_true c_241
                          refine ml_st (S' := (276, [(0, .ref m0), (1, .int x1), (2, .int x2), (3, .int x3)], [.ref m0], M11)) rfl rfl rfl ?_
                          refine rg_ref (S' := (279, [(0, .ref m0), (1, .int x1), (2, .int x2), (3, .int x3)], [.ref (q 44)], M11)) rfl hR13 rfl rfl ?_
                          refine ml_st (S' := (280, [(0, .ref m0), (1, .int x1), (2, .int x2), (3, .int x3)], [.int x2, .ref (q 44)], M11)) rfl rfl rfl ?_
                          have hx280 := hj_52.2.2 c_189
                          obtain ⟨v46, hv47⟩ := (hmk x2.toNatClampNeg (by show x2.toInt.toNat < km; omega)).1 44 (by decide)
                          refine ra_ld (k := 44) (S' := (281, [], [.int v46], M11)) rfl hR13 rfl (vin_lt hj_52.1 (by omega)) (hv47) rfl ?_
                          exact ml_ret rfl (rfl) (⟨_, _, _, rfl, hR13, (eqI.rf.put f15 (by decide)), eqR.rf⟩)
                        · have c_241 : ¬ (¬ x3 = 8) := of_decide_eq_false c_241
                          refine ml_blk 2 (S' := (246, [(0, .ref m0), (1, .int x1), (2, .int x2), (3, .int x3)], [.ref m0, .ref m0], M11)) rfl ?_
                          refine rg_ref (S' := (249, [(0, .ref m0), (1, .int x1), (2, .int x2), (3, .int x3)], [.ref (q 36), .ref m0], M11)) rfl hR13 rfl rfl ?_
                          refine ml_st (S' := (250, [(0, .ref m0), (1, .int x1), (2, .int x2), (3, .int x3)], [.int x2, .ref (q 36), .ref m0], M11)) rfl rfl rfl ?_
                          have hx250 := hj_52.2.2 c_189
                          obtain ⟨v48, hv49, hd0, hd1, hmt⟩ := (hmk x2.toNatClampNeg (by show x2.toInt.toNat < km; omega)).2.2
                          refine ra_ld (k := 36) (S' := (251, [(0, .ref m0), (1, .int x1), (2, .int x2), (3, .int x3)], [.int v48, .ref m0], M11)) rfl hR13 rfl (vin_lt hj_52.1 (by omega)) (hv49) rfl ?_
                          have hY50 : SK S cN sa sl ch I12 R := (hY0.mono (pIx f15 (by decide)) (fun _ _ => rfl))
                          refine ml_call (a := [.ref m0, .int v48]) (rest := []) rfl (hR13.okc rfl rfl rfl) rfl rfl (rm_places0 hR13 hY50 (hd0) (hd1) (hmt.1) (by omega)) (fun v51 M52 h53 => ?_)
                          obtain ⟨⟨u54, rfl⟩, h53⟩ := h53
                          rw [h53]
                          show ml _ _ _ (254, [(0, .ref m0), (1, .int x1), (2, .int x2), (3, .int x3)], [.int u54], M11) _
                          refine ml_st (S' := (255, [(0, .ref m0), (1, .int x1), (2, .int x2), (3, .int x3)], [.ref m0, .int u54], M11)) rfl rfl rfl ?_
                          refine rg_ref (S' := (258, [(0, .ref m0), (1, .int x1), (2, .int x2), (3, .int x3)], [.ref (q 34), .int u54], M11)) rfl hR13 rfl rfl ?_
                          refine ml_st (S' := (259, [(0, .ref m0), (1, .int x1), (2, .int x2), (3, .int x3)], [.int x2, .ref (q 34), .int u54], M11)) rfl rfl rfl ?_
                          have hx259 := hj_52.2.2 c_189
                          obtain ⟨v55, hv56⟩ := (hmk x2.toNatClampNeg (by show x2.toInt.toNat < km; omega)).1 34 (by decide)
                          refine ra_ld (k := 34) (S' := (260, [(0, .ref m0), (1, .int x1), (2, .int x2), (3, .int x3)], [.int v55, .int u54], M11)) rfl hR13 rfl (vin_lt hj_52.1 (by omega)) (hv56) rfl ?_
                          refine ml_blk 2 (S' := (263, [(0, .ref m0), (1, .int x1), (2, .int x2), (3, .int x3)], [.int (v55 &&& 8), .int u54], M11)) rfl ?_
                          refine ml_if (S1 := (270, [(0, .ref m0), (1, .int x1), (2, .int x2), (3, .int x3)], [.int u54], M11)) (S2 := (266, [(0, .ref m0), (1, .int x1), (2, .int x2), (3, .int x3)], [.int u54], M11)) rfl rfl rfl (fun c_263 => ?_) (fun c_263 => ?_)
                          · have c_263 : ¬ (v55 &&& 8) = 0 := of_decide_eq_true c_263
                            refine ml_st (S' := (271, [], [.int 0, .int u54], M11)) rfl rfl rfl ?_
                            refine ml_st (S' := (272, [], [.int (u54 + 0)], M11)) rfl rfl rfl ?_
                            refine ml_st (S' := (281, [], [.int (u54 + 0)], M11)) rfl rfl rfl ?_
                            exact ml_ret rfl (rfl) (⟨_, _, _, rfl, hR13, (eqI.rf.put f15 (by decide)), eqR.rf⟩)
                          · have c_263 : ¬ (¬ (v55 &&& 8) = 0) := of_decide_eq_false c_263
                            refine ml_st (S' := (267, [(0, .ref m0), (1, .int x1), (2, .int x2), (3, .int x3)], [.int 1, .int u54], M11)) rfl rfl rfl ?_
                            refine ml_st (S' := (271, [], [.int 1, .int u54], M11)) rfl rfl rfl ?_
                            refine ml_st (S' := (272, [], [.int (u54 + 1)], M11)) rfl rfl rfl ?_
                            refine ml_st (S' := (281, [], [.int (u54 + 1)], M11)) rfl rfl rfl ?_
                            exact ml_ret rfl (rfl) (⟨_, _, _, rfl, hR13, (eqI.rf.put f15 (by decide)), eqR.rf⟩)
                      · have c_226 : ¬ (¬ x3 = 7) := of_decide_eq_false c_226
                        refine ml_st (S' := (230, [(0, .ref m0), (1, .int x1), (2, .int x2), (3, .int x3)], [.ref m0], M11)) rfl rfl rfl ?_
                        refine rg_ref (S' := (233, [(0, .ref m0), (1, .int x1), (2, .int x2), (3, .int x3)], [.ref (q 42)], M11)) rfl hR13 rfl rfl ?_
                        refine ml_st (S' := (234, [(0, .ref m0), (1, .int x1), (2, .int x2), (3, .int x3)], [.int x2, .ref (q 42)], M11)) rfl rfl rfl ?_
                        have hx234 := hj_52.2.2 c_189
                        obtain ⟨v57, hv58⟩ := (hmk x2.toNatClampNeg (by show x2.toInt.toNat < km; omega)).1 42 (by decide)
                        refine ra_ld (k := 42) (S' := (235, [(0, .ref m0), (1, .int x1), (2, .int x2), (3, .int x3)], [.int v57], M11)) rfl hR13 rfl (vin_lt hj_52.1 (by omega)) (hv58) rfl ?_
                        refine ml_st (S' := (281, [], [.int v57], M11)) rfl rfl rfl ?_
                        exact ml_ret rfl (rfl) (⟨_, _, _, rfl, hR13, (eqI.rf.put f15 (by decide)), eqR.rf⟩)
                    · have c_211 : ¬ (¬ x3 = 6) := of_decide_eq_false c_211
                      refine ml_st (S' := (215, [(0, .ref m0), (1, .int x1), (2, .int x2), (3, .int x3)], [.ref m0], M11)) rfl rfl rfl ?_
                      refine rg_ref (S' := (218, [(0, .ref m0), (1, .int x1), (2, .int x2), (3, .int x3)], [.ref (q 40)], M11)) rfl hR13 rfl rfl ?_
                      refine ml_st (S' := (219, [(0, .ref m0), (1, .int x1), (2, .int x2), (3, .int x3)], [.int x2, .ref (q 40)], M11)) rfl rfl rfl ?_
                      have hx219 := hj_52.2.2 c_189
                      obtain ⟨v59, hv60⟩ := (hmk x2.toNatClampNeg (by show x2.toInt.toNat < km; omega)).1 40 (by decide)
                      refine ra_ld (k := 40) (S' := (220, [(0, .ref m0), (1, .int x1), (2, .int x2), (3, .int x3)], [.int v59], M11)) rfl hR13 rfl (vin_lt hj_52.1 (by omega)) (hv60) rfl ?_
                      refine ml_st (S' := (281, [], [.int v59], M11)) rfl rfl rfl ?_
                      exact ml_ret rfl (rfl) (⟨_, _, _, rfl, hR13, (eqI.rf.put f15 (by decide)), eqR.rf⟩)
                  · have c_196 : ¬ (¬ x3 = 5) := of_decide_eq_false c_196
                    refine ml_st (S' := (200, [(0, .ref m0), (1, .int x1), (2, .int x2), (3, .int x3)], [.ref m0], M11)) rfl rfl rfl ?_
                    refine rg_ref (S' := (203, [(0, .ref m0), (1, .int x1), (2, .int x2), (3, .int x3)], [.ref (q 39)], M11)) rfl hR13 rfl rfl ?_
                    refine ml_st (S' := (204, [(0, .ref m0), (1, .int x1), (2, .int x2), (3, .int x3)], [.int x2, .ref (q 39)], M11)) rfl rfl rfl ?_
                    have hx204 := hj_52.2.2 c_189
                    obtain ⟨v61, hv62⟩ := (hmk x2.toNatClampNeg (by show x2.toInt.toNat < km; omega)).1 39 (by decide)
                    refine ra_ld (k := 39) (S' := (205, [(0, .ref m0), (1, .int x1), (2, .int x2), (3, .int x3)], [.int v61], M11)) rfl hR13 rfl (vin_lt hj_52.1 (by omega)) (hv62) rfl ?_
                    refine ml_st (S' := (281, [], [.int v61], M11)) rfl rfl rfl ?_
                    exact ml_ret rfl (rfl) (⟨_, _, _, rfl, hR13, (eqI.rf.put f15 (by decide)), eqR.rf⟩)
                · have c_189 : ¬ (¬ x1 = 0) := of_decide_eq_false c_189
                  refine ml_st (S' := (193, [(0, .ref m0), (1, .int x1), (2, .int x2), (3, .int x3)], [.int 0], M11)) rfl rfl rfl ?_
                  exact ml_ret rfl (rfl) (⟨_, _, _, rfl, hR13, (eqI.rf.put f15 (by decide)), eqR.rf⟩)
            · have c_47 : ¬ (x2 < s47_0) := of_decide_eq_false c_47
              refine ml_st (S' := (51, [], [.int (-1)], M11)) rfl rfl rfl ?_
              exact ml_ret rfl (rfl) (⟨_, _, _, rfl, hR13, (eqI.rf.put f15 (by decide)), eqR.rf⟩)
          refine ml_if (S1 := (43, [(0, .ref m0), (1, .int x1), (2, .int x2), (3, .int x3)], [.int x2], M11)) (S2 := (36, [(0, .ref m0), (1, .int x1), (2, .int x2), (3, .int x3)], [.int x2], M11)) rfl rfl rfl (fun c_33 => ?_) (fun c_33 => ?_)
          · have c_33 : x1 = 0 := of_decide_eq_true c_33
            refine ml_st (S' := (44, [(0, .ref m0), (1, .int x1), (2, .int x2), (3, .int x3)], [.ref m0, .int x2], M11)) rfl rfl rfl ?_
            refine rg_int (S' := (47, [(0, .ref m0), (1, .int x1), (2, .int x2), (3, .int x3)], [.int (nI kf), .int x2], M11)) rfl hR13 rfl ((f15 25 (by decide)).trans (kq25)) rfl ?_
            exact J_47 (nI kf) (⟨fun e => by first | exact absurd e c_33 | rfl, fun e => by first | exact absurd c_33 e | rfl⟩)
          · have c_33 : ¬ (x1 = 0) := of_decide_eq_false c_33
            refine ml_st (S' := (37, [(0, .ref m0), (1, .int x1), (2, .int x2), (3, .int x3)], [.ref m0, .int x2], M11)) rfl rfl rfl ?_
            refine rg_int (S' := (40, [(0, .ref m0), (1, .int x1), (2, .int x2), (3, .int x3)], [.int (nI km), .int x2], M11)) rfl hR13 rfl ((f15 26 (by decide)).trans (kq26)) rfl ?_
            refine ml_st (S' := (47, [(0, .ref m0), (1, .int x1), (2, .int x2), (3, .int x3)], [.int (nI km), .int x2], M11)) rfl rfl rfl ?_
            exact J_47 (nI km) (⟨fun e => by first | exact absurd e c_33 | rfl, fun e => by first | exact absurd c_33 e | rfl⟩)
    · have c_12 : ¬ (x3 ≤ 9) := of_decide_eq_false c_12
      refine ml_st (S' := (16, [(0, .ref m0)], [.ref m0], M11)) rfl rfl rfl ?_
      refine ml_call (a := [.ref m0]) (rest := []) rfl (hR13.okc rfl rfl rfl) rfl rfl (rm_bad hR13 (by omega)) (fun v63 M64 h65 => ?_)
      obtain ⟨u71, I66, R67, rfl, hR68, hI69, hV70, w72⟩ := h65
      show ml _ _ _ (19, [(0, .ref m0)], [.int u71], M64) _
      exact ml_ret rfl (rfl) (⟨_, _, _, rfl, hR68, ((eqI.rf.put f15 (by decide)).tr hI69 (by decide)), (eqR.rf.tr hV70 (by decide))⟩)
