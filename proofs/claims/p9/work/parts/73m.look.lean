/-! the reference: look-ups (laid by wip/p2/c73.py) -/
set_option maxHeartbeats 2000000 in
theorem rm_bad {g : xe_G}  {m0 : Nat} {q : Nat → Nat} {z : Nat × Nat} {I : rI} {R : rR} {M : mi_H}  (hR : RS g m0 q z I R M) {d : Nat} (hd : 1 ≤ d) : mt (mT g) d 182 [.ref m0] M (fun v M' => ∃ (x : Int32) (I' : rI) (R' : rR), v = some (.int x) ∧ RS g m0 q z I' R' M' ∧ eqI [0] I I' ∧ eqR [] R R' ∧ I' 0 = some 1) := by
  obtain ⟨d, rfl⟩ : ∃ e, d = e + 1 := ⟨d - 1, by omega⟩
  refine mt_in (b := mb_182 g) rfl rfl ?_
  show ml (mT g) d (mb_182 g).2 (0, [(0, .ref m0)], [], M) _
  refine ml_blk 2 (S' := (2, [(0, .ref m0)], [.int 1, .ref m0], M)) rfl ?_
  refine rp_int rfl hR rfl (fun M11 I12 hR13 e14 f15 => ?_)
  show ml _ _ _ (5, [(0, .ref m0)], [], M11) _
  refine ml_st (S' := (6, [(0, .ref m0)], [.int 0], M11)) rfl rfl rfl ?_
  exact ml_ret rfl (rfl) (⟨_, _, _, rfl, hR13, (eqI.rf.put f15 (by decide)), eqR.rf, e14⟩)
set_option maxHeartbeats 2000000 in
theorem rm_place {g : xe_G}  {m0 : Nat} {q : Nat → Nat} {z : Nat × Nat} {I : rI} {R : rR} {M : mi_H} {lp : Int32}  (hR : RS g m0 q z I R M) (hk73 : I 73 = some lp) {d : Nat} (hd : 1 ≤ d) : mt (mT g) d 231 [.ref m0] M (fun v M' => ∃ (x : Int32) (I' : rI) (R' : rR), v = some (.int x) ∧ RS g m0 q z I' R' M' ∧ eqI [0] I I' ∧ eqR [] R R') := by
  obtain ⟨d, rfl⟩ : ∃ e, d = e + 1 := ⟨d - 1, by omega⟩
  refine mt_in (b := mb_231 g) rfl rfl ?_
  show ml (mT g) d (mb_231 g).2 (0, [(0, .ref m0)], [], M) _
  refine ml_blk 2 (S' := (2, [(0, .ref m0)], [.int 0, .ref m0], M)) rfl ?_
  refine rp_int rfl hR rfl (fun M11 I12 hR13 e14 f15 => ?_)
  show ml _ _ _ (5, [(0, .ref m0)], [], M11) _
  refine ml_st (S' := (6, [(0, .ref m0)], [.ref m0], M11)) rfl rfl rfl ?_
  refine rg_int (S' := (9, [(0, .ref m0)], [.int lp], M11)) rfl hR13 rfl ((f15 73 (by decide)).trans (hk73)) rfl ?_
  exact ml_ret rfl (rfl) (⟨_, _, _, rfl, hR13, (eqI.rf.put f15 (by decide)), eqR.rf⟩)
set_option maxHeartbeats 2000000 in
theorem rm_count {g : xe_G}  {m0 : Nat} {q : Nat → Nat} {z : Nat × Nat} {I : rI} {R : rR} {M : mi_H} {x1 kn : Int32} {n : Nat} {f : Nat → Int32}  (hR : RS g m0 q z I R M) (hk18 : I 18 = some kn) (hG : (kn < 0 ∨ GD n f I R)) {d : Nat} (hd : 3 ≤ d) : mt (mT g) d 198 [.ref m0, .int x1] M (fun v M' => ∃ (x : Int32) (I' : rI) (R' : rR), v = some (.int x) ∧ RS g m0 q z I' R' M' ∧ eqI [0] I I' ∧ eqR [] R R') := by
  obtain ⟨d, rfl⟩ : ∃ e, d = e + 1 := ⟨d - 1, by omega⟩
  refine mt_in (b := mb_198 g) rfl rfl ?_
  show ml (mT g) d (mb_198 g).2 (0, [(0, .ref m0), (1, .int x1)], [], M) _
  refine ml_blk 2 (S' := (2, [(0, .ref m0), (1, .int x1)], [.int 0, .ref m0], M)) rfl ?_
  refine rp_int rfl hR rfl (fun M11 I12 hR13 e14 f15 => ?_)
  show ml _ _ _ (5, [(0, .ref m0), (1, .int x1)], [], M11) _
  refine ml_st (S' := (6, [(0, .ref m0), (1, .int x1)], [.int x1], M11)) rfl rfl rfl ?_
  refine ml_if (S1 := (15, [(0, .ref m0)], [], M11)) (S2 := (9, [(0, .ref m0), (1, .int x1)], [], M11)) rfl rfl rfl (fun c_6 => ?_) (fun c_6 => ?_)
  · have c_6 : x1 < 0 := of_decide_eq_true c_6
    refine ml_st (S' := (16, [(0, .ref m0)], [.ref m0], M11)) rfl rfl rfl ?_
    refine ml_call (a := [.ref m0]) (rest := []) rfl (hR13.okc rfl rfl rfl) rfl rfl (rm_bad hR13 (by omega)) (fun v16 M17 h18 => ?_)
    obtain ⟨u24, I19, R20, rfl, hR21, hI22, hV23, w25⟩ := h18
    show ml _ _ _ (19, [(0, .ref m0)], [.int u24], M17) _
    exact ml_ret rfl (rfl) (⟨_, _, _, rfl, hR21, ((eqI.rf.put f15 (by decide)).tr hI22 (by decide)), (eqR.rf.tr hV23 (by decide))⟩)
  · have c_6 : ¬ (x1 < 0) := of_decide_eq_false c_6
    refine ml_blk 2 (S' := (12, [(0, .ref m0), (1, .int x1)], [.int 15, .int x1], M11)) rfl ?_
    refine ml_if2 (S1 := (20, [(0, .ref m0), (1, .int x1)], [], M11)) (S2 := (15, [(0, .ref m0)], [], M11)) rfl rfl rfl (fun c_12 => ?_) (fun c_12 => ?_)
    · have c_12 : x1 ≤ 15 := of_decide_eq_true c_12
      refine ml_st (S' := (21, [(0, .ref m0), (1, .int x1)], [.ref m0], M11)) rfl rfl rfl ?_
      refine rg_int (S' := (24, [(0, .ref m0), (1, .int x1)], [.int kn], M11)) rfl hR13 rfl ((f15 18 (by decide)).trans (hk18)) rfl ?_
      refine ml_if (S1 := (29, [(0, .ref m0), (1, .int x1)], [], M11)) (S2 := (27, [(0, .ref m0), (1, .int x1)], [], M11)) rfl rfl rfl (fun c_24 => ?_) (fun c_24 => ?_)
      · have c_24 : 0 ≤ kn := of_decide_eq_true c_24
        obtain ⟨S, cN, sa, sl, ch, cp, mj, pa, py, hA, fA, mA, aA, nf, ni, kf, km, hF0, hY0, hP0, hE0, hFO, kq54, kq58, kq61, hkf, kq25, hfk, hkm, kq26, hmk, hNW⟩ := hG.resolve_left (Int32.not_lt.mpr c_24)
        have hn := hF0.1
        obtain ⟨hNk, nb, nc, kq70, kq71, hnc, hbs⟩ := hNW
        obtain ⟨w65, kq65⟩ := hNk 65 (by decide)
        obtain ⟨w66, kq66⟩ := hNk 66 (by decide)
        obtain ⟨w67, kq67⟩ := hNk 67 (by decide)
        obtain ⟨w68, kq68⟩ := hNk 68 (by decide)
        obtain ⟨w69, kq69⟩ := hNk 69 (by decide)
        obtain ⟨w72, kq72⟩ := hNk 72 (by decide)
        obtain ⟨hcp, ⟨hh0, hh1, hh2⟩, hmb1, hmb2, eE, hatE⟩ := hFO
        have hq6 := f2_pos (f := f) (x := hA + 6)
        refine ml_st (S' := (30, [(0, .ref m0), (1, .int x1)], [.int x1], M11)) rfl rfl rfl ?_
        refine ml_sw rfl (fun t_30 ht_30 => ?_)
        have kt_30 := ht_30
        have ht_30 : t_30 ∈ [104, 109, 114, 119, 124, 129, 134, 139, 144, 150, 161, 172, 213, 218, 223, 228] := mi_sw_sub ht_30 (by decide)
        simp only [List.mem_cons, List.not_mem_nil, or_false] at ht_30
        rcases ht_30 with rfl | rfl | rfl | rfl | rfl | rfl | rfl | rfl | rfl | rfl | rfl | rfl | rfl | rfl | rfl | rfl
        · show ml _ _ _ (104, [(0, .ref m0), (1, .int x1)], [], M11) _
          refine ml_st (S' := (105, [(0, .ref m0), (1, .int x1)], [.ref m0], M11)) rfl rfl rfl ?_
          refine rg_int (S' := (108, [(0, .ref m0), (1, .int x1)], [.int cp], M11)) rfl hR13 rfl ((f15 52 (by decide)).trans (hP0.2.1)) rfl ?_
          exact ml_ret rfl (rfl) (⟨_, _, _, rfl, hR13, (eqI.rf.put f15 (by decide)), eqR.rf⟩)
        · show ml _ _ _ (109, [(0, .ref m0), (1, .int x1)], [], M11) _
          refine ml_st (S' := (110, [(0, .ref m0), (1, .int x1)], [.ref m0], M11)) rfl rfl rfl ?_
          refine rg_int (S' := (113, [(0, .ref m0), (1, .int x1)], [.int (nI kf)], M11)) rfl hR13 rfl ((f15 25 (by decide)).trans (kq25)) rfl ?_
          exact ml_ret rfl (rfl) (⟨_, _, _, rfl, hR13, (eqI.rf.put f15 (by decide)), eqR.rf⟩)
        · show ml _ _ _ (114, [(0, .ref m0), (1, .int x1)], [], M11) _
          refine ml_st (S' := (115, [(0, .ref m0), (1, .int x1)], [.ref m0], M11)) rfl rfl rfl ?_
          refine rg_int (S' := (118, [(0, .ref m0), (1, .int x1)], [.int (nI km)], M11)) rfl hR13 rfl ((f15 26 (by decide)).trans (kq26)) rfl ?_
          exact ml_ret rfl (rfl) (⟨_, _, _, rfl, hR13, (eqI.rf.put f15 (by decide)), eqR.rf⟩)
        · show ml _ _ _ (119, [(0, .ref m0), (1, .int x1)], [], M11) _
          refine ml_st (S' := (120, [(0, .ref m0), (1, .int x1)], [.ref m0], M11)) rfl rfl rfl ?_
          refine rg_int (S' := (123, [(0, .ref m0), (1, .int x1)], [.int ni], M11)) rfl hR13 rfl ((f15 61 (by decide)).trans (kq61)) rfl ?_
          exact ml_ret rfl (rfl) (⟨_, _, _, rfl, hR13, (eqI.rf.put f15 (by decide)), eqR.rf⟩)
        · show ml _ _ _ (124, [(0, .ref m0), (1, .int x1)], [], M11) _
          refine ml_st (S' := (125, [(0, .ref m0), (1, .int x1)], [.ref m0], M11)) rfl rfl rfl ?_
          refine rg_int (S' := (128, [(0, .ref m0), (1, .int x1)], [.int nc], M11)) rfl hR13 rfl ((f15 71 (by decide)).trans (kq71)) rfl ?_
          exact ml_ret rfl (rfl) (⟨_, _, _, rfl, hR13, (eqI.rf.put f15 (by decide)), eqR.rf⟩)
        · show ml _ _ _ (129, [(0, .ref m0), (1, .int x1)], [], M11) _
          refine ml_st (S' := (130, [(0, .ref m0), (1, .int x1)], [.ref m0], M11)) rfl rfl rfl ?_
          refine rg_int (S' := (133, [(0, .ref m0), (1, .int x1)], [.int w66], M11)) rfl hR13 rfl ((f15 66 (by decide)).trans (kq66)) rfl ?_
          exact ml_ret rfl (rfl) (⟨_, _, _, rfl, hR13, (eqI.rf.put f15 (by decide)), eqR.rf⟩)
        · show ml _ _ _ (134, [(0, .ref m0), (1, .int x1)], [], M11) _
          refine ml_st (S' := (135, [(0, .ref m0), (1, .int x1)], [.ref m0], M11)) rfl rfl rfl ?_
          refine rg_int (S' := (138, [(0, .ref m0), (1, .int x1)], [.int nf], M11)) rfl hR13 rfl ((f15 58 (by decide)).trans (kq58)) rfl ?_
          exact ml_ret rfl (rfl) (⟨_, _, _, rfl, hR13, (eqI.rf.put f15 (by decide)), eqR.rf⟩)
        · show ml _ _ _ (139, [(0, .ref m0), (1, .int x1)], [], M11) _
          refine ml_st (S' := (140, [(0, .ref m0), (1, .int x1)], [.ref m0], M11)) rfl rfl rfl ?_
          refine rg_int (S' := (143, [(0, .ref m0), (1, .int x1)], [.int mj], M11)) rfl hR13 rfl ((f15 53 (by decide)).trans (hP0.2.2.1)) rfl ?_
          exact ml_ret rfl (rfl) (⟨_, _, _, rfl, hR13, (eqI.rf.put f15 (by decide)), eqR.rf⟩)
        · show ml _ _ _ (144, [(0, .ref m0), (1, .int x1)], [], M11) _
          refine ml_blk 2 (S' := (146, [(0, .ref m0), (1, .int x1)], [.int 4, .ref m0], M11)) rfl ?_
          have hF26 : FK n f I12 R := (hF0.mono (pIx f15 (by decide)) (fun _ _ => rfl))
          refine ml_call (a := [.ref m0, .int 4]) (rest := []) rfl (hR13.okc rfl rfl rfl) rfl rfl (rm_u2 hR13 hF26 (by decide) (by have : (4 : Int32).toInt = 4 := rfl; omega) (by omega)) (fun v27 M28 h29 => ?_)
          obtain ⟨rfl, h29⟩ := h29
          rw [h29]
          show ml _ _ _ (149, [(0, .ref m0), (1, .int x1)], [.int (f2 f 4)], M11) _
          exact ml_ret rfl (rfl) (⟨_, _, _, rfl, hR13, (eqI.rf.put f15 (by decide)), eqR.rf⟩)
        · show ml _ _ _ (150, [(0, .ref m0), (1, .int x1)], [], M11) _
          have e2 : (hA + 2).toInt = hA.toInt + 2 := i_add (by have : (2 : Int32).toInt = 2 := rfl; omega) (by have : (2 : Int32).toInt = 2 := rfl; omega)
          refine ml_blk 2 (S' := (152, [(0, .ref m0), (1, .int x1)], [.ref m0, .ref m0], M11)) rfl ?_
          refine rg_int (S' := (155, [(0, .ref m0), (1, .int x1)], [.int hA, .ref m0], M11)) rfl hR13 rfl ((f15 54 (by decide)).trans (kq54)) rfl ?_
          refine ml_blk 2 (S' := (157, [(0, .ref m0), (1, .int x1)], [.int (hA + 2), .ref m0], M11)) rfl ?_
          have hF30 : FK n f I12 R := (hF0.mono (pIx f15 (by decide)) (fun _ _ => rfl))
          refine ml_call (a := [.ref m0, .int (hA + 2)]) (rest := []) rfl (hR13.okc rfl rfl rfl) rfl rfl (rm_u2 hR13 hF30 (by omega) (by omega) (by omega)) (fun v31 M32 h33 => ?_)
          obtain ⟨rfl, h33⟩ := h33
          rw [h33]
          show ml _ _ _ (160, [(0, .ref m0), (1, .int x1)], [.int (f2 f (hA + 2))], M11) _
          exact ml_ret rfl (rfl) (⟨_, _, _, rfl, hR13, (eqI.rf.put f15 (by decide)), eqR.rf⟩)
        · show ml _ _ _ (161, [(0, .ref m0), (1, .int x1)], [], M11) _
          have e4 : (hA + 4).toInt = hA.toInt + 4 := i_add (by have : (4 : Int32).toInt = 4 := rfl; omega) (by have : (4 : Int32).toInt = 4 := rfl; omega)
          refine ml_blk 2 (S' := (163, [(0, .ref m0), (1, .int x1)], [.ref m0, .ref m0], M11)) rfl ?_
          refine rg_int (S' := (166, [(0, .ref m0), (1, .int x1)], [.int hA, .ref m0], M11)) rfl hR13 rfl ((f15 54 (by decide)).trans (kq54)) rfl ?_
          refine ml_blk 2 (S' := (168, [(0, .ref m0), (1, .int x1)], [.int (hA + 4), .ref m0], M11)) rfl ?_
          have hF34 : FK n f I12 R := (hF0.mono (pIx f15 (by decide)) (fun _ _ => rfl))
          refine ml_call (a := [.ref m0, .int (hA + 4)]) (rest := []) rfl (hR13.okc rfl rfl rfl) rfl rfl (rm_u2 hR13 hF34 (by omega) (by omega) (by omega)) (fun v35 M36 h37 => ?_)
          obtain ⟨rfl, h37⟩ := h37
          rw [h37]
          show ml _ _ _ (171, [(0, .ref m0), (1, .int x1)], [.int (f2 f (hA + 4))], M11) _
          exact ml_ret rfl (rfl) (⟨_, _, _, rfl, hR13, (eqI.rf.put f15 (by decide)), eqR.rf⟩)
        · show ml _ _ _ (172, [(0, .ref m0), (1, .int x1)], [], M11) _
          refine ml_st (S' := (173, [(0, .ref m0), (1, .int x1)], [.int 0], M11)) rfl rfl rfl ?_
          refine ml_st (S' := (174, [(2, .int 0), (0, .ref m0), (1, .int x1)], [], M11)) rfl rfl rfl ?_
          refine ml_st (S' := (175, [(2, .int 0), (0, .ref m0), (1, .int x1)], [.int 1], M11)) rfl rfl rfl ?_
          refine ml_st (S' := (176, [(0, .ref m0), (2, .int 0), (3, .int 1)], [], M11)) rfl rfl rfl ?_
          have L_176 : ∀ (n_176 : Nat) (i176_2 : Int32) (i176_3 : Int32), (2147483648 - i176_3.toInt).toNat ≤ n_176 → 1 ≤ i176_3.toInt → ml (mT g) d (mb_198 g).2 (176, [(0, .ref m0), (2, .int i176_2), (3, .int i176_3)], [], M11) (fun v M' => ∃ (x : Int32) (I' : rI) (R' : rR), v = some (.int x) ∧ RS g m0 q z I' R' M' ∧ eqI [0] I I' ∧ eqR [] R R') := by
            intro n_176
            induction n_176 with
            | zero => intro i176_2 i176_3 hn; exact (loop_zero hn).elim
            | succ n_176 ih_176 =>
              intro i176_2 i176_3 hn_176 hi_176
              refine ml_blk 2 (S' := (178, [(0, .ref m0), (2, .int i176_2), (3, .int i176_3)], [.ref m0, .int i176_3], M11)) rfl ?_
              refine rg_int (S' := (181, [(0, .ref m0), (2, .int i176_2), (3, .int i176_3)], [.int cp, .int i176_3], M11)) rfl hR13 rfl ((f15 52 (by decide)).trans (hP0.2.1)) rfl ?_
              refine ml_if2 (S1 := (211, [(0, .ref m0), (2, .int i176_2), (3, .int i176_3)], [], M11)) (S2 := (184, [(0, .ref m0), (2, .int i176_2), (3, .int i176_3)], [], M11)) rfl rfl rfl (fun c_181 => ?_) (fun c_181 => ?_)
              · have c_181 : cp ≤ i176_3 := of_decide_eq_true c_181
                refine ml_st (S' := (212, [(0, .ref m0), (2, .int i176_2), (3, .int i176_3)], [.int i176_2], M11)) rfl rfl rfl ?_
                exact ml_ret rfl (rfl) (⟨_, _, _, rfl, hR13, (eqI.rf.put f15 (by decide)), eqR.rf⟩)
              · have c_181 : ¬ (cp ≤ i176_3) := of_decide_eq_false c_181
                refine ml_blk 2 (S' := (186, [(0, .ref m0), (2, .int i176_2), (3, .int i176_3)], [.int i176_3, .ref m0], M11)) rfl ?_
                have hF38 : FK n f I12 R := (hF0.mono (pIx f15 (by decide)) (fun _ _ => rfl))
                have hP39 : PK n f S cp mj pa py I12 R := (hP0.mono (pIx f15 (by decide)) (fun _ _ => rfl))
                refine ml_call (a := [.ref m0, .int i176_3]) (rest := []) rfl (hR13.okc rfl rfl rfl) rfl rfl (rm_tag hR13 hF38 hP39 (by omega)) (fun v40 M41 h42 => ?_)
                obtain ⟨rfl, h42⟩ := h42
                rw [h42]
                show ml _ _ _ (189, [(0, .ref m0), (2, .int i176_2), (3, .int i176_3)], [.int (tgf f cp pa i176_3)], M11) _
                refine ml_st (S' := (190, [(0, .ref m0), (2, .int i176_2), (3, .int i176_3)], [.int 1, .int (tgf f cp pa i176_3)], M11)) rfl rfl rfl ?_
                refine ml_if2 (S1 := (205, [(0, .ref m0), (2, .int i176_2), (3, .int i176_3)], [], M11)) (S2 := (193, [(0, .ref m0), (2, .int i176_2), (3, .int i176_3)], [], M11)) rfl rfl rfl (fun c_190 => ?_) (fun c_190 => ?_)
                · have c_190 : ¬ (tgf f cp pa i176_3) = 1 := of_decide_eq_true c_190
                  refine ml_st (S' := (208, [(3, .int (i176_3 + 1)), (0, .ref m0), (2, .int i176_2)], [], M11)) rfl rfl rfl ?_
                  refine ml_st (S' := (176, [(0, .ref m0), (2, .int i176_2), (3, .int (i176_3 + 1))], [], M11)) rfl rfl rfl ?_
                  exact ih_176 i176_2 (i176_3 + 1) (loop_inc (Int32.not_le.mp c_181) hn_176) (by rw [inc_lt (Int32.not_le.mp c_181)]; omega)
                · have c_190 : ¬ (¬ (tgf f cp pa i176_3) = 1) := of_decide_eq_false c_190
                  refine ml_blk 3 (S' := (196, [(0, .ref m0), (2, .int i176_2), (3, .int i176_3)], [.ref m0, .ref m0, .int i176_2], M11)) rfl ?_
                  refine ml_st (S' := (197, [(0, .ref m0), (2, .int i176_2), (3, .int i176_3)], [.int i176_3, .ref m0, .ref m0, .int i176_2], M11)) rfl rfl rfl ?_
                  refine ml_call (a := [.ref m0, .int i176_3]) (rest := [.ref m0, .int i176_2]) rfl (hR13.okc rfl rfl rfl) rfl rfl (rm_symOf hR13 hP39 (Decidable.not_not.mp c_190) (by omega)) (fun v43 M44 h45 => ?_)
                  obtain ⟨rfl, h45⟩ := h45
                  rw [h45]
                  show ml _ _ _ (200, [(0, .ref m0), (2, .int i176_2), (3, .int i176_3)], [.int (pyf py i176_3), .ref m0, .int i176_2], M11) _
                  have hY46 : SK S cN sa sl ch I12 R := (hY0.mono (pIx f15 (by decide)) (fun _ _ => rfl))
                  refine ml_call (a := [.ref m0, .int (pyf py i176_3)]) (rest := [.int i176_2]) rfl (hR13.okc rfl rfl rfl) rfl rfl (rm_length hR13 hY46 ((hP0.y (Decidable.not_not.mp c_190)).2.2.1) ((hP0.y (Decidable.not_not.mp c_190)).2.2.2) (by omega)) (fun v47 M48 h49 => ?_)
                  obtain ⟨rfl, h49⟩ := h49
                  rw [h49]
                  show ml _ _ _ (203, [(0, .ref m0), (2, .int i176_2), (3, .int i176_3)], [.int (sL sl (pyf py i176_3)), .int i176_2], M11) _
                  refine ml_st (S' := (204, [(0, .ref m0), (2, .int i176_2), (3, .int i176_3)], [.int (i176_2 + (sL sl (pyf py i176_3)))], M11)) rfl rfl rfl ?_
                  refine ml_st (S' := (205, [(0, .ref m0), (2, .int (i176_2 + (sL sl (pyf py i176_3)))), (3, .int i176_3)], [], M11)) rfl rfl rfl ?_
                  refine ml_st (S' := (208, [(3, .int (i176_3 + 1)), (0, .ref m0), (2, .int (i176_2 + (sL sl (pyf py i176_3))))], [], M11)) rfl rfl rfl ?_
                  refine ml_st (S' := (176, [(0, .ref m0), (2, .int (i176_2 + (sL sl (pyf py i176_3)))), (3, .int (i176_3 + 1))], [], M11)) rfl rfl rfl ?_
                  exact ih_176 (i176_2 + (sL sl (pyf py i176_3))) (i176_3 + 1) (loop_inc (Int32.not_le.mp c_181) hn_176) (by rw [inc_lt (Int32.not_le.mp c_181)]; omega)
          exact L_176 _ 0 1 (Nat.le_refl _) (by decide)
        · show ml _ _ _ (213, [(0, .ref m0), (1, .int x1)], [], M11) _
          refine ml_st (S' := (214, [(0, .ref m0), (1, .int x1)], [.ref m0], M11)) rfl rfl rfl ?_
          refine rg_int (S' := (217, [(0, .ref m0), (1, .int x1)], [.int w65], M11)) rfl hR13 rfl ((f15 65 (by decide)).trans (kq65)) rfl ?_
          exact ml_ret rfl (rfl) (⟨_, _, _, rfl, hR13, (eqI.rf.put f15 (by decide)), eqR.rf⟩)
        · show ml _ _ _ (218, [(0, .ref m0), (1, .int x1)], [], M11) _
          refine ml_st (S' := (219, [(0, .ref m0), (1, .int x1)], [.ref m0], M11)) rfl rfl rfl ?_
          refine rg_int (S' := (222, [(0, .ref m0), (1, .int x1)], [.int w68], M11)) rfl hR13 rfl ((f15 68 (by decide)).trans (kq68)) rfl ?_
          exact ml_ret rfl (rfl) (⟨_, _, _, rfl, hR13, (eqI.rf.put f15 (by decide)), eqR.rf⟩)
        · show ml _ _ _ (223, [(0, .ref m0), (1, .int x1)], [], M11) _
          refine ml_st (S' := (224, [(0, .ref m0), (1, .int x1)], [.ref m0], M11)) rfl rfl rfl ?_
          refine rg_int (S' := (227, [(0, .ref m0), (1, .int x1)], [.int w69], M11)) rfl hR13 rfl ((f15 69 (by decide)).trans (kq69)) rfl ?_
          exact ml_ret rfl (rfl) (⟨_, _, _, rfl, hR13, (eqI.rf.put f15 (by decide)), eqR.rf⟩)
        · show ml _ _ _ (228, [(0, .ref m0), (1, .int x1)], [], M11) _
          refine ml_st (S' := (229, [(0, .ref m0), (1, .int x1)], [.ref m0], M11)) rfl rfl rfl ?_
          refine rg_int (S' := (232, [(0, .ref m0), (1, .int x1)], [.int w72], M11)) rfl hR13 rfl ((f15 72 (by decide)).trans (kq72)) rfl ?_
          exact ml_ret rfl (rfl) (⟨_, _, _, rfl, hR13, (eqI.rf.put f15 (by decide)), eqR.rf⟩)
      · have c_24 : ¬ (0 ≤ kn) := of_decide_eq_false c_24
        refine ml_st (S' := (28, [(0, .ref m0), (1, .int x1)], [.int (-1)], M11)) rfl rfl rfl ?_
        exact ml_ret rfl (rfl) (⟨_, _, _, rfl, hR13, (eqI.rf.put f15 (by decide)), eqR.rf⟩)
    · have c_12 : ¬ (x1 ≤ 15) := of_decide_eq_false c_12
      refine ml_st (S' := (16, [(0, .ref m0)], [.ref m0], M11)) rfl rfl rfl ?_
      refine ml_call (a := [.ref m0]) (rest := []) rfl (hR13.okc rfl rfl rfl) rfl rfl (rm_bad hR13 (by omega)) (fun v50 M51 h52 => ?_)
      obtain ⟨u58, I53, R54, rfl, hR55, hI56, hV57, w59⟩ := h52
      show ml _ _ _ (19, [(0, .ref m0)], [.int u58], M51) _
      exact ml_ret rfl (rfl) (⟨_, _, _, rfl, hR55, ((eqI.rf.put f15 (by decide)).tr hI56 (by decide)), (eqR.rf.tr hV57 (by decide))⟩)
set_option maxHeartbeats 2000000 in
theorem rm_entry {g : xe_G}  {m0 : Nat} {q : Nat → Nat} {z : Nat × Nat} {I : rI} {R : rR} {M : mi_H} {x1 x2 kn : Int32} {n : Nat} {f : Nat → Int32}  (hR : RS g m0 q z I R M) (hk18 : I 18 = some kn) (hG : (kn < 0 ∨ GD n f I R)) {d : Nat} (hd : 4 ≤ d) : mt (mT g) d 204 [.ref m0, .int x1, .int x2] M (fun v M' => ∃ (x : Int32) (I' : rI) (R' : rR), v = some (.int x) ∧ RS g m0 q z I' R' M' ∧ eqI [0] I I' ∧ eqR [] R R') := by
  obtain ⟨d, rfl⟩ : ∃ e, d = e + 1 := ⟨d - 1, by omega⟩
  refine mt_in (b := mb_204 g) rfl rfl ?_
  show ml (mT g) d (mb_204 g).2 (0, [(0, .ref m0), (1, .int x1), (2, .int x2)], [], M) _
  refine ml_blk 2 (S' := (2, [(0, .ref m0), (1, .int x1), (2, .int x2)], [.int 0, .ref m0], M)) rfl ?_
  refine rp_int rfl hR rfl (fun M11 I12 hR13 e14 f15 => ?_)
  show ml _ _ _ (5, [(0, .ref m0), (1, .int x1), (2, .int x2)], [], M11) _
  refine ml_st (S' := (6, [(0, .ref m0), (1, .int x1), (2, .int x2)], [.int x2], M11)) rfl rfl rfl ?_
  refine ml_if (S1 := (14, [(0, .ref m0)], [], M11)) (S2 := (9, [(0, .ref m0), (1, .int x1), (2, .int x2)], [], M11)) rfl rfl rfl (fun c_6 => ?_) (fun c_6 => ?_)
  · have c_6 : x2 < 0 := of_decide_eq_true c_6
    refine ml_st (S' := (15, [(0, .ref m0)], [.ref m0], M11)) rfl rfl rfl ?_
    refine ml_call (a := [.ref m0]) (rest := []) rfl (hR13.okc rfl rfl rfl) rfl rfl (rm_bad hR13 (by omega)) (fun v16 M17 h18 => ?_)
    obtain ⟨u24, I19, R20, rfl, hR21, hI22, hV23, w25⟩ := h18
    show ml _ _ _ (18, [(0, .ref m0)], [.int u24], M17) _
    exact ml_ret rfl (rfl) (⟨_, _, _, rfl, hR21, ((eqI.rf.put f15 (by decide)).tr hI22 (by decide)), (eqR.rf.tr hV23 (by decide))⟩)
  · have c_6 : ¬ (x2 < 0) := of_decide_eq_false c_6
    refine ml_blk 2 (S' := (11, [(0, .ref m0), (1, .int x1), (2, .int x2)], [.int 2, .int x2], M11)) rfl ?_
    refine ml_if2 (S1 := (19, [(0, .ref m0), (1, .int x1), (2, .int x2)], [], M11)) (S2 := (14, [(0, .ref m0)], [], M11)) rfl rfl rfl (fun c_11 => ?_) (fun c_11 => ?_)
    · have c_11 : x2 ≤ 2 := of_decide_eq_true c_11
      refine ml_st (S' := (20, [(0, .ref m0), (1, .int x1), (2, .int x2)], [.ref m0], M11)) rfl rfl rfl ?_
      refine rg_int (S' := (23, [(0, .ref m0), (1, .int x1), (2, .int x2)], [.int kn], M11)) rfl hR13 rfl ((f15 18 (by decide)).trans (hk18)) rfl ?_
      refine ml_if (S1 := (38, [], [], M11)) (S2 := (26, [(0, .ref m0), (1, .int x1), (2, .int x2)], [], M11)) rfl rfl rfl (fun c_23 => ?_) (fun c_23 => ?_)
      · have c_23 : kn < 0 := of_decide_eq_true c_23
        refine ml_st (S' := (39, [], [.int (-1)], M11)) rfl rfl rfl ?_
        exact ml_ret rfl (rfl) (⟨_, _, _, rfl, hR13, (eqI.rf.put f15 (by decide)), eqR.rf⟩)
      · have c_23 : ¬ (kn < 0) := of_decide_eq_false c_23
        obtain ⟨S, cN, sa, sl, ch, cp, mj, pa, py, hA, fA, mA, aA, nf, ni, kf, km, hF0, hY0, hP0, hE0, hFO, kq54, kq58, kq61, hkf, kq25, hfk, hkm, kq26, hmk, hNW⟩ := hG.resolve_left (c_23)
        have hn := hF0.1
        refine ml_st (S' := (27, [(0, .ref m0), (1, .int x1), (2, .int x2)], [.int x1], M11)) rfl rfl rfl ?_
        refine ml_if (S1 := (38, [], [], M11)) (S2 := (30, [(0, .ref m0), (1, .int x1), (2, .int x2)], [], M11)) rfl rfl rfl (fun c_27 => ?_) (fun c_27 => ?_)
        · have c_27 : x1 < 0 := of_decide_eq_true c_27
          refine ml_st (S' := (39, [], [.int (-1)], M11)) rfl rfl rfl ?_
          exact ml_ret rfl (rfl) (⟨_, _, _, rfl, hR13, (eqI.rf.put f15 (by decide)), eqR.rf⟩)
        · have c_27 : ¬ (x1 < 0) := of_decide_eq_false c_27
          refine ml_blk 2 (S' := (32, [(0, .ref m0), (1, .int x1), (2, .int x2)], [.ref m0, .int x1], M11)) rfl ?_
          refine rg_int (S' := (35, [(0, .ref m0), (1, .int x1), (2, .int x2)], [.int cp, .int x1], M11)) rfl hR13 rfl ((f15 52 (by decide)).trans (hP0.2.1)) rfl ?_
          refine ml_if2 (S1 := (40, [(0, .ref m0), (1, .int x1), (2, .int x2)], [], M11)) (S2 := (38, [], [], M11)) rfl rfl rfl (fun c_35 => ?_) (fun c_35 => ?_)
          · have c_35 : x1 < cp := of_decide_eq_true c_35
            refine ml_blk 2 (S' := (42, [(0, .ref m0), (1, .int x1), (2, .int x2)], [.int x1, .ref m0], M11)) rfl ?_
            have hF26 : FK n f I12 R := (hF0.mono (pIx f15 (by decide)) (fun _ _ => rfl))
            have hP27 : PK n f S cp mj pa py I12 R := (hP0.mono (pIx f15 (by decide)) (fun _ _ => rfl))
            refine ml_call (a := [.ref m0, .int x1]) (rest := []) rfl (hR13.okc rfl rfl rfl) rfl rfl (rm_tag hR13 hF26 hP27 (by omega)) (fun v28 M29 h30 => ?_)
            obtain ⟨rfl, h30⟩ := h30
            rw [h30]
            show ml _ _ _ (45, [(0, .ref m0), (1, .int x1), (2, .int x2)], [.int (tgf f cp pa x1)], M11) _
            refine ml_st (S' := (46, [(3, .int (tgf f cp pa x1)), (0, .ref m0), (1, .int x1), (2, .int x2)], [], M11)) rfl rfl rfl ?_
            refine ml_st (S' := (47, [(3, .int (tgf f cp pa x1)), (0, .ref m0), (1, .int x1), (2, .int x2)], [.int x2], M11)) rfl rfl rfl ?_
            refine ml_if (S1 := (52, [(3, .int (tgf f cp pa x1)), (0, .ref m0), (1, .int x1), (2, .int x2)], [], M11)) (S2 := (50, [(3, .int (tgf f cp pa x1)), (0, .ref m0), (1, .int x1), (2, .int x2)], [], M11)) rfl rfl rfl (fun c_47 => ?_) (fun c_47 => ?_)
            · have c_47 : ¬ x2 = 0 := of_decide_eq_true c_47
              refine ml_blk 2 (S' := (55, [(3, .int (tgf f cp pa x1)), (0, .ref m0), (1, .int x1), (2, .int x2)], [.int 15, .int (tgf f cp pa x1)], M11)) rfl ?_
              refine ml_if2 (S1 := (85, [(3, .int (tgf f cp pa x1)), (0, .ref m0), (1, .int x1), (2, .int x2)], [], M11)) (S2 := (58, [(3, .int (tgf f cp pa x1)), (0, .ref m0), (1, .int x1), (2, .int x2)], [], M11)) rfl rfl rfl (fun c_55 => ?_) (fun c_55 => ?_)
              · have c_55 : ¬ (tgf f cp pa x1) = 15 := of_decide_eq_true c_55
                refine ml_blk 2 (S' := (88, [(3, .int (tgf f cp pa x1)), (0, .ref m0), (1, .int x1), (2, .int x2)], [.int 7, .int (tgf f cp pa x1)], M11)) rfl ?_
                have J_115 : (tgf f cp pa x1 = 7 ∨ tgf f cp pa x1 = 8 ∨ tgf f cp pa x1 = 16 ∨ tgf f cp pa x1 = 19 ∨ tgf f cp pa x1 = 20) → ml (mT g) d (mb_204 g).2 (115, [(0, .ref m0), (1, .int x1), (2, .int x2)], [], M11) (fun v M' => ∃ (x : Int32) (I' : rI) (R' : rR), v = some (.int x) ∧ RS g m0 q z I' R' M' ∧ eqI [0] I I' ∧ eqR [] R R') := by
                  intro hj_115
                  have h7 := hP0.tg (rfl : tgf f cp pa x1 = _) (fun e => by rcases hj_115 with h | h | h | h | h <;> rw [h] at e <;> exact absurd e (by decide))
                  have q7 : (pa (Int32.toNatClampNeg x1)).toInt + 3 ≤ n := by have q := h7.2.2.2.2; rcases hj_115 with h | h | h | h | h <;> rw [h] at q <;> exact q
                  refine ml_blk 2 (S' := (117, [(0, .ref m0), (1, .int x1), (2, .int x2)], [.int 1, .int x2], M11)) rfl ?_
                  refine ml_if2 (S1 := (129, [(0, .ref m0), (1, .int x1), (2, .int x2)], [], M11)) (S2 := (120, [(0, .ref m0), (1, .int x1), (2, .int x2)], [], M11)) rfl rfl rfl (fun c_117 => ?_) (fun c_117 => ?_)
                  · have c_117 : ¬ x2 = 1 := of_decide_eq_true c_117
                    refine ml_st (S' := (130, [], [.int 0], M11)) rfl rfl rfl ?_
                    exact ml_ret rfl (rfl) (⟨_, _, _, rfl, hR13, (eqI.rf.put f15 (by decide)), eqR.rf⟩)
                  · have c_117 : ¬ (¬ x2 = 1) := of_decide_eq_false c_117
                    refine ml_blk 3 (S' := (123, [(0, .ref m0), (1, .int x1), (2, .int x2)], [.int 1, .int x1, .ref m0], M11)) rfl ?_
                    refine ml_call (a := [.ref m0, .int x1, .int 1]) (rest := []) rfl (hR13.okc rfl rfl rfl) rfl rfl (rm_index hR13 hF26 hP27 (h7.1) (h7.2.1) (h7.2.2.1) (by decide) (by have : (1 : Int32).toInt = 1 := rfl; omega) (by omega)) (fun v31 M32 h33 => ?_)
                    obtain ⟨rfl, h33⟩ := h33
                    rw [h33]
                    show ml _ _ _ (126, [(0, .ref m0), (1, .int x1), (2, .int x2)], [.int (ixf f pa x1 1)], M11) _
                    refine ml_st (S' := (130, [], [.int (ixf f pa x1 1)], M11)) rfl rfl rfl ?_
                    exact ml_ret rfl (rfl) (⟨_, _, _, rfl, hR13, (eqI.rf.put f15 (by decide)), eqR.rf⟩)
                refine ml_if2 (S1 := (115, [(0, .ref m0), (1, .int x1), (2, .int x2)], [], M11)) (S2 := (91, [(3, .int (tgf f cp pa x1)), (0, .ref m0), (1, .int x1), (2, .int x2)], [], M11)) rfl rfl rfl (fun c_88 => ?_) (fun c_88 => ?_)
                · have c_88 : (tgf f cp pa x1) = 7 := of_decide_eq_true c_88
                  exact J_115  (Or.inl c_88)
                · have c_88 : ¬ ((tgf f cp pa x1) = 7) := of_decide_eq_false c_88
                  refine ml_blk 2 (S' := (94, [(3, .int (tgf f cp pa x1)), (0, .ref m0), (1, .int x1), (2, .int x2)], [.int 8, .int (tgf f cp pa x1)], M11)) rfl ?_
                  refine ml_if2 (S1 := (115, [(0, .ref m0), (1, .int x1), (2, .int x2)], [], M11)) (S2 := (97, [(3, .int (tgf f cp pa x1)), (0, .ref m0), (1, .int x1), (2, .int x2)], [], M11)) rfl rfl rfl (fun c_94 => ?_) (fun c_94 => ?_)
                  · have c_94 : (tgf f cp pa x1) = 8 := of_decide_eq_true c_94
                    exact J_115  (Or.inr (Or.inl c_94))
                  · have c_94 : ¬ ((tgf f cp pa x1) = 8) := of_decide_eq_false c_94
                    refine ml_blk 2 (S' := (100, [(3, .int (tgf f cp pa x1)), (0, .ref m0), (1, .int x1), (2, .int x2)], [.int 16, .int (tgf f cp pa x1)], M11)) rfl ?_
                    refine ml_if2 (S1 := (115, [(0, .ref m0), (1, .int x1), (2, .int x2)], [], M11)) (S2 := (103, [(3, .int (tgf f cp pa x1)), (0, .ref m0), (1, .int x1), (2, .int x2)], [], M11)) rfl rfl rfl (fun c_100 => ?_) (fun c_100 => ?_)
                    · have c_100 : (tgf f cp pa x1) = 16 := of_decide_eq_true c_100
                      exact J_115  (Or.inr (Or.inr (Or.inl c_100)))
                    · have c_100 : ¬ ((tgf f cp pa x1) = 16) := of_decide_eq_false c_100
                      refine ml_blk 2 (S' := (106, [(3, .int (tgf f cp pa x1)), (0, .ref m0), (1, .int x1), (2, .int x2)], [.int 19, .int (tgf f cp pa x1)], M11)) rfl ?_
                      refine ml_if2 (S1 := (115, [(0, .ref m0), (1, .int x1), (2, .int x2)], [], M11)) (S2 := (109, [(3, .int (tgf f cp pa x1)), (0, .ref m0), (1, .int x1), (2, .int x2)], [], M11)) rfl rfl rfl (fun c_106 => ?_) (fun c_106 => ?_)
                      · have c_106 : (tgf f cp pa x1) = 19 := of_decide_eq_true c_106
                        exact J_115  (Or.inr (Or.inr (Or.inr (Or.inl c_106))))
                      · have c_106 : ¬ ((tgf f cp pa x1) = 19) := of_decide_eq_false c_106
                        refine ml_blk 2 (S' := (112, [(3, .int (tgf f cp pa x1)), (0, .ref m0), (1, .int x1), (2, .int x2)], [.int 20, .int (tgf f cp pa x1)], M11)) rfl ?_
                        refine ml_if2 (S1 := (131, [(3, .int (tgf f cp pa x1)), (0, .ref m0), (1, .int x1), (2, .int x2)], [], M11)) (S2 := (115, [(0, .ref m0), (1, .int x1), (2, .int x2)], [], M11)) rfl rfl rfl (fun c_112 => ?_) (fun c_112 => ?_)
                        · have c_112 : ¬ (tgf f cp pa x1) = 20 := of_decide_eq_true c_112
                          refine ml_blk 2 (S' := (134, [(3, .int (tgf f cp pa x1)), (0, .ref m0), (1, .int x1), (2, .int x2)], [.int 9, .int (tgf f cp pa x1)], M11)) rfl ?_
                          have J_155 : (esz (tgf f cp pa x1) = 5 ∧ tgf f cp pa x1 ≠ 0) → ml (mT g) d (mb_204 g).2 (155, [(0, .ref m0), (1, .int x1), (2, .int x2)], [], M11) (fun v M' => ∃ (x : Int32) (I' : rI) (R' : rR), v = some (.int x) ∧ RS g m0 q z I' R' M' ∧ eqI [0] I I' ∧ eqR [] R R') := by
                            intro hj_155
                            have h9 := hP0.tg (rfl : tgf f cp pa x1 = _) hj_155.2
                            have q9 : (pa (Int32.toNatClampNeg x1)).toInt + 5 ≤ n := by have q := h9.2.2.2.2; rw [hj_155.1] at q; exact q
                            refine ml_blk 3 (S' := (158, [(0, .ref m0), (1, .int x1), (2, .int x2)], [.int x2, .int x1, .ref m0], M11)) rfl ?_
                            refine ml_st (S' := (159, [(0, .ref m0), (1, .int x1), (2, .int x2)], [.int 1, .int x2, .int x1, .ref m0], M11)) rfl rfl rfl ?_
                            refine ml_if2 (S1 := (166, [(0, .ref m0), (1, .int x1), (2, .int x2)], [.int x1, .ref m0], M11)) (S2 := (162, [(0, .ref m0), (1, .int x1), (2, .int x2)], [.int x1, .ref m0], M11)) rfl rfl rfl (fun c_159 => ?_) (fun c_159 => ?_)
                            · have c_159 : ¬ x2 = 1 := of_decide_eq_true c_159
                              refine ml_st (S' := (167, [], [.int 3, .int x1, .ref m0], M11)) rfl rfl rfl ?_
                              refine ml_call (a := [.ref m0, .int x1, .int 3]) (rest := []) rfl (hR13.okc rfl rfl rfl) rfl rfl (rm_index hR13 hF26 hP27 (h9.1) (h9.2.1) (h9.2.2.1) (by decide) (by have : (3 : Int32).toInt = 3 := rfl; omega) (by omega)) (fun v34 M35 h36 => ?_)
                              obtain ⟨rfl, h36⟩ := h36
                              rw [h36]
                              show ml _ _ _ (170, [], [.int (ixf f pa x1 3)], M11) _
                              exact ml_ret rfl (rfl) (⟨_, _, _, rfl, hR13, (eqI.rf.put f15 (by decide)), eqR.rf⟩)
                            · have c_159 : ¬ (¬ x2 = 1) := of_decide_eq_false c_159
                              refine ml_st (S' := (163, [(0, .ref m0), (1, .int x1), (2, .int x2)], [.int 1, .int x1, .ref m0], M11)) rfl rfl rfl ?_
                              refine ml_st (S' := (167, [], [.int 1, .int x1, .ref m0], M11)) rfl rfl rfl ?_
                              refine ml_call (a := [.ref m0, .int x1, .int 1]) (rest := []) rfl (hR13.okc rfl rfl rfl) rfl rfl (rm_index hR13 hF26 hP27 (h9.1) (h9.2.1) (h9.2.2.1) (by decide) (by have : (1 : Int32).toInt = 1 := rfl; omega) (by omega)) (fun v37 M38 h39 => ?_)
                              obtain ⟨rfl, h39⟩ := h39
                              rw [h39]
                              show ml _ _ _ (170, [], [.int (ixf f pa x1 1)], M11) _
                              exact ml_ret rfl (rfl) (⟨_, _, _, rfl, hR13, (eqI.rf.put f15 (by decide)), eqR.rf⟩)
                          have J_143 : ml (mT g) d (mb_204 g).2 (143, [(0, .ref m0), (1, .int x1), (2, .int x2), (3, .int (tgf f cp pa x1))], [], M11) (fun v M' => ∃ (x : Int32) (I' : rI) (R' : rR), v = some (.int x) ∧ RS g m0 q z I' R' M' ∧ eqI [0] I I' ∧ eqR [] R R') := by
                            refine ml_blk 2 (S' := (146, [(0, .ref m0), (1, .int x1), (2, .int x2), (3, .int (tgf f cp pa x1))], [.int 17, .int (tgf f cp pa x1)], M11)) rfl ?_
                            refine ml_if2 (S1 := (155, [(0, .ref m0), (1, .int x1), (2, .int x2)], [], M11)) (S2 := (149, [(0, .ref m0), (1, .int x1), (2, .int x2), (3, .int (tgf f cp pa x1))], [], M11)) rfl rfl rfl (fun c_146 => ?_) (fun c_146 => ?_)
                            · have c_146 : (tgf f cp pa x1) = 17 := of_decide_eq_true c_146
                              exact J_155  (by rw [c_146]; decide)
                            · have c_146 : ¬ ((tgf f cp pa x1) = 17) := of_decide_eq_false c_146
                              refine ml_blk 2 (S' := (152, [(0, .ref m0), (1, .int x1), (2, .int x2), (3, .int (tgf f cp pa x1))], [.int 18, .int (tgf f cp pa x1)], M11)) rfl ?_
                              refine ml_if2 (S1 := (171, [(0, .ref m0), (1, .int x1), (2, .int x2), (3, .int (tgf f cp pa x1))], [], M11)) (S2 := (155, [(0, .ref m0), (1, .int x1), (2, .int x2)], [], M11)) rfl rfl rfl (fun c_152 => ?_) (fun c_152 => ?_)
                              · have c_152 : ¬ (tgf f cp pa x1) = 18 := of_decide_eq_true c_152
                                refine ml_st (S' := (172, [(0, .ref m0), (1, .int x1), (2, .int x2), (3, .int (tgf f cp pa x1))], [.int 0], M11)) rfl rfl rfl ?_
                                exact ml_ret rfl (rfl) (⟨_, _, _, rfl, hR13, (eqI.rf.put f15 (by decide)), eqR.rf⟩)
                              · have c_152 : ¬ (¬ (tgf f cp pa x1) = 18) := of_decide_eq_false c_152
                                exact J_155  (by rw [show tgf f cp pa x1 = 18 from Decidable.not_not.mp c_152]; decide)
                          refine ml_if2 (S1 := (143, [(0, .ref m0), (1, .int x1), (2, .int x2), (3, .int (tgf f cp pa x1))], [], M11)) (S2 := (137, [(3, .int (tgf f cp pa x1)), (0, .ref m0), (1, .int x1), (2, .int x2)], [], M11)) rfl rfl rfl (fun c_134 => ?_) (fun c_134 => ?_)
                          · have c_134 : (tgf f cp pa x1) < 9 := of_decide_eq_true c_134
                            exact J_143 
                          · have c_134 : ¬ ((tgf f cp pa x1) < 9) := of_decide_eq_false c_134
                            refine ml_blk 2 (S' := (140, [(3, .int (tgf f cp pa x1)), (0, .ref m0), (1, .int x1), (2, .int x2)], [.int 12, .int (tgf f cp pa x1)], M11)) rfl ?_
                            refine ml_if2 (S1 := (155, [(0, .ref m0), (1, .int x1), (2, .int x2)], [], M11)) (S2 := (143, [(0, .ref m0), (1, .int x1), (2, .int x2), (3, .int (tgf f cp pa x1))], [], M11)) rfl rfl rfl (fun c_140 => ?_) (fun c_140 => ?_)
                            · have c_140 : (tgf f cp pa x1) ≤ 12 := of_decide_eq_true c_140
                              exact J_155  (esz_mid c_134 c_140)
                            · have c_140 : ¬ ((tgf f cp pa x1) ≤ 12) := of_decide_eq_false c_140
                              exact J_143 
                        · have c_112 : ¬ (¬ (tgf f cp pa x1) = 20) := of_decide_eq_false c_112
                          exact J_115  (Or.inr (Or.inr (Or.inr (Or.inr (Decidable.not_not.mp c_112)))))
              · have c_55 : ¬ (¬ (tgf f cp pa x1) = 15) := of_decide_eq_false c_55
                have h15 := hP0.tg (Decidable.not_not.mp c_55) (by decide)
                have q15 : (pa (Int32.toNatClampNeg x1)).toInt + 4 ≤ n := h15.2.2.2.2
                have e1 : ((pa (Int32.toNatClampNeg x1)) + 1).toInt = (pa (Int32.toNatClampNeg x1)).toInt + 1 := i_add (by have : (1 : Int32).toInt = 1 := rfl; omega) (by have : (1 : Int32).toInt = 1 := rfl; omega)
                refine ml_blk 2 (S' := (60, [(3, .int (tgf f cp pa x1)), (0, .ref m0), (1, .int x1), (2, .int x2)], [.int 1, .int x2], M11)) rfl ?_
                refine ml_if2 (S1 := (78, [(3, .int (tgf f cp pa x1)), (0, .ref m0), (1, .int x1), (2, .int x2)], [], M11)) (S2 := (63, [(3, .int (tgf f cp pa x1)), (0, .ref m0), (1, .int x1), (2, .int x2)], [], M11)) rfl rfl rfl (fun c_60 => ?_) (fun c_60 => ?_)
                · have c_60 : ¬ x2 = 1 := of_decide_eq_true c_60
                  refine ml_blk 3 (S' := (81, [(3, .int (tgf f cp pa x1)), (0, .ref m0), (1, .int x1), (2, .int x2)], [.int 2, .int x1, .ref m0], M11)) rfl ?_
                  refine ml_call (a := [.ref m0, .int x1, .int 2]) (rest := []) rfl (hR13.okc rfl rfl rfl) rfl rfl (rm_index hR13 hF26 hP27 (h15.1) (h15.2.1) (h15.2.2.1) (by decide) (by have : (2 : Int32).toInt = 2 := rfl; omega) (by omega)) (fun v40 M41 h42 => ?_)
                  obtain ⟨rfl, h42⟩ := h42
                  rw [h42]
                  show ml _ _ _ (84, [], [.int (ixf f pa x1 2)], M11) _
                  exact ml_ret rfl (rfl) (⟨_, _, _, rfl, hR13, (eqI.rf.put f15 (by decide)), eqR.rf⟩)
                · have c_60 : ¬ (¬ x2 = 1) := of_decide_eq_false c_60
                  refine ml_blk 2 (S' := (65, [(3, .int (tgf f cp pa x1)), (0, .ref m0), (1, .int x1), (2, .int x2)], [.ref m0, .ref m0], M11)) rfl ?_
                  refine rg_ref (S' := (68, [(3, .int (tgf f cp pa x1)), (0, .ref m0), (1, .int x1), (2, .int x2)], [.ref (q 21), .ref m0], M11)) rfl hR13 rfl rfl ?_
                  refine ml_st (S' := (69, [(3, .int (tgf f cp pa x1)), (0, .ref m0), (1, .int x1), (2, .int x2)], [.int x1, .ref (q 21), .ref m0], M11)) rfl rfl rfl ?_
                  refine ra_ld (k := 21) (S' := (70, [(3, .int (tgf f cp pa x1)), (0, .ref m0), (1, .int x1), (2, .int x2)], [.int (pa (Int32.toNatClampNeg x1)), .ref m0], M11)) rfl hR13 rfl (by have q := (hP0.e h15.1 h15.2.1).2.1; rwa [Int32.zero_add] at q) (by have q := (hP0.e h15.1 h15.2.1).1; rwa [Int32.zero_add] at q) rfl ?_
                  refine ml_blk 2 (S' := (72, [(3, .int (tgf f cp pa x1)), (0, .ref m0), (1, .int x1), (2, .int x2)], [.int ((pa (Int32.toNatClampNeg x1)) + 1), .ref m0], M11)) rfl ?_
                  refine ml_call (a := [.ref m0, .int ((pa (Int32.toNatClampNeg x1)) + 1)]) (rest := []) rfl (hR13.okc rfl rfl rfl) rfl rfl (rm_u1 hR13 hF26 (by omega) (by omega) (by omega)) (fun v43 M44 h45 => ?_)
                  obtain ⟨rfl, h45⟩ := h45
                  rw [h45]
                  show ml _ _ _ (75, [(3, .int (tgf f cp pa x1)), (0, .ref m0), (1, .int x1), (2, .int x2)], [.int (f1 f ((pa (Int32.toNatClampNeg x1)) + 1))], M11) _
                  refine ml_st (S' := (84, [], [.int (f1 f ((pa (Int32.toNatClampNeg x1)) + 1))], M11)) rfl rfl rfl ?_
                  exact ml_ret rfl (rfl) (⟨_, _, _, rfl, hR13, (eqI.rf.put f15 (by decide)), eqR.rf⟩)
            · have c_47 : ¬ (¬ x2 = 0) := of_decide_eq_false c_47
              refine ml_st (S' := (51, [(3, .int (tgf f cp pa x1)), (0, .ref m0), (1, .int x1), (2, .int x2)], [.int (tgf f cp pa x1)], M11)) rfl rfl rfl ?_
              exact ml_ret rfl (rfl) (⟨_, _, _, rfl, hR13, (eqI.rf.put f15 (by decide)), eqR.rf⟩)
          · have c_35 : ¬ (x1 < cp) := of_decide_eq_false c_35
            refine ml_st (S' := (39, [], [.int (-1)], M11)) rfl rfl rfl ?_
            exact ml_ret rfl (rfl) (⟨_, _, _, rfl, hR13, (eqI.rf.put f15 (by decide)), eqR.rf⟩)
    · have c_11 : ¬ (x2 ≤ 2) := of_decide_eq_false c_11
      refine ml_st (S' := (15, [(0, .ref m0)], [.ref m0], M11)) rfl rfl rfl ?_
      refine ml_call (a := [.ref m0]) (rest := []) rfl (hR13.okc rfl rfl rfl) rfl rfl (rm_bad hR13 (by omega)) (fun v46 M47 h48 => ?_)
      obtain ⟨u54, I49, R50, rfl, hR51, hI52, hV53, w55⟩ := h48
      show ml _ _ _ (18, [(0, .ref m0)], [.int u54], M47) _
      exact ml_ret rfl (rfl) (⟨_, _, _, rfl, hR51, ((eqI.rf.put f15 (by decide)).tr hI52 (by decide)), (eqR.rf.tr hV53 (by decide))⟩)
set_option maxHeartbeats 2000000 in
theorem rm_bits {g : xe_G}  {m0 : Nat} {q : Nat → Nat} {z : Nat × Nat} {I : rI} {R : rR} {M : mi_H} {x1 kn : Int32} {n : Nat} {f : Nat → Int32}  (hR : RS g m0 q z I R M) (hk18 : I 18 = some kn) (hG : (kn < 0 ∨ GD n f I R)) {d : Nat} (hd : 4 ≤ d) : mt (mT g) d 183 [.ref m0, .int x1] M (fun v M' => ∃ (x : Int64) (I' : rI) (R' : rR), v = some (.long x) ∧ RS g m0 q z I' R' M' ∧ eqI [0] I I' ∧ eqR [] R R') := by
  obtain ⟨d, rfl⟩ : ∃ e, d = e + 1 := ⟨d - 1, by omega⟩
  refine mt_in (b := mb_183 g) rfl rfl ?_
  show ml (mT g) d (mb_183 g).2 (0, [(0, .ref m0), (1, .int x1)], [], M) _
  refine ml_blk 2 (S' := (2, [(0, .ref m0), (1, .int x1)], [.int 0, .ref m0], M)) rfl ?_
  refine rp_int rfl hR rfl (fun M11 I12 hR13 e14 f15 => ?_)
  show ml _ _ _ (5, [(0, .ref m0), (1, .int x1)], [], M11) _
  refine ml_st (S' := (6, [(0, .ref m0), (1, .int x1)], [.ref m0], M11)) rfl rfl rfl ?_
  refine rg_int (S' := (9, [(0, .ref m0), (1, .int x1)], [.int kn], M11)) rfl hR13 rfl ((f15 18 (by decide)).trans (hk18)) rfl ?_
  refine ml_if (S1 := (14, [(0, .ref m0), (1, .int x1)], [], M11)) (S2 := (12, [(0, .ref m0), (1, .int x1)], [], M11)) rfl rfl rfl (fun c_9 => ?_) (fun c_9 => ?_)
  · have c_9 : 0 ≤ kn := of_decide_eq_true c_9
    obtain ⟨S, cN, sa, sl, ch, cp, mj, pa, py, hA, fA, mA, aA, nf, ni, kf, km, hF0, hY0, hP0, hE0, hFO, kq54, kq58, kq61, hkf, kq25, hfk, hkm, kq26, hmk, hNW⟩ := hG.resolve_left (Int32.not_lt.mpr c_9)
    have hn := hF0.1
    refine ml_blk 2 (S' := (16, [(0, .ref m0), (1, .int x1)], [.int x1, .ref m0], M11)) rfl ?_
    have hF16 : FK n f I12 R := (hF0.mono (pIx f15 (by decide)) (fun _ _ => rfl))
    have hP17 : PK n f S cp mj pa py I12 R := (hP0.mono (pIx f15 (by decide)) (fun _ _ => rfl))
    refine ml_call (a := [.ref m0, .int x1]) (rest := []) rfl (hR13.okc rfl rfl rfl) rfl rfl (rm_tag hR13 hF16 hP17 (by omega)) (fun v18 M19 h20 => ?_)
    obtain ⟨rfl, h20⟩ := h20
    rw [h20]
    show ml _ _ _ (19, [(0, .ref m0), (1, .int x1)], [.int (tgf f cp pa x1)], M11) _
    refine ml_st (S' := (20, [(2, .int (tgf f cp pa x1)), (0, .ref m0), (1, .int x1)], [], M11)) rfl rfl rfl ?_
    refine ml_blk 2 (S' := (22, [(2, .int (tgf f cp pa x1)), (0, .ref m0), (1, .int x1)], [.int 3, .int (tgf f cp pa x1)], M11)) rfl ?_
    have J_30 : (tgf f cp pa x1 = 3 ∨ tgf f cp pa x1 = 4) → ml (mT g) d (mb_183 g).2 (30, [(0, .ref m0), (1, .int x1)], [], M11) (fun v M' => ∃ (x : Int64) (I' : rI) (R' : rR), v = some (.long x) ∧ RS g m0 q z I' R' M' ∧ eqI [0] I I' ∧ eqR [] R R') := by
      intro hj_30
      have h3 := hP0.tg (rfl : tgf f cp pa x1 = _) (fun e => by rcases hj_30 with h | h <;> rw [h] at e <;> exact absurd e (by decide))
      have q3 : (pa (Int32.toNatClampNeg x1)).toInt + 5 ≤ n := by have q := h3.2.2.2.2; rcases hj_30 with h | h <;> rw [h] at q <;> exact q
      have e1 : ((pa (Int32.toNatClampNeg x1)) + 1).toInt = (pa (Int32.toNatClampNeg x1)).toInt + 1 := i_add (by have : (1 : Int32).toInt = 1 := rfl; omega) (by have : (1 : Int32).toInt = 1 := rfl; omega)
      refine ml_blk 2 (S' := (32, [(0, .ref m0), (1, .int x1)], [.ref m0, .ref m0], M11)) rfl ?_
      refine rg_ref (S' := (35, [(0, .ref m0), (1, .int x1)], [.ref (q 21), .ref m0], M11)) rfl hR13 rfl rfl ?_
      refine ml_st (S' := (36, [(0, .ref m0), (1, .int x1)], [.int x1, .ref (q 21), .ref m0], M11)) rfl rfl rfl ?_
      refine ra_ld (k := 21) (S' := (37, [(0, .ref m0), (1, .int x1)], [.int (pa (Int32.toNatClampNeg x1)), .ref m0], M11)) rfl hR13 rfl (by have q := (hP0.e h3.1 h3.2.1).2.1; rwa [Int32.zero_add] at q) (by have q := (hP0.e h3.1 h3.2.1).1; rwa [Int32.zero_add] at q) rfl ?_
      refine ml_blk 2 (S' := (39, [(0, .ref m0), (1, .int x1)], [.int ((pa (Int32.toNatClampNeg x1)) + 1), .ref m0], M11)) rfl ?_
      refine ml_call (a := [.ref m0, .int ((pa (Int32.toNatClampNeg x1)) + 1)]) (rest := []) rfl (hR13.okc rfl rfl rfl) rfl rfl (rm_u4 hR13 hF16 (by omega) (by omega) (by omega)) (fun v21 M22 h23 => ?_)
      obtain ⟨rfl, h23⟩ := h23
      rw [h23]
      show ml _ _ _ (42, [(0, .ref m0), (1, .int x1)], [.long (f4 f ((pa (Int32.toNatClampNeg x1)) + 1))], M11) _
      refine ml_blk 2 (S' := (44, [(0, .ref m0), (1, .int x1)], [.long (Int32.toInt64 (Int64.toInt32 (f4 f ((pa (Int32.toNatClampNeg x1)) + 1))))], M11)) rfl ?_
      exact ml_ret rfl (rfl) (⟨_, _, _, rfl, hR13, (eqI.rf.put f15 (by decide)), eqR.rf⟩)
    refine ml_if2 (S1 := (30, [(0, .ref m0), (1, .int x1)], [], M11)) (S2 := (25, [(2, .int (tgf f cp pa x1)), (0, .ref m0), (1, .int x1)], [], M11)) rfl rfl rfl (fun c_22 => ?_) (fun c_22 => ?_)
    · have c_22 : (tgf f cp pa x1) = 3 := of_decide_eq_true c_22
      exact J_30  (Or.inl c_22)
    · have c_22 : ¬ ((tgf f cp pa x1) = 3) := of_decide_eq_false c_22
      refine ml_blk 2 (S' := (27, [(2, .int (tgf f cp pa x1)), (0, .ref m0), (1, .int x1)], [.int 4, .int (tgf f cp pa x1)], M11)) rfl ?_
      refine ml_if2 (S1 := (45, [(2, .int (tgf f cp pa x1)), (0, .ref m0), (1, .int x1)], [], M11)) (S2 := (30, [(0, .ref m0), (1, .int x1)], [], M11)) rfl rfl rfl (fun c_27 => ?_) (fun c_27 => ?_)
      · have c_27 : ¬ (tgf f cp pa x1) = 4 := of_decide_eq_true c_27
        refine ml_blk 2 (S' := (47, [(2, .int (tgf f cp pa x1)), (0, .ref m0), (1, .int x1)], [.int 5, .int (tgf f cp pa x1)], M11)) rfl ?_
        have J_56 : (tgf f cp pa x1 = 5 ∨ tgf f cp pa x1 = 6) → ml (mT g) d (mb_183 g).2 (56, [(0, .ref m0), (1, .int x1)], [], M11) (fun v M' => ∃ (x : Int64) (I' : rI) (R' : rR), v = some (.long x) ∧ RS g m0 q z I' R' M' ∧ eqI [0] I I' ∧ eqR [] R R') := by
          intro hj_56
          have h3 := hP0.tg (rfl : tgf f cp pa x1 = _) (fun e => by rcases hj_56 with h | h <;> rw [h] at e <;> exact absurd e (by decide))
          have q3 : (pa (Int32.toNatClampNeg x1)).toInt + 9 ≤ n := by have q := h3.2.2.2.2; rcases hj_56 with h | h <;> rw [h] at q <;> exact q
          have e1 : ((pa (Int32.toNatClampNeg x1)) + 1).toInt = (pa (Int32.toNatClampNeg x1)).toInt + 1 := i_add (by have : (1 : Int32).toInt = 1 := rfl; omega) (by have : (1 : Int32).toInt = 1 := rfl; omega)
          have e5 : ((pa (Int32.toNatClampNeg x1)) + 5).toInt = (pa (Int32.toNatClampNeg x1)).toInt + 5 := i_add (by have : (5 : Int32).toInt = 5 := rfl; omega) (by have : (5 : Int32).toInt = 5 := rfl; omega)
          refine ml_blk 2 (S' := (58, [(0, .ref m0), (1, .int x1)], [.ref m0, .ref m0], M11)) rfl ?_
          refine rg_ref (S' := (61, [(0, .ref m0), (1, .int x1)], [.ref (q 21), .ref m0], M11)) rfl hR13 rfl rfl ?_
          refine ml_st (S' := (62, [(0, .ref m0), (1, .int x1)], [.int x1, .ref (q 21), .ref m0], M11)) rfl rfl rfl ?_
          refine ra_ld (k := 21) (S' := (63, [(0, .ref m0), (1, .int x1)], [.int (pa (Int32.toNatClampNeg x1)), .ref m0], M11)) rfl hR13 rfl (by have q := (hP0.e h3.1 h3.2.1).2.1; rwa [Int32.zero_add] at q) (by have q := (hP0.e h3.1 h3.2.1).1; rwa [Int32.zero_add] at q) rfl ?_
          refine ml_blk 2 (S' := (65, [(0, .ref m0), (1, .int x1)], [.int ((pa (Int32.toNatClampNeg x1)) + 1), .ref m0], M11)) rfl ?_
          refine ml_call (a := [.ref m0, .int ((pa (Int32.toNatClampNeg x1)) + 1)]) (rest := []) rfl (hR13.okc rfl rfl rfl) rfl rfl (rm_u4 hR13 hF16 (by omega) (by omega) (by omega)) (fun v24 M25 h26 => ?_)
          obtain ⟨rfl, h26⟩ := h26
          rw [h26]
          show ml _ _ _ (68, [(0, .ref m0), (1, .int x1)], [.long (f4 f ((pa (Int32.toNatClampNeg x1)) + 1))], M11) _
          refine ml_blk 3 (S' := (72, [(0, .ref m0), (1, .int x1)], [.ref m0, .long ((f4 f ((pa (Int32.toNatClampNeg x1)) + 1)) <<< (Int32.toInt64 32 &&& 63))], M11)) rfl ?_
          refine ml_st (S' := (73, [(0, .ref m0), (1, .int x1)], [.ref m0, .ref m0, .long ((f4 f ((pa (Int32.toNatClampNeg x1)) + 1)) <<< (Int32.toInt64 32 &&& 63))], M11)) rfl rfl rfl ?_
          refine rg_ref (S' := (76, [(0, .ref m0), (1, .int x1)], [.ref (q 21), .ref m0, .long ((f4 f ((pa (Int32.toNatClampNeg x1)) + 1)) <<< (Int32.toInt64 32 &&& 63))], M11)) rfl hR13 rfl rfl ?_
          refine ml_st (S' := (77, [(0, .ref m0), (1, .int x1)], [.int x1, .ref (q 21), .ref m0, .long ((f4 f ((pa (Int32.toNatClampNeg x1)) + 1)) <<< (Int32.toInt64 32 &&& 63))], M11)) rfl rfl rfl ?_
          refine ra_ld (k := 21) (S' := (78, [(0, .ref m0), (1, .int x1)], [.int (pa (Int32.toNatClampNeg x1)), .ref m0, .long ((f4 f ((pa (Int32.toNatClampNeg x1)) + 1)) <<< (Int32.toInt64 32 &&& 63))], M11)) rfl hR13 rfl (by have q := (hP0.e h3.1 h3.2.1).2.1; rwa [Int32.zero_add] at q) (by have q := (hP0.e h3.1 h3.2.1).1; rwa [Int32.zero_add] at q) rfl ?_
          refine ml_blk 2 (S' := (80, [(0, .ref m0), (1, .int x1)], [.int ((pa (Int32.toNatClampNeg x1)) + 5), .ref m0, .long ((f4 f ((pa (Int32.toNatClampNeg x1)) + 1)) <<< (Int32.toInt64 32 &&& 63))], M11)) rfl ?_
          refine ml_call (a := [.ref m0, .int ((pa (Int32.toNatClampNeg x1)) + 5)]) (rest := [.long ((f4 f ((pa (Int32.toNatClampNeg x1)) + 1)) <<< (Int32.toInt64 32 &&& 63))]) rfl (hR13.okc rfl rfl rfl) rfl rfl (rm_u4 hR13 hF16 (by omega) (by omega) (by omega)) (fun v27 M28 h29 => ?_)
          obtain ⟨rfl, h29⟩ := h29
          rw [h29]
          show ml _ _ _ (83, [(0, .ref m0), (1, .int x1)], [.long (f4 f ((pa (Int32.toNatClampNeg x1)) + 5)), .long ((f4 f ((pa (Int32.toNatClampNeg x1)) + 1)) <<< (Int32.toInt64 32 &&& 63))], M11) _
          refine ml_st (S' := (84, [(0, .ref m0), (1, .int x1)], [.long (((f4 f ((pa (Int32.toNatClampNeg x1)) + 1)) <<< (Int32.toInt64 32 &&& 63)) ||| (f4 f ((pa (Int32.toNatClampNeg x1)) + 5)))], M11)) rfl rfl rfl ?_
          exact ml_ret rfl (rfl) (⟨_, _, _, rfl, hR13, (eqI.rf.put f15 (by decide)), eqR.rf⟩)
        refine ml_if2 (S1 := (56, [(0, .ref m0), (1, .int x1)], [], M11)) (S2 := (50, [(2, .int (tgf f cp pa x1)), (0, .ref m0), (1, .int x1)], [], M11)) rfl rfl rfl (fun c_47 => ?_) (fun c_47 => ?_)
        · have c_47 : (tgf f cp pa x1) = 5 := of_decide_eq_true c_47
          exact J_56  (Or.inl c_47)
        · have c_47 : ¬ ((tgf f cp pa x1) = 5) := of_decide_eq_false c_47
          refine ml_blk 2 (S' := (53, [(2, .int (tgf f cp pa x1)), (0, .ref m0), (1, .int x1)], [.int 6, .int (tgf f cp pa x1)], M11)) rfl ?_
          refine ml_if2 (S1 := (85, [(2, .int (tgf f cp pa x1)), (0, .ref m0), (1, .int x1)], [], M11)) (S2 := (56, [(0, .ref m0), (1, .int x1)], [], M11)) rfl rfl rfl (fun c_53 => ?_) (fun c_53 => ?_)
          · have c_53 : ¬ (tgf f cp pa x1) = 6 := of_decide_eq_true c_53
            refine ml_st (S' := (86, [(2, .int (tgf f cp pa x1)), (0, .ref m0), (1, .int x1)], [.long 0], M11)) rfl rfl rfl ?_
            exact ml_ret rfl (rfl) (⟨_, _, _, rfl, hR13, (eqI.rf.put f15 (by decide)), eqR.rf⟩)
          · have c_53 : ¬ (¬ (tgf f cp pa x1) = 6) := of_decide_eq_false c_53
            exact J_56  (Or.inr (Decidable.not_not.mp c_53))
      · have c_27 : ¬ (¬ (tgf f cp pa x1) = 4) := of_decide_eq_false c_27
        exact J_30  (Or.inr (Decidable.not_not.mp c_27))
  · have c_9 : ¬ (0 ≤ kn) := of_decide_eq_false c_9
    refine ml_st (S' := (13, [(0, .ref m0), (1, .int x1)], [.long 0], M11)) rfl rfl rfl ?_
    exact ml_ret rfl (rfl) (⟨_, _, _, rfl, hR13, (eqI.rf.put f15 (by decide)), eqR.rf⟩)
