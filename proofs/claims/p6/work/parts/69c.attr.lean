section
set_option maxHeartbeats 2000000 in
theorem rm_attr2 {g : xe_G}  {m0 : Nat} {q : Nat → Nat} {z : Nat × Nat} {I : rI} {R : rR} {M : mi_H} {x1 x2 x3 x4 x5 x6 : Int32} {n : Nat} {f : Nat → Int32} {S cN : Nat} {sa sl ch : Nat → Int32} {cp mj : Int32} {pa py : Nat → Int32} {fl ds : Int32}  (hR : RS g m0 q z I R M) (hF : FK n f I R) (hY : SK S cN sa sl ch I R) (hP : PK n f S cp mj pa py I R) (hK : KW I R) (hw : x1 = 1 ∨ x1 = 2) (h0 : 0 ≤ x3.toInt) (h1 : x3.toInt ≤ x4.toInt) (h2 : x4.toInt ≤ n) (ho0 : 0 ≤ x5.toInt) (ho1 : x5.toInt < 8300) (hfl : R 34 x5.toNatClampNeg = some fl) (hds : R 36 x5.toNatClampNeg = some ds) (hd0 : 0 ≤ ds.toInt) (hd1 : ds.toInt < S) (hmt : MTX sa sl ch ds) (hmc : MCD f n x5.toNatClampNeg R) (hkn : kn [38, 39, 40, 42, 43, 44] x5.toNatClampNeg R) {d : Nat} (hd : 6 ≤ d) : mt (mT g) d 177 [.ref m0, .int x1, .int x2, .int x3, .int x4, .int x5, .int x6] M (fun v M' => ∃ (x : Int32) (I' : rI) (R' : rR), v = some (.int x) ∧ RS g m0 q z I' R' M' ∧ eqI [47, 48] I I' ∧ eqR [37, 38, 39, 40, 41, 42, 44] R R' ∧ pw x5.toNatClampNeg R R' ∧ MCD f n x5.toNatClampNeg R' ∧ kn [38, 39, 40, 42, 43, 44] x5.toNatClampNeg R') := by
  obtain ⟨d, rfl⟩ : ∃ e, d = e + 1 := ⟨d - 1, by omega⟩
  refine mt_in (b := mb_177 g) rfl rfl ?_
  show ml (mT g) d (mb_177 g).2 (0, [(0, .ref m0), (1, .int x1), (2, .int x2), (3, .int x3), (4, .int x4), (5, .int x5), (6, .int x6)], [], M) _
  have hn := hF.1
  refine ml_st (S' := (1, [(0, .ref m0), (1, .int x1), (2, .int x2), (3, .int x3), (4, .int x4), (5, .int x5), (6, .int x6)], [.int x1], M)) rfl rfl rfl ?_
  refine ml_sw rfl (fun t_1 ht_1 => ?_)
  have kt_1 := ht_1
  have ht_1 : t_1 ∈ [56, 208, 219, 398, 400, 542, 550, 600] := mi_sw_sub ht_1 (by decide)
  simp only [List.mem_cons, List.not_mem_nil, or_false] at ht_1
  rcases ht_1 with rfl | rfl | rfl | rfl | rfl | rfl | rfl | rfl
  · show ml _ _ _ (56, [(0, .ref m0), (1, .int x1), (2, .int x2), (3, .int x3), (4, .int x4), (5, .int x5), (6, .int x6)], [], M) _
    exfalso
    rcases hw with h | h <;> (rw [h] at kt_1; exact absurd kt_1 (by decide))
  · show ml _ _ _ (208, [(0, .ref m0), (1, .int x1), (2, .int x2), (3, .int x3), (4, .int x4), (5, .int x5), (6, .int x6)], [], M) _
    refine ml_blk 3 (S' := (211, [(0, .ref m0), (1, .int x1), (2, .int x2), (3, .int x3), (4, .int x4), (5, .int x5), (6, .int x6)], [.int x3, .int x2, .ref m0], M)) rfl ?_
    refine ml_blk 2 (S' := (215, [(0, .ref m0), (1, .int x1), (2, .int x2), (3, .int x3), (4, .int x4), (5, .int x5), (6, .int x6)], [.int x5, .int x4, .int x3, .int x2, .ref m0], M)) rfl ?_
    refine ml_call (a := [.ref m0, .int x2, .int x3, .int x4, .int x5]) (rest := []) rfl (hR.okc rfl rfl rfl) rfl rfl (rm_code hR hF hY hP hK (h0) (h1) (h2) (ho0) (ho1) (hfl) (hds) (hd0) (hd1) (hmt) (hmc) (hkn) (by omega)) (fun v11 M12 h13 => ?_)
    obtain ⟨u19, I14, R15, rfl, hR16, hI17, hV18, w20⟩ := h13
    show ml _ _ _ (218, [(0, .ref m0), (1, .int x1), (2, .int x2), (3, .int x3), (4, .int x4), (5, .int x5), (6, .int x6)], [.int u19], M12) _
    exact ml_ret rfl (rfl) (⟨_, _, _, rfl, hR16, (eqI.rf.tr hI17 (by decide)), (eqR.rf.tr hV18 (by decide)), w20⟩)
  · show ml _ _ _ (219, [(0, .ref m0), (1, .int x1), (2, .int x2), (3, .int x3), (4, .int x4), (5, .int x5), (6, .int x6)], [], M) _
    have hw2 : x1 = 2 := hw.resolve_left (fun h => by rw [h] at kt_1; exact absurd kt_1 (by decide))
    refine ml_blk 3 (S' := (223, [(0, .ref m0), (1, .int x1), (2, .int x2), (3, .int x3), (4, .int x4), (5, .int x5), (6, .int x6)], [.int (x4 - x3)], M)) rfl ?_
    refine ml_st (S' := (224, [(0, .ref m0), (1, .int x1), (2, .int x2), (3, .int x3), (4, .int x4), (5, .int x5), (6, .int x6)], [.int 2, .int (x4 - x3)], M)) rfl rfl rfl ?_
    refine ml_if2 (S1 := (243, [], [], M)) (S2 := (227, [(0, .ref m0), (1, .int x1), (2, .int x2), (3, .int x3), (4, .int x4), (5, .int x5), (6, .int x6)], [], M)) rfl rfl rfl (fun c_224 => ?_) (fun c_224 => ?_)
    · have c_224 : (x4 - x3) < 2 := of_decide_eq_true c_224
      refine ml_st (S' := (245, [], [.int 30], M)) rfl rfl rfl ?_
      exact ml_ret rfl (rfl) (⟨_, _, _, rfl, hR, eqI.rf, eqR.rf, ⟨pw.rf, hmc, hkn⟩⟩)
    · have c_224 : ¬ ((x4 - x3) < 2) := of_decide_eq_false c_224
      have hd2 := i_nlt c_224
      rw [i_sub (by omega) (by omega)] at hd2
      have i2_ : (2 : Int32).toInt = 2 := rfl
      have hc0 := f2_pos (f := f) (x := x3)
      have hc1 := f2_le (f := f) (x := x3)
      refine ml_blk 3 (S' := (231, [(0, .ref m0), (1, .int x1), (2, .int x2), (3, .int x3), (4, .int x4), (5, .int x5), (6, .int x6)], [.int (x4 - x3)], M)) rfl ?_
      refine ml_blk 3 (S' := (234, [(0, .ref m0), (1, .int x1), (2, .int x2), (3, .int x3), (4, .int x4), (5, .int x5), (6, .int x6)], [.ref m0, .int 2, .int 2, .int (x4 - x3)], M)) rfl ?_
      refine ml_st (S' := (235, [(0, .ref m0), (1, .int x1), (2, .int x2), (3, .int x3), (4, .int x4), (5, .int x5), (6, .int x6)], [.int x3, .ref m0, .int 2, .int 2, .int (x4 - x3)], M)) rfl rfl rfl ?_
      refine ml_call (a := [.ref m0, .int x3]) (rest := [.int 2, .int 2, .int (x4 - x3)]) rfl (hR.okc rfl rfl rfl) rfl rfl (rm_u2 hR hF (h0) (by omega) (by omega)) (fun v21 M22 h23 => ?_)
      obtain ⟨rfl, h23⟩ := h23
      rw [h23]
      show ml _ _ _ (238, [(0, .ref m0), (1, .int x1), (2, .int x2), (3, .int x3), (4, .int x4), (5, .int x5), (6, .int x6)], [.int (f2 f x3), .int 2, .int 2, .int (x4 - x3)], M) _
      refine ml_blk 2 (S' := (240, [(0, .ref m0), (1, .int x1), (2, .int x2), (3, .int x3), (4, .int x4), (5, .int x5), (6, .int x6)], [.int (2 + (2 * (f2 f x3))), .int (x4 - x3)], M)) rfl ?_
      refine ml_if2 (S1 := (246, [(0, .ref m0), (1, .int x1), (2, .int x2), (3, .int x3), (4, .int x4), (5, .int x5), (6, .int x6)], [], M)) (S2 := (243, [], [], M)) rfl rfl rfl (fun c_240 => ?_) (fun c_240 => ?_)
      · have c_240 : (x4 - x3) = (2 + (2 * (f2 f x3))) := of_decide_eq_true c_240
        have hde : (x4 - x3).toInt = (2 + 2 * f2 f x3).toInt := congrArg Int32.toInt c_240
        rw [i_sub (by omega) (by omega), i_add (by rw [two_k hc0 (by omega)]; omega) (by rw [two_k hc0 (by omega)]; omega), two_k hc0 (by omega)] at hde
        refine ml_blk 2 (S' := (249, [(0, .ref m0), (1, .int x1), (2, .int x2), (3, .int x3), (4, .int x4), (5, .int x5), (6, .int x6)], [.int 9, .int x1], M)) rfl ?_
        refine ml_if2 (S1 := (265, [(0, .ref m0), (1, .int x1), (3, .int x3), (5, .int x5), (6, .int x6)], [], M)) (S2 := (252, [(0, .ref m0), (1, .int x1), (2, .int x2), (3, .int x3), (4, .int x4), (5, .int x5), (6, .int x6)], [], M)) rfl rfl rfl (fun c_249 => ?_) (fun c_249 => ?_)
        rotate_left
        · exact absurd ((by rw [hw2]; decide : ¬ x1 = 9)) (of_decide_eq_false c_249)
        refine ml_st (S' := (266, [(0, .ref m0), (1, .int x1), (3, .int x3), (5, .int x5), (6, .int x6)], [.int 0], M)) rfl rfl rfl ?_
        refine ml_st (S' := (268, [(0, .ref m0), (1, .int x1), (3, .int x3), (5, .int x5), (6, .int x6), (9, .int 0)], [], M)) rfl rfl rfl ?_
        have L_268 : ∀ (n_268 : Nat) (i268_9 : Int32), (2147483648 - i268_9.toInt).toNat ≤ n_268 → 0 ≤ i268_9.toInt → ml (mT g) d (mb_177 g).2 (268, [(0, .ref m0), (1, .int x1), (3, .int x3), (5, .int x5), (6, .int x6), (9, .int i268_9)], [], M) (fun v M' => ∃ (x : Int32) (I' : rI) (R' : rR), v = some (.int x) ∧ RS g m0 q z I' R' M' ∧ eqI [47, 48] I I' ∧ eqR [37, 38, 39, 40, 41, 42, 44] R R' ∧ pw x5.toNatClampNeg R R' ∧ MCD f n x5.toNatClampNeg R' ∧ kn [38, 39, 40, 42, 43, 44] x5.toNatClampNeg R') := by
          intro n_268
          induction n_268 with
          | zero => intro i268_9 hn; exact (loop_zero hn).elim
          | succ n_268 ih_268 =>
            intro i268_9 hn_268 hi_268
            refine ml_blk 3 (S' := (272, [(0, .ref m0), (1, .int x1), (3, .int x3), (5, .int x5), (6, .int x6), (9, .int i268_9)], [.int x3, .ref m0, .int i268_9], M)) rfl ?_
            refine ml_call (a := [.ref m0, .int x3]) (rest := [.int i268_9]) rfl (hR.okc rfl rfl rfl) rfl rfl (rm_u2 hR hF (h0) (by omega) (by omega)) (fun v24 M25 h26 => ?_)
            obtain ⟨rfl, h26⟩ := h26
            rw [h26]
            show ml _ _ _ (275, [(0, .ref m0), (1, .int x1), (3, .int x3), (5, .int x5), (6, .int x6), (9, .int i268_9)], [.int (f2 f x3), .int i268_9], M) _
            refine ml_if2 (S1 := (329, [(0, .ref m0), (1, .int x1), (3, .int x3), (5, .int x5), (6, .int x6), (9, .int i268_9)], [], M)) (S2 := (278, [(0, .ref m0), (1, .int x1), (3, .int x3), (5, .int x5), (6, .int x6), (9, .int i268_9)], [], M)) rfl rfl rfl (fun c_275 => ?_) (fun c_275 => ?_)
            · have c_275 : (f2 f x3) ≤ i268_9 := of_decide_eq_true c_275
              refine ml_blk 2 (S' := (332, [(0, .ref m0), (1, .int x1), (3, .int x3), (5, .int x5), (6, .int x6), (9, .int i268_9)], [.int 7, .int x1], M)) rfl ?_
              refine ml_if2 (S1 := (349, [(0, .ref m0), (1, .int x1), (3, .int x3), (5, .int x5)], [], M)) (S2 := (335, [(0, .ref m0), (1, .int x1), (3, .int x3), (5, .int x5), (6, .int x6), (9, .int i268_9)], [], M)) rfl rfl rfl (fun c_332 => ?_) (fun c_332 => ?_)
              rotate_left
              · exact absurd ((by rw [hw2]; decide : ¬ x1 = 7)) (of_decide_eq_false c_332)
              refine ml_blk 2 (S' := (351, [(0, .ref m0), (1, .int x1), (3, .int x3), (5, .int x5)], [.int 2, .int x1], M)) rfl ?_
              refine ml_if2 (S1 := (366, [(0, .ref m0), (1, .int x1), (3, .int x3)], [], M)) (S2 := (354, [(0, .ref m0), (1, .int x1), (3, .int x3), (5, .int x5)], [], M)) rfl rfl rfl (fun c_351 => ?_) (fun c_351 => ?_)
              · exact absurd (of_decide_eq_true c_351) ((fun h => h hw2))
              refine ml_st (S' := (355, [(0, .ref m0), (1, .int x1), (3, .int x3), (5, .int x5)], [.ref m0], M)) rfl rfl rfl ?_
              refine rg_ref (S' := (358, [(0, .ref m0), (1, .int x1), (3, .int x3), (5, .int x5)], [.ref (q 44)], M)) rfl hR rfl rfl ?_
              refine ml_blk 3 (S' := (362, [(0, .ref m0), (1, .int x1), (3, .int x3), (5, .int x5)], [.int x3, .ref m0, .int x5, .ref (q 44)], M)) rfl ?_
              refine ml_call (a := [.ref m0, .int x3]) (rest := [.int x5, .ref (q 44)]) rfl (hR.okc rfl rfl rfl) rfl rfl (rm_u2 hR hF (h0) (by omega) (by omega)) (fun v27 M28 h29 => ?_)
              obtain ⟨rfl, h29⟩ := h29
              rw [h29]
              show ml _ _ _ (365, [(0, .ref m0), (1, .int x1), (3, .int x3), (5, .int x5)], [.int (f2 f x3), .int x5, .ref (q 44)], M) _
              refine ra_st (k := 44) rfl hR rfl (vin_lt ho0 (by omega)) (fun M30 R31 hR32 e33 g34 f35 => ?_)
              show ml _ _ _ (366, [(0, .ref m0), (1, .int x1), (3, .int x3)], [], M30) _
              refine ml_blk 2 (S' := (369, [(0, .ref m0), (1, .int x1), (3, .int x3)], [.int 7, .int x1], M30)) rfl ?_
              refine ml_if2 (S1 := (381, [(0, .ref m0), (1, .int x1), (3, .int x3)], [], M30)) (S2 := (372, [(0, .ref m0), (1, .int x1), (3, .int x3)], [], M30)) rfl rfl rfl (fun c_369 => ?_) (fun c_369 => ?_)
              rotate_left
              · exact absurd ((by rw [hw2]; decide : ¬ x1 = 7)) (of_decide_eq_false c_369)
              refine ml_blk 2 (S' := (384, [(0, .ref m0), (1, .int x1), (3, .int x3)], [.int 9, .int x1], M30)) rfl ?_
              refine ml_if2 (S1 := (396, [], [], M30)) (S2 := (387, [(0, .ref m0), (1, .int x1), (3, .int x3)], [], M30)) rfl rfl rfl (fun c_384 => ?_) (fun c_384 => ?_)
              rotate_left
              · exact absurd ((by rw [hw2]; decide : ¬ x1 = 9)) (of_decide_eq_false c_384)
              refine ml_st (S' := (397, [], [.int 0], M30)) rfl rfl rfl ?_
              exact ml_ret rfl (rfl) (⟨_, _, _, rfl, hR32, eqI.rf, (eqR.rf.put f35 (by decide)), ⟨(pw.rf.st g34 f35 rfl), hmc.fr (fun k hk => congrFun (f35 k (fun e => absurd (e ▸ hk) (by decide))) _), (kn.st hkn e33 g34 f35)⟩⟩)
            · have c_275 : ¬ ((f2 f x3) ≤ i268_9) := of_decide_eq_false c_275
              have hjl := i_nle c_275
              have hjk : (x3 + 2 + 2 * i268_9).toInt = x3.toInt + 2 + 2 * i268_9.toInt := by have d2 : (x3 + 2).toInt = x3.toInt + 2 := (by rw [i_add (by omega) (by omega), i2_]); rw [i_add (by rw [two_k hi_268 (by omega)]; omega) (by rw [two_k hi_268 (by omega)]; omega), two_k hi_268 (by omega), d2]
              refine ml_blk 3 (S' := (281, [(0, .ref m0), (1, .int x1), (3, .int x3), (5, .int x5), (6, .int x6), (9, .int i268_9)], [.int x3, .ref m0, .ref m0], M)) rfl ?_
              refine ml_blk 3 (S' := (284, [(0, .ref m0), (1, .int x1), (3, .int x3), (5, .int x5), (6, .int x6), (9, .int i268_9)], [.int 2, .int (x3 + 2), .ref m0, .ref m0], M)) rfl ?_
              refine ml_blk 3 (S' := (288, [(0, .ref m0), (1, .int x1), (3, .int x3), (5, .int x5), (6, .int x6), (9, .int i268_9)], [.int ((x3 + 2) + (2 * i268_9)), .ref m0, .ref m0], M)) rfl ?_
              refine ml_call (a := [.ref m0, .int ((x3 + 2) + (2 * i268_9))]) (rest := [.ref m0]) rfl (hR.okc rfl rfl rfl) rfl rfl (rm_u2 hR hF (by omega) (by omega) (by omega)) (fun v36 M37 h38 => ?_)
              obtain ⟨rfl, h38⟩ := h38
              rw [h38]
              show ml _ _ _ (291, [(0, .ref m0), (1, .int x1), (3, .int x3), (5, .int x5), (6, .int x6), (9, .int i268_9)], [.int (f2 f ((x3 + 2) + (2 * i268_9))), .ref m0], M) _
              refine ml_call (a := [.ref m0, .int (f2 f ((x3 + 2) + (2 * i268_9)))]) (rest := []) rfl (hR.okc rfl rfl rfl) rfl rfl (rm_tag hR hF hP (by omega)) (fun v39 M40 h41 => ?_)
              obtain ⟨rfl, h41⟩ := h41
              rw [h41]
              show ml _ _ _ (294, [(0, .ref m0), (1, .int x1), (3, .int x3), (5, .int x5), (6, .int x6), (9, .int i268_9)], [.int (tgf f cp pa (f2 f ((x3 + 2) + (2 * i268_9))))], M) _
              refine ml_st (S' := (296, [(0, .ref m0), (1, .int x1), (3, .int x3), (5, .int x5), (6, .int x6), (9, .int i268_9)], [.int 7, .int (tgf f cp pa (f2 f ((x3 + 2) + (2 * i268_9))))], M)) rfl rfl rfl ?_
              refine ml_if2 (S1 := (323, [(0, .ref m0), (1, .int x1), (3, .int x3), (5, .int x5), (6, .int x6), (9, .int i268_9)], [], M)) (S2 := (299, [(0, .ref m0), (1, .int x1), (3, .int x3), (5, .int x5), (6, .int x6), (9, .int i268_9)], [], M)) rfl rfl rfl (fun c_296 => ?_) (fun c_296 => ?_)
              · have c_296 : (tgf f cp pa (f2 f ((x3 + 2) + (2 * i268_9)))) = 7 := of_decide_eq_true c_296
                refine ml_st (S' := (326, [(9, .int (i268_9 + 1)), (0, .ref m0), (1, .int x1), (3, .int x3), (5, .int x5), (6, .int x6)], [], M)) rfl rfl rfl ?_
                refine ml_st (S' := (268, [(0, .ref m0), (1, .int x1), (3, .int x3), (5, .int x5), (6, .int x6), (9, .int (i268_9 + 1))], [], M)) rfl rfl rfl ?_
                exact ih_268 (i268_9 + 1) (loop_inc (Int32.not_le.mp c_275) hn_268) (by rw [inc_lt (Int32.not_le.mp c_275)]; omega)
              · have c_296 : ¬ ((tgf f cp pa (f2 f ((x3 + 2) + (2 * i268_9)))) = 7) := of_decide_eq_false c_296
                refine ml_blk 2 (S' := (301, [(0, .ref m0), (1, .int x1), (3, .int x3), (5, .int x5), (6, .int x6), (9, .int i268_9)], [.int 2, .int x1], M)) rfl ?_
                refine ml_if2 (S1 := (309, [(0, .ref m0), (1, .int x1), (3, .int x3), (5, .int x5), (6, .int x6), (9, .int i268_9)], [], M)) (S2 := (304, [(0, .ref m0), (1, .int x1), (3, .int x3), (5, .int x5), (6, .int x6), (9, .int i268_9)], [], M)) rfl rfl rfl (fun c_301 => ?_) (fun c_301 => ?_)
                · exact absurd (of_decide_eq_true c_301) ((fun h => h hw2))
                refine ml_st (S' := (306, [(0, .ref m0), (1, .int x1), (3, .int x3), (5, .int x5), (6, .int x6), (9, .int i268_9)], [.int 32], M)) rfl rfl rfl ?_
                refine ml_st (S' := (322, [], [.int 32], M)) rfl rfl rfl ?_
                exact ml_ret rfl (rfl) (⟨_, _, _, rfl, hR, eqI.rf, eqR.rf, ⟨pw.rf, hmc, hkn⟩⟩)
        exact L_268 _ 0 (Nat.le_refl _) (by decide)
      · have c_240 : ¬ ((x4 - x3) = (2 + (2 * (f2 f x3)))) := of_decide_eq_false c_240
        refine ml_st (S' := (245, [], [.int 30], M)) rfl rfl rfl ?_
        exact ml_ret rfl (rfl) (⟨_, _, _, rfl, hR, eqI.rf, eqR.rf, ⟨pw.rf, hmc, hkn⟩⟩)
  · show ml _ _ _ (398, [(0, .ref m0), (1, .int x1), (2, .int x2), (3, .int x3), (4, .int x4), (5, .int x5), (6, .int x6)], [], M) _
    exfalso
    rcases hw with h | h <;> (rw [h] at kt_1; exact absurd kt_1 (by decide))
  · show ml _ _ _ (400, [(0, .ref m0), (1, .int x1), (2, .int x2), (3, .int x3), (4, .int x4), (5, .int x5), (6, .int x6)], [], M) _
    exfalso
    rcases hw with h | h <;> (rw [h] at kt_1; exact absurd kt_1 (by decide))
  · show ml _ _ _ (542, [(0, .ref m0), (1, .int x1), (2, .int x2), (3, .int x3), (4, .int x4), (5, .int x5), (6, .int x6)], [], M) _
    exfalso
    rcases hw with h | h <;> (rw [h] at kt_1; exact absurd kt_1 (by decide))
  · show ml _ _ _ (550, [(0, .ref m0), (1, .int x1), (2, .int x2), (3, .int x3), (4, .int x4), (5, .int x5), (6, .int x6)], [], M) _
    exfalso
    rcases hw with h | h <;> (rw [h] at kt_1; exact absurd kt_1 (by decide))
  · show ml _ _ _ (600, [(0, .ref m0), (1, .int x1), (2, .int x2), (3, .int x3), (4, .int x4), (5, .int x5), (6, .int x6)], [], M) _
    exfalso
    rcases hw with h | h <;> (rw [h] at kt_1; exact absurd kt_1 (by decide))
set_option maxHeartbeats 2000000 in
theorem rm_checkAttributes2 {g : xe_G}  {m0 : Nat} {q : Nat → Nat} {z : Nat × Nat} {I : rI} {R : rR} {M : mi_H} {x1 x2 x3 : Int32} {n : Nat} {f : Nat → Int32} {S cN : Nat} {sa sl ch : Nat → Int32} {cp mj : Int32} {pa py : Nat → Int32} {e : Int32} {fl ds : Int32}  (hR : RS g m0 q z I R M) (hF : FK n f I R) (hY : SK S cN sa sl ch I R) (hP : PK n f S cp mj pa py I R) (hK : KW I R) (hw : x2 = 2) (hat : AT f n x1 e) (ho0 : 0 ≤ x3.toInt) (ho1 : x3.toInt < 8300) (hfl : R 34 x3.toNatClampNeg = some fl) (hds : R 36 x3.toNatClampNeg = some ds) (hd0 : 0 ≤ ds.toInt) (hd1 : ds.toInt < S) (hmt : MTX sa sl ch ds) (hmc : MCD f n x3.toNatClampNeg R) (hkn : kn [38, 39, 40, 42, 43, 44] x3.toNatClampNeg R) {d : Nat} (hd : 7 ≤ d) : mt (mT g) d 187 [.ref m0, .int x1, .int x2, .int x3] M (fun v M' => ∃ (x : Int32) (I' : rI) (R' : rR), v = some (.int x) ∧ RS g m0 q z I' R' M' ∧ eqI [47, 48] I I' ∧ eqR [37, 38, 39, 40, 41, 42, 43, 44] R R' ∧ (x.toInt < 0 ∨ x = e) ∧ pw x3.toNatClampNeg R R' ∧ MCD f n x3.toNatClampNeg R' ∧ kn [38, 39, 40, 42, 43, 44] x3.toNatClampNeg R') := by
  obtain ⟨d, rfl⟩ : ∃ e, d = e + 1 := ⟨d - 1, by omega⟩
  refine mt_in (b := mb_187 g) rfl rfl ?_
  show ml (mT g) d (mb_187 g).2 (0, [(0, .ref m0), (1, .int x1), (2, .int x2), (3, .int x3)], [], M) _
  have hn := hF.1
  refine ml_blk 2 (S' := (2, [(0, .ref m0), (1, .int x1), (2, .int x2), (3, .int x3)], [.int x1, .ref m0], M)) rfl ?_
  refine ml_call (a := [.ref m0, .int x1]) (rest := []) rfl (hR.okc rfl rfl rfl) rfl rfl (rm_u2 hR hF (hat.1) (hat.2.1) (by omega)) (fun v11 M12 h13 => ?_)
  obtain ⟨rfl, h13⟩ := h13
  rw [h13]
  show ml _ _ _ (5, [(0, .ref m0), (1, .int x1), (2, .int x2), (3, .int x3)], [.int (f2 f x1)], M) _
  refine ml_st (S' := (7, [(4, .int (f2 f x1)), (0, .ref m0), (1, .int x1), (2, .int x2), (3, .int x3)], [], M)) rfl rfl rfl ?_
  refine ml_blk 3 (S' := (10, [(4, .int (f2 f x1)), (0, .ref m0), (1, .int x1), (2, .int x2), (3, .int x3)], [.int (x1 + 2)], M)) rfl ?_
  refine ml_st (S' := (12, [(5, .int (x1 + 2)), (4, .int (f2 f x1)), (0, .ref m0), (1, .int x1), (2, .int x2), (3, .int x3)], [], M)) rfl rfl rfl ?_
  refine ml_st (S' := (13, [(5, .int (x1 + 2)), (4, .int (f2 f x1)), (0, .ref m0), (1, .int x1), (2, .int x2), (3, .int x3)], [.int 0], M)) rfl rfl rfl ?_
  refine ml_st (S' := (15, [(6, .int 0), (5, .int (x1 + 2)), (4, .int (f2 f x1)), (0, .ref m0), (1, .int x1), (2, .int x2), (3, .int x3)], [], M)) rfl rfl rfl ?_
  refine ml_st (S' := (16, [(6, .int 0), (5, .int (x1 + 2)), (4, .int (f2 f x1)), (0, .ref m0), (1, .int x1), (2, .int x2), (3, .int x3)], [.int 0], M)) rfl rfl rfl ?_
  refine ml_st (S' := (18, [(0, .ref m0), (2, .int x2), (3, .int x3), (4, .int (f2 f x1)), (5, .int (x1 + 2)), (6, .int 0), (7, .int 0)], [], M)) rfl rfl rfl ?_
  have L_18 : ∀ (n_18 : Nat) (i18_5 : Int32) (i18_6 : Int32) (i18_7 : Int32) (M_18 : mi_H) (I_18 : rI) (R_18 : rR), (2147483648 - i18_7.toInt).toNat ≤ n_18 → RS g m0 q z I_18 R_18 M_18 → eqI [47, 48] I I_18 → eqR [37, 38, 39, 40, 41, 42, 43, 44] R R_18 → (0 ≤ i18_7.toInt ∧ i18_7.toInt ≤ (f2 f x1).toInt ∧ itr (RA1 f n) ((f2 f x1).toInt - i18_7.toInt).toNat i18_5 e ∧ pw x3.toNatClampNeg R R_18 ∧ MCD f n x3.toNatClampNeg R_18 ∧ kn [38, 39, 40, 42, 43, 44] x3.toNatClampNeg R_18) → ml (mT g) d (mb_187 g).2 (18, [(0, .ref m0), (2, .int x2), (3, .int x3), (4, .int (f2 f x1)), (5, .int i18_5), (6, .int i18_6), (7, .int i18_7)], [], M_18) (fun v M' => ∃ (x : Int32) (I' : rI) (R' : rR), v = some (.int x) ∧ RS g m0 q z I' R' M' ∧ eqI [47, 48] I I' ∧ eqR [37, 38, 39, 40, 41, 42, 43, 44] R R' ∧ (x.toInt < 0 ∨ x = e) ∧ pw x3.toNatClampNeg R R' ∧ MCD f n x3.toNatClampNeg R' ∧ kn [38, 39, 40, 42, 43, 44] x3.toNatClampNeg R') := by
    intro n_18
    induction n_18 with
    | zero => intro i18_5 i18_6 i18_7 M_18 I_18 R_18 hn; exact (loop_zero hn).elim
    | succ n_18 ih_18 =>
      intro i18_5 i18_6 i18_7 M_18 I_18 R_18 hn_18 hR_18 hI_18 hV_18 hi_18
      obtain ⟨hk0, hk1, hit, hpw18, hmc18, hkn18⟩ := hi_18
      refine ml_blk 2 (S' := (22, [(0, .ref m0), (2, .int x2), (3, .int x3), (4, .int (f2 f x1)), (5, .int i18_5), (6, .int i18_6), (7, .int i18_7)], [.int (f2 f x1), .int i18_7], M_18)) rfl ?_
      refine ml_if2 (S1 := (284, [(0, .ref m0), (2, .int x2), (3, .int x3), (4, .int (f2 f x1)), (5, .int i18_5), (6, .int i18_6), (7, .int i18_7)], [], M_18)) (S2 := (25, [(0, .ref m0), (2, .int x2), (3, .int x3), (4, .int (f2 f x1)), (5, .int i18_5), (6, .int i18_6), (7, .int i18_7)], [], M_18)) rfl rfl rfl (fun c_22 => ?_) (fun c_22 => ?_)
      · have c_22 : (f2 f x1) ≤ i18_7 := of_decide_eq_true c_22
        refine ml_st (S' := (286, [(0, .ref m0), (2, .int x2), (3, .int x3), (4, .int (f2 f x1)), (5, .int i18_5), (6, .int i18_6), (7, .int i18_7)], [.int i18_5], M_18)) rfl rfl rfl ?_
        exact ml_ret rfl (rfl) (⟨_, _, _, rfl, hR_18, (eqI.rf.tr hI_18 (by decide)), (eqR.rf.tr hV_18 (by decide)), ⟨Or.inr (itr_one hit (by have := i_le c_22; omega)).symm, (pw.rf.tr hpw18), hmc18, hkn18⟩⟩)
      · have c_22 : ¬ ((f2 f x1) ≤ i18_7) := of_decide_eq_false c_22
        obtain ⟨b1, hb1, hnx⟩ := itr_next hit c_22
        have hb2 := hb1
        obtain ⟨g0, g1, g2, g3⟩ := hb2
        have ep2 : (i18_5 + 2).toInt = i18_5.toInt + 2 := i_add (by have : (2 : Int32).toInt = 2 := rfl; omega) (by have : (2 : Int32).toInt = 2 := rfl; omega)
        have ep6 : (i18_5 + 6).toInt = i18_5.toInt + 6 := i_add (by have : (6 : Int32).toInt = 6 := rfl; omega) (by have : (6 : Int32).toInt = 6 := rfl; omega)
        have hra := ra_of (f := f) hn g0 g2
        have hl0 := f4_pos (f := f) (x := i18_5 + 2)
        have hle : (i18_5 + 6 + Int64.toInt32 (f4 f (i18_5 + 2))).toInt = i18_5.toInt + 6 + (f4 f (i18_5 + 2)).toInt := by have di : (Int64.toInt32 (f4 f (i18_5 + 2))).toInt = (f4 f (i18_5 + 2)).toInt := i_of (by omega) (by omega); rw [i_add (by omega) (by omega), di, ep6]
        refine ml_blk 3 (S' := (29, [(0, .ref m0), (2, .int x2), (3, .int x3), (4, .int (f2 f x1)), (5, .int i18_5), (6, .int i18_6), (7, .int i18_7)], [.int 2, .int i18_5, .ref m0], M_18)) rfl ?_
        refine ml_st (S' := (30, [(0, .ref m0), (2, .int x2), (3, .int x3), (4, .int (f2 f x1)), (5, .int i18_5), (6, .int i18_6), (7, .int i18_7)], [.int (i18_5 + 2), .ref m0], M_18)) rfl rfl rfl ?_
        have hF14 : FK n f I_18 R_18 := (hF.mono (cIx hI_18 (by decide)) (cRx hV_18 (by decide)))
        refine ml_call (a := [.ref m0, .int (i18_5 + 2)]) (rest := []) rfl (hR_18.okc rfl rfl rfl) rfl rfl (rm_u4 hR_18 hF14 (by omega) (by omega) (by omega)) (fun v15 M16 h17 => ?_)
        obtain ⟨rfl, h17⟩ := h17
        rw [h17]
        show ml _ _ _ (33, [(0, .ref m0), (2, .int x2), (3, .int x3), (4, .int (f2 f x1)), (5, .int i18_5), (6, .int i18_6), (7, .int i18_7)], [.long (f4 f (i18_5 + 2))], M_18) _
        refine ml_st (S' := (34, [(0, .ref m0), (2, .int x2), (3, .int x3), (4, .int (f2 f x1)), (5, .int i18_5), (6, .int i18_6), (7, .int i18_7)], [.int (Int64.toInt32 (f4 f (i18_5 + 2)))], M_18)) rfl rfl rfl ?_
        refine ml_st (S' := (36, [(8, .int (Int64.toInt32 (f4 f (i18_5 + 2)))), (0, .ref m0), (2, .int x2), (3, .int x3), (4, .int (f2 f x1)), (5, .int i18_5), (6, .int i18_6), (7, .int i18_7)], [], M_18)) rfl rfl rfl ?_
        refine ml_blk 3 (S' := (40, [(8, .int (Int64.toInt32 (f4 f (i18_5 + 2)))), (0, .ref m0), (2, .int x2), (3, .int x3), (4, .int (f2 f x1)), (5, .int i18_5), (6, .int i18_6), (7, .int i18_7)], [.int i18_5, .ref m0, .ref m0], M_18)) rfl ?_
        refine ml_call (a := [.ref m0, .int i18_5]) (rest := [.ref m0]) rfl (hR_18.okc rfl rfl rfl) rfl rfl (rm_u2 hR_18 hF14 (g0) (by omega) (by omega)) (fun v18 M19 h20 => ?_)
        obtain ⟨rfl, h20⟩ := h20
        rw [h20]
        show ml _ _ _ (43, [(8, .int (Int64.toInt32 (f4 f (i18_5 + 2)))), (0, .ref m0), (2, .int x2), (3, .int x3), (4, .int (f2 f x1)), (5, .int i18_5), (6, .int i18_6), (7, .int i18_7)], [.int (f2 f i18_5), .ref m0], M_18) _
        have hP21 : PK n f S cp mj pa py I_18 R_18 := (hP.mono (cIx hI_18 (by decide)) (cRx hV_18 (by decide)))
        refine ml_call (a := [.ref m0, .int (f2 f i18_5)]) (rest := []) rfl (hR_18.okc rfl rfl rfl) rfl rfl (rm_tag hR_18 hF14 hP21 (by omega)) (fun v22 M23 h24 => ?_)
        obtain ⟨rfl, h24⟩ := h24
        rw [h24]
        show ml _ _ _ (46, [(8, .int (Int64.toInt32 (f4 f (i18_5 + 2)))), (0, .ref m0), (2, .int x2), (3, .int x3), (4, .int (f2 f x1)), (5, .int i18_5), (6, .int i18_6), (7, .int i18_7)], [.int (tgf f cp pa (f2 f i18_5))], M_18) _
        refine ml_st (S' := (47, [(8, .int (Int64.toInt32 (f4 f (i18_5 + 2)))), (0, .ref m0), (2, .int x2), (3, .int x3), (4, .int (f2 f x1)), (5, .int i18_5), (6, .int i18_6), (7, .int i18_7)], [.int 1, .int (tgf f cp pa (f2 f i18_5))], M_18)) rfl rfl rfl ?_
        refine ml_if2 (S1 := (61, [(8, .int (Int64.toInt32 (f4 f (i18_5 + 2)))), (0, .ref m0), (2, .int x2), (3, .int x3), (4, .int (f2 f x1)), (5, .int i18_5), (6, .int i18_6), (7, .int i18_7)], [], M_18)) (S2 := (50, [(8, .int (Int64.toInt32 (f4 f (i18_5 + 2)))), (0, .ref m0), (2, .int x2), (3, .int x3), (4, .int (f2 f x1)), (5, .int i18_5), (6, .int i18_6), (7, .int i18_7)], [], M_18)) rfl rfl rfl (fun c_47 => ?_) (fun c_47 => ?_)
        · have c_47 : (tgf f cp pa (f2 f i18_5)) = 1 := of_decide_eq_true c_47
          refine ml_blk 3 (S' := (65, [(8, .int (Int64.toInt32 (f4 f (i18_5 + 2)))), (0, .ref m0), (2, .int x2), (3, .int x3), (4, .int (f2 f x1)), (5, .int i18_5), (6, .int i18_6), (7, .int i18_7)], [.int i18_5, .ref m0, .ref m0], M_18)) rfl ?_
          refine ml_call (a := [.ref m0, .int i18_5]) (rest := [.ref m0]) rfl (hR_18.okc rfl rfl rfl) rfl rfl (rm_u2 hR_18 hF14 (g0) (by omega) (by omega)) (fun v25 M26 h27 => ?_)
          obtain ⟨rfl, h27⟩ := h27
          rw [h27]
          show ml _ _ _ (68, [(8, .int (Int64.toInt32 (f4 f (i18_5 + 2)))), (0, .ref m0), (2, .int x2), (3, .int x3), (4, .int (f2 f x1)), (5, .int i18_5), (6, .int i18_6), (7, .int i18_7)], [.int (f2 f i18_5), .ref m0], M_18) _
          refine ml_call (a := [.ref m0, .int (f2 f i18_5)]) (rest := []) rfl (hR_18.okc rfl rfl rfl) rfl rfl (rm_symOf hR_18 hP21 (c_47) (by omega)) (fun v28 M29 h30 => ?_)
          obtain ⟨rfl, h30⟩ := h30
          rw [h30]
          show ml _ _ _ (71, [(8, .int (Int64.toInt32 (f4 f (i18_5 + 2)))), (0, .ref m0), (2, .int x2), (3, .int x3), (4, .int (f2 f x1)), (5, .int i18_5), (6, .int i18_6), (7, .int i18_7)], [.int (pyf py (f2 f i18_5))], M_18) _
          refine ml_st (S' := (73, [(9, .int (pyf py (f2 f i18_5))), (8, .int (Int64.toInt32 (f4 f (i18_5 + 2)))), (0, .ref m0), (2, .int x2), (3, .int x3), (4, .int (f2 f x1)), (5, .int i18_5), (6, .int i18_6), (7, .int i18_7)], [], M_18)) rfl rfl rfl ?_
          have hy9 := hP.y (show tgf f cp pa (f2 f i18_5) = 1 from c_47)
          refine ml_st (S' := (74, [(9, .int (pyf py (f2 f i18_5))), (8, .int (Int64.toInt32 (f4 f (i18_5 + 2)))), (0, .ref m0), (2, .int x2), (3, .int x3), (4, .int (f2 f x1)), (5, .int i18_5), (6, .int i18_6), (7, .int i18_7)], [.int (-1)], M_18)) rfl rfl rfl ?_
          refine ml_st (S' := (76, [(10, .int (-1)), (9, .int (pyf py (f2 f i18_5))), (8, .int (Int64.toInt32 (f4 f (i18_5 + 2)))), (0, .ref m0), (2, .int x2), (3, .int x3), (4, .int (f2 f x1)), (5, .int i18_5), (6, .int i18_6), (7, .int i18_7)], [], M_18)) rfl rfl rfl ?_
          refine ml_st (S' := (77, [(10, .int (-1)), (9, .int (pyf py (f2 f i18_5))), (8, .int (Int64.toInt32 (f4 f (i18_5 + 2)))), (0, .ref m0), (2, .int x2), (3, .int x3), (4, .int (f2 f x1)), (5, .int i18_5), (6, .int i18_6), (7, .int i18_7)], [.int 0], M_18)) rfl rfl rfl ?_
          refine ml_st (S' := (79, [(0, .ref m0), (2, .int x2), (3, .int x3), (4, .int (f2 f x1)), (5, .int i18_5), (6, .int i18_6), (7, .int i18_7), (8, .int (Int64.toInt32 (f4 f (i18_5 + 2)))), (9, .int (pyf py (f2 f i18_5))), (10, .int (-1)), (11, .int 0)], [], M_18)) rfl rfl rfl ?_
          have L_79 : ∀ (n_79 : Nat) (i79_10 : Int32) (i79_11 : Int32), (2147483648 - i79_11.toInt).toNat ≤ n_79 → (0 ≤ i79_11.toInt ∧ (i79_10 < 0 ∨ (0 ≤ i79_10.toInt ∧ i79_10.toInt < 10 ∧ kin i79_10 = x2))) → ml (mT g) d (mb_187 g).2 (79, [(0, .ref m0), (2, .int x2), (3, .int x3), (4, .int (f2 f x1)), (5, .int i18_5), (6, .int i18_6), (7, .int i18_7), (8, .int (Int64.toInt32 (f4 f (i18_5 + 2)))), (9, .int (pyf py (f2 f i18_5))), (10, .int i79_10), (11, .int i79_11)], [], M_18) (fun v M' => ∃ (x : Int32) (I' : rI) (R' : rR), v = some (.int x) ∧ RS g m0 q z I' R' M' ∧ eqI [47, 48] I I' ∧ eqR [37, 38, 39, 40, 41, 42, 43, 44] R R' ∧ (x.toInt < 0 ∨ x = e) ∧ pw x3.toNatClampNeg R R' ∧ MCD f n x3.toNatClampNeg R' ∧ kn [38, 39, 40, 42, 43, 44] x3.toNatClampNeg R') := by
            intro n_79
            induction n_79 with
            | zero => intro i79_10 i79_11 hn; exact (loop_zero hn).elim
            | succ n_79 ih_79 =>
              intro i79_10 i79_11 hn_79 hi_79
              obtain ⟨hj0, hjw⟩ := hi_79
              refine ml_blk 2 (S' := (82, [(0, .ref m0), (2, .int x2), (3, .int x3), (4, .int (f2 f x1)), (5, .int i18_5), (6, .int i18_6), (7, .int i18_7), (8, .int (Int64.toInt32 (f4 f (i18_5 + 2)))), (9, .int (pyf py (f2 f i18_5))), (10, .int i79_10), (11, .int i79_11)], [.ref m0, .int i79_11], M_18)) rfl ?_
              refine rg_ref (S' := (85, [(0, .ref m0), (2, .int x2), (3, .int x3), (4, .int (f2 f x1)), (5, .int i18_5), (6, .int i18_6), (7, .int i18_7), (8, .int (Int64.toInt32 (f4 f (i18_5 + 2)))), (9, .int (pyf py (f2 f i18_5))), (10, .int i79_10), (11, .int i79_11)], [.ref (q 62), .int i79_11], M_18)) rfl hR_18 rfl rfl ?_
              refine rl_kn (S' := (86, [(0, .ref m0), (2, .int x2), (3, .int x3), (4, .int (f2 f x1)), (5, .int i18_5), (6, .int i18_6), (7, .int i18_7), (8, .int (Int64.toInt32 (f4 f (i18_5 + 2)))), (9, .int (pyf py (f2 f i18_5))), (10, .int i79_10), (11, .int i79_11)], [.int (nI 10), .int i79_11], M_18)) rfl hR_18 rfl ?_
              refine ml_if2 (S1 := (140, [(0, .ref m0), (2, .int x2), (3, .int x3), (4, .int (f2 f x1)), (5, .int i18_5), (6, .int i18_6), (7, .int i18_7), (8, .int (Int64.toInt32 (f4 f (i18_5 + 2)))), (9, .int (pyf py (f2 f i18_5))), (10, .int i79_10), (11, .int i79_11)], [], M_18)) (S2 := (89, [(0, .ref m0), (2, .int x2), (3, .int x3), (4, .int (f2 f x1)), (5, .int i18_5), (6, .int i18_6), (7, .int i18_7), (8, .int (Int64.toInt32 (f4 f (i18_5 + 2)))), (9, .int (pyf py (f2 f i18_5))), (10, .int i79_10), (11, .int i79_11)], [], M_18)) rfl rfl rfl (fun c_86 => ?_) (fun c_86 => ?_)
              · have c_86 : (nI 10) ≤ i79_11 := of_decide_eq_true c_86
                refine ml_st (S' := (142, [(0, .ref m0), (2, .int x2), (3, .int x3), (4, .int (f2 f x1)), (5, .int i18_5), (6, .int i18_6), (7, .int i18_7), (8, .int (Int64.toInt32 (f4 f (i18_5 + 2)))), (9, .int (pyf py (f2 f i18_5))), (10, .int i79_10), (11, .int i79_11)], [.int i79_10], M_18)) rfl rfl rfl ?_
                refine ml_if (S1 := (268, [(0, .ref m0), (2, .int x2), (3, .int x3), (4, .int (f2 f x1)), (5, .int i18_5), (6, .int i18_6), (7, .int i18_7), (8, .int (Int64.toInt32 (f4 f (i18_5 + 2))))], [], M_18)) (S2 := (145, [(0, .ref m0), (2, .int x2), (3, .int x3), (4, .int (f2 f x1)), (5, .int i18_5), (6, .int i18_6), (7, .int i18_7), (8, .int (Int64.toInt32 (f4 f (i18_5 + 2)))), (9, .int (pyf py (f2 f i18_5))), (10, .int i79_10), (11, .int i79_11)], [], M_18)) rfl rfl rfl (fun c_142 => ?_) (fun c_142 => ?_)
                · have c_142 : i79_10 < 0 := of_decide_eq_true c_142
                  refine ml_blk 3 (S' := (274, [(0, .ref m0), (2, .int x2), (3, .int x3), (4, .int (f2 f x1)), (5, .int i18_5), (6, .int i18_6), (7, .int i18_7), (8, .int (Int64.toInt32 (f4 f (i18_5 + 2))))], [.int (Int64.toInt32 (f4 f (i18_5 + 2))), .int 6, .int i18_5], M_18)) rfl ?_
                  refine ml_blk 2 (S' := (276, [(0, .ref m0), (2, .int x2), (3, .int x3), (4, .int (f2 f x1)), (5, .int i18_5), (6, .int i18_6), (7, .int i18_7), (8, .int (Int64.toInt32 (f4 f (i18_5 + 2))))], [.int (i18_5 + (6 + (Int64.toInt32 (f4 f (i18_5 + 2)))))], M_18)) rfl ?_
                  refine ml_st (S' := (278, [(5, .int (i18_5 + (6 + (Int64.toInt32 (f4 f (i18_5 + 2)))))), (0, .ref m0), (2, .int x2), (3, .int x3), (4, .int (f2 f x1)), (6, .int i18_6), (7, .int i18_7), (8, .int (Int64.toInt32 (f4 f (i18_5 + 2))))], [], M_18)) rfl rfl rfl ?_
                  refine ml_st (S' := (281, [(7, .int (i18_7 + 1)), (5, .int (i18_5 + (6 + (Int64.toInt32 (f4 f (i18_5 + 2)))))), (0, .ref m0), (2, .int x2), (3, .int x3), (4, .int (f2 f x1)), (6, .int i18_6), (8, .int (Int64.toInt32 (f4 f (i18_5 + 2))))], [], M_18)) rfl rfl rfl ?_
                  refine ml_st (S' := (18, [(0, .ref m0), (2, .int x2), (3, .int x3), (4, .int (f2 f x1)), (5, .int (i18_5 + (6 + (Int64.toInt32 (f4 f (i18_5 + 2)))))), (6, .int i18_6), (7, .int (i18_7 + 1))], [], M_18)) rfl rfl rfl ?_
                  exact ih_18 (i18_5 + (6 + (Int64.toInt32 (f4 f (i18_5 + 2))))) i18_6 (i18_7 + 1) _ _ _ (loop_inc (Int32.not_le.mp c_22) hn_18) hR_18 (eqI.rf.tr hI_18 (by decide)) (eqR.rf.tr hV_18 (by decide)) (⟨by rw [inc_lt (Int32.not_le.mp c_22)]; omega, by rw [inc_lt (Int32.not_le.mp c_22)]; have := i_nle c_22; omega, hb1.eq hra ▸ hnx, (pw.rf.tr hpw18), hmc18, hkn18⟩)
                · have c_142 : ¬ (i79_10 < 0) := of_decide_eq_false c_142
                  have hwn := hjw.resolve_left c_142
                  refine ml_blk 2 (S' := (147, [(0, .ref m0), (2, .int x2), (3, .int x3), (4, .int (f2 f x1)), (5, .int i18_5), (6, .int i18_6), (7, .int i18_7), (8, .int (Int64.toInt32 (f4 f (i18_5 + 2)))), (9, .int (pyf py (f2 f i18_5))), (10, .int i79_10), (11, .int i79_11)], [.int 1, .int x2], M_18)) rfl ?_
                  refine ml_if2 (S1 := (160, [(0, .ref m0), (2, .int x2), (3, .int x3), (4, .int (f2 f x1)), (5, .int i18_5), (6, .int i18_6), (7, .int i18_7), (8, .int (Int64.toInt32 (f4 f (i18_5 + 2)))), (10, .int i79_10)], [], M_18)) (S2 := (150, [(0, .ref m0), (2, .int x2), (3, .int x3), (4, .int (f2 f x1)), (5, .int i18_5), (6, .int i18_6), (7, .int i18_7), (8, .int (Int64.toInt32 (f4 f (i18_5 + 2)))), (9, .int (pyf py (f2 f i18_5))), (10, .int i79_10), (11, .int i79_11)], [], M_18)) rfl rfl rfl (fun c_147 => ?_) (fun c_147 => ?_)
                  rotate_left
                  · exact absurd ((by rw [hw]; decide : ¬ x2 = 1)) (of_decide_eq_false c_147)
                  refine ml_blk 2 (S' := (162, [(0, .ref m0), (2, .int x2), (3, .int x3), (4, .int (f2 f x1)), (5, .int i18_5), (6, .int i18_6), (7, .int i18_7), (8, .int (Int64.toInt32 (f4 f (i18_5 + 2)))), (10, .int i79_10)], [.int 2, .int x2], M_18)) rfl ?_
                  refine ml_if2 (S1 := (175, [(0, .ref m0), (2, .int x2), (3, .int x3), (4, .int (f2 f x1)), (5, .int i18_5), (6, .int i18_6), (7, .int i18_7), (8, .int (Int64.toInt32 (f4 f (i18_5 + 2)))), (10, .int i79_10)], [], M_18)) (S2 := (165, [(0, .ref m0), (2, .int x2), (3, .int x3), (4, .int (f2 f x1)), (5, .int i18_5), (6, .int i18_6), (7, .int i18_7), (8, .int (Int64.toInt32 (f4 f (i18_5 + 2)))), (10, .int i79_10)], [], M_18)) rfl rfl rfl (fun c_162 => ?_) (fun c_162 => ?_)
                  · exact absurd (of_decide_eq_true c_162) ((fun h => h hw))
                  refine ml_st (S' := (166, [(0, .ref m0), (2, .int x2), (3, .int x3), (4, .int (f2 f x1)), (5, .int i18_5), (6, .int i18_6), (7, .int i18_7), (8, .int (Int64.toInt32 (f4 f (i18_5 + 2)))), (10, .int i79_10)], [.ref m0], M_18)) rfl rfl rfl ?_
                  refine rg_ref (S' := (169, [(0, .ref m0), (2, .int x2), (3, .int x3), (4, .int (f2 f x1)), (5, .int i18_5), (6, .int i18_6), (7, .int i18_7), (8, .int (Int64.toInt32 (f4 f (i18_5 + 2)))), (10, .int i79_10)], [.ref (q 43)], M_18)) rfl hR_18 rfl rfl ?_
                  refine ml_blk 2 (S' := (171, [(0, .ref m0), (2, .int x2), (3, .int x3), (4, .int (f2 f x1)), (5, .int i18_5), (6, .int i18_6), (7, .int i18_7), (8, .int (Int64.toInt32 (f4 f (i18_5 + 2)))), (10, .int i79_10)], [.int x3, .ref (q 43), .int x3, .ref (q 43)], M_18)) rfl ?_
                  obtain ⟨v171, hv171⟩ := hkn18 43 (by decide)
                  refine ra_ld (k := 43) (S' := (172, [(0, .ref m0), (2, .int x2), (3, .int x3), (4, .int (f2 f x1)), (5, .int i18_5), (6, .int i18_6), (7, .int i18_7), (8, .int (Int64.toInt32 (f4 f (i18_5 + 2)))), (10, .int i79_10)], [.int v171, .int x3, .ref (q 43)], M_18)) rfl hR_18 rfl (vin_lt ho0 (by omega)) (hv171) rfl ?_
                  refine ml_blk 2 (S' := (174, [(0, .ref m0), (2, .int x2), (3, .int x3), (4, .int (f2 f x1)), (5, .int i18_5), (6, .int i18_6), (7, .int i18_7), (8, .int (Int64.toInt32 (f4 f (i18_5 + 2)))), (10, .int i79_10)], [.int (v171 + 1), .int x3, .ref (q 43)], M_18)) rfl ?_
                  refine ra_st (k := 43) rfl hR_18 rfl (vin_lt ho0 (by omega)) (fun M31 R32 hR33 e34 g35 f36 => ?_)
                  show ml _ _ _ (175, [(0, .ref m0), (2, .int x2), (3, .int x3), (4, .int (f2 f x1)), (5, .int i18_5), (6, .int i18_6), (7, .int i18_7), (8, .int (Int64.toInt32 (f4 f (i18_5 + 2)))), (10, .int i79_10)], [], M31) _
                  refine ml_blk 2 (S' := (177, [(0, .ref m0), (2, .int x2), (3, .int x3), (4, .int (f2 f x1)), (5, .int i18_5), (6, .int i18_6), (7, .int i18_7), (8, .int (Int64.toInt32 (f4 f (i18_5 + 2)))), (10, .int i79_10)], [.int 4, .int x2], M31)) rfl ?_
                  refine ml_if2 (S1 := (190, [(0, .ref m0), (2, .int x2), (3, .int x3), (4, .int (f2 f x1)), (5, .int i18_5), (6, .int i18_6), (7, .int i18_7), (8, .int (Int64.toInt32 (f4 f (i18_5 + 2)))), (10, .int i79_10)], [], M31)) (S2 := (180, [(0, .ref m0), (2, .int x2), (3, .int x3), (4, .int (f2 f x1)), (5, .int i18_5), (6, .int i18_6), (7, .int i18_7), (8, .int (Int64.toInt32 (f4 f (i18_5 + 2)))), (10, .int i79_10)], [], M31)) rfl rfl rfl (fun c_177 => ?_) (fun c_177 => ?_)
                  rotate_left
                  · exact absurd ((by rw [hw]; decide : ¬ x2 = 4)) (of_decide_eq_false c_177)
                  refine ml_blk 3 (S' := (195, [(0, .ref m0), (2, .int x2), (3, .int x3), (4, .int (f2 f x1)), (5, .int i18_5), (6, .int i18_6), (7, .int i18_7), (8, .int (Int64.toInt32 (f4 f (i18_5 + 2)))), (10, .int i79_10)], [.int (i18_6 >>> (i79_10 &&& 31))], M31)) rfl ?_
                  refine ml_blk 3 (S' := (198, [(0, .ref m0), (2, .int x2), (3, .int x3), (4, .int (f2 f x1)), (5, .int i18_5), (6, .int i18_6), (7, .int i18_7), (8, .int (Int64.toInt32 (f4 f (i18_5 + 2)))), (10, .int i79_10)], [.int 1, .int ((i18_6 >>> (i79_10 &&& 31)) &&& 1)], M31)) rfl ?_
                  refine ml_if2 (S1 := (212, [(0, .ref m0), (2, .int x2), (3, .int x3), (4, .int (f2 f x1)), (5, .int i18_5), (6, .int i18_6), (7, .int i18_7), (8, .int (Int64.toInt32 (f4 f (i18_5 + 2)))), (10, .int i79_10)], [], M31)) (S2 := (201, [(0, .ref m0), (2, .int x2), (3, .int x3), (4, .int (f2 f x1)), (5, .int i18_5), (6, .int i18_6), (7, .int i18_7), (8, .int (Int64.toInt32 (f4 f (i18_5 + 2)))), (10, .int i79_10)], [], M31)) rfl rfl rfl (fun c_198 => ?_) (fun c_198 => ?_)
                  · have c_198 : ¬ ((i18_6 >>> (i79_10 &&& 31)) &&& 1) = 1 := of_decide_eq_true c_198
                    refine ml_blk 3 (S' := (217, [(0, .ref m0), (2, .int x2), (3, .int x3), (4, .int (f2 f x1)), (5, .int i18_5), (6, .int i18_6), (7, .int i18_7), (8, .int (Int64.toInt32 (f4 f (i18_5 + 2)))), (10, .int i79_10)], [.int i18_5, .int i79_10, .ref m0], M31)) rfl ?_
                    refine ml_blk 3 (S' := (222, [(0, .ref m0), (2, .int x2), (3, .int x3), (4, .int (f2 f x1)), (5, .int i18_5), (6, .int i18_6), (7, .int i18_7), (8, .int (Int64.toInt32 (f4 f (i18_5 + 2)))), (10, .int i79_10)], [.int (i18_5 + 6), .int i18_5, .int i79_10, .ref m0], M31)) rfl ?_
                    refine ml_blk 3 (S' := (227, [(0, .ref m0), (2, .int x2), (3, .int x3), (4, .int (f2 f x1)), (5, .int i18_5), (6, .int i18_6), (7, .int i18_7), (8, .int (Int64.toInt32 (f4 f (i18_5 + 2)))), (10, .int i79_10)], [.int (i18_5 + 6), .int (i18_5 + 6), .int i18_5, .int i79_10, .ref m0], M31)) rfl ?_
                    refine ml_blk 3 (S' := (231, [(0, .ref m0), (2, .int x2), (3, .int x3), (4, .int (f2 f x1)), (5, .int i18_5), (6, .int i18_6), (7, .int i18_7), (8, .int (Int64.toInt32 (f4 f (i18_5 + 2)))), (10, .int i79_10)], [.int x3, .int ((i18_5 + 6) + (Int64.toInt32 (f4 f (i18_5 + 2)))), .int (i18_5 + 6), .int i18_5, .int i79_10, .ref m0], M31)) rfl ?_
                    refine ml_st (S' := (233, [(0, .ref m0), (2, .int x2), (3, .int x3), (4, .int (f2 f x1)), (5, .int i18_5), (6, .int i18_6), (7, .int i18_7), (8, .int (Int64.toInt32 (f4 f (i18_5 + 2)))), (10, .int i79_10)], [.int i18_6, .int x3, .int ((i18_5 + 6) + (Int64.toInt32 (f4 f (i18_5 + 2)))), .int (i18_5 + 6), .int i18_5, .int i79_10, .ref m0], M31)) rfl rfl rfl ?_
                    have hF37 : FK n f I_18 R32 := (hF14.mono (fun _ _ => rfl) (pRx f36 (by decide)))
                    have hY38 : SK S cN sa sl ch I_18 R32 := ((hY.mono (cIx hI_18 (by decide)) (cRx hV_18 (by decide))).mono (fun _ _ => rfl) (pRx f36 (by decide)))
                    have hP39 : PK n f S cp mj pa py I_18 R32 := (hP21.mono (fun _ _ => rfl) (pRx f36 (by decide)))
                    have hK40 : KW I_18 R32 := ((hK.mono (cIx hI_18 (by decide)) (cRx hV_18 (by decide))).mono (fun _ _ => rfl) (pRx f36 (by decide)))
                    refine ml_call (a := [.ref m0, .int i79_10, .int i18_5, .int (i18_5 + 6), .int ((i18_5 + 6) + (Int64.toInt32 (f4 f (i18_5 + 2)))), .int x3, .int i18_6]) (rest := []) rfl (hR33.okc rfl rfl rfl) rfl rfl (rm_attr2 hR33 hF37 hY38 hP39 hK40 (kin_2 (hwn.2.2.trans hw)) (by omega) (by rw [hle]; omega) (by rw [hle]; omega) (ho0) (ho1) ((congrFun ((f36 34 (by decide)).trans ((hV_18 34 (by decide)))) _).trans hfl) ((congrFun ((f36 36 (by decide)).trans ((hV_18 36 (by decide)))) _).trans hds) (hd0) (hd1) (hmt) (hmc18.fr (fun k hk => by simp only [List.mem_cons, List.not_mem_nil, or_false] at hk; rcases hk with rfl | rfl | rfl | rfl | rfl | rfl; exact (congrFun ((f36 37 (by decide))) _); exact (congrFun ((f36 38 (by decide))) _); exact (congrFun ((f36 39 (by decide))) _); exact (congrFun ((f36 40 (by decide))) _); exact (congrFun ((f36 41 (by decide))) _); exact (congrFun ((f36 42 (by decide))) _))) ((kn.st hkn18 e34 g35 f36)) (by omega)) (fun v41 M42 h43 => ?_)
                    obtain ⟨u49, I44, R45, rfl, hR46, hI47, hV48, w50⟩ := h43
                    show ml _ _ _ (236, [(0, .ref m0), (2, .int x2), (3, .int x3), (4, .int (f2 f x1)), (5, .int i18_5), (6, .int i18_6), (7, .int i18_7), (8, .int (Int64.toInt32 (f4 f (i18_5 + 2)))), (10, .int i79_10)], [.int u49], M42) _
                    obtain ⟨hp51, hm52, hk53⟩ := w50
                    refine ml_st (S' := (238, [(11, .int u49), (0, .ref m0), (2, .int x2), (3, .int x3), (4, .int (f2 f x1)), (5, .int i18_5), (6, .int i18_6), (7, .int i18_7), (8, .int (Int64.toInt32 (f4 f (i18_5 + 2)))), (10, .int i79_10)], [], M42)) rfl rfl rfl ?_
                    refine ml_blk 3 (S' := (243, [(11, .int u49), (0, .ref m0), (2, .int x2), (3, .int x3), (4, .int (f2 f x1)), (5, .int i18_5), (6, .int i18_6), (7, .int i18_7), (8, .int (Int64.toInt32 (f4 f (i18_5 + 2)))), (10, .int i79_10)], [.int i79_10, .int 1, .int i18_6], M42)) rfl ?_
                    refine ml_blk 2 (S' := (245, [(11, .int u49), (0, .ref m0), (2, .int x2), (3, .int x3), (4, .int (f2 f x1)), (5, .int i18_5), (6, .int i18_6), (7, .int i18_7), (8, .int (Int64.toInt32 (f4 f (i18_5 + 2)))), (10, .int i79_10)], [.int (i18_6 ||| (1 <<< (i79_10 &&& 31)))], M42)) rfl ?_
                    refine ml_st (S' := (247, [(6, .int (i18_6 ||| (1 <<< (i79_10 &&& 31)))), (11, .int u49), (0, .ref m0), (2, .int x2), (3, .int x3), (4, .int (f2 f x1)), (5, .int i18_5), (7, .int i18_7), (8, .int (Int64.toInt32 (f4 f (i18_5 + 2)))), (10, .int i79_10)], [], M42)) rfl rfl rfl ?_
                    refine ml_st (S' := (249, [(6, .int (i18_6 ||| (1 <<< (i79_10 &&& 31)))), (11, .int u49), (0, .ref m0), (2, .int x2), (3, .int x3), (4, .int (f2 f x1)), (5, .int i18_5), (7, .int i18_7), (8, .int (Int64.toInt32 (f4 f (i18_5 + 2)))), (10, .int i79_10)], [.int u49], M42)) rfl rfl rfl ?_
                    refine ml_if (S1 := (261, [(0, .ref m0), (2, .int x2), (3, .int x3), (4, .int (f2 f x1)), (5, .int i18_5), (6, .int (i18_6 ||| (1 <<< (i79_10 &&& 31)))), (7, .int i18_7), (8, .int (Int64.toInt32 (f4 f (i18_5 + 2)))), (11, .int u49)], [], M42)) (S2 := (252, [(6, .int (i18_6 ||| (1 <<< (i79_10 &&& 31)))), (11, .int u49), (0, .ref m0), (2, .int x2), (3, .int x3), (4, .int (f2 f x1)), (5, .int i18_5), (7, .int i18_7), (8, .int (Int64.toInt32 (f4 f (i18_5 + 2)))), (10, .int i79_10)], [], M42)) rfl rfl rfl (fun c_249 => ?_) (fun c_249 => ?_)
                    · have c_249 : u49 ≤ 0 := of_decide_eq_true c_249
                      refine ml_st (S' := (263, [(0, .ref m0), (2, .int x2), (3, .int x3), (4, .int (f2 f x1)), (5, .int i18_5), (6, .int (i18_6 ||| (1 <<< (i79_10 &&& 31)))), (7, .int i18_7), (8, .int (Int64.toInt32 (f4 f (i18_5 + 2)))), (11, .int u49)], [.int u49], M42)) rfl rfl rfl ?_
                      refine ml_if (S1 := (268, [(0, .ref m0), (2, .int x2), (3, .int x3), (4, .int (f2 f x1)), (5, .int i18_5), (6, .int (i18_6 ||| (1 <<< (i79_10 &&& 31)))), (7, .int i18_7), (8, .int (Int64.toInt32 (f4 f (i18_5 + 2))))], [], M42)) (S2 := (266, [(0, .ref m0), (2, .int x2), (3, .int x3), (4, .int (f2 f x1)), (5, .int i18_5), (6, .int (i18_6 ||| (1 <<< (i79_10 &&& 31)))), (7, .int i18_7), (8, .int (Int64.toInt32 (f4 f (i18_5 + 2)))), (11, .int u49)], [], M42)) rfl rfl rfl (fun c_263 => ?_) (fun c_263 => ?_)
                      · have c_263 : u49 = 0 := of_decide_eq_true c_263
                        refine ml_blk 3 (S' := (274, [(0, .ref m0), (2, .int x2), (3, .int x3), (4, .int (f2 f x1)), (5, .int i18_5), (6, .int (i18_6 ||| (1 <<< (i79_10 &&& 31)))), (7, .int i18_7), (8, .int (Int64.toInt32 (f4 f (i18_5 + 2))))], [.int (Int64.toInt32 (f4 f (i18_5 + 2))), .int 6, .int i18_5], M42)) rfl ?_
                        refine ml_blk 2 (S' := (276, [(0, .ref m0), (2, .int x2), (3, .int x3), (4, .int (f2 f x1)), (5, .int i18_5), (6, .int (i18_6 ||| (1 <<< (i79_10 &&& 31)))), (7, .int i18_7), (8, .int (Int64.toInt32 (f4 f (i18_5 + 2))))], [.int (i18_5 + (6 + (Int64.toInt32 (f4 f (i18_5 + 2)))))], M42)) rfl ?_
                        refine ml_st (S' := (278, [(5, .int (i18_5 + (6 + (Int64.toInt32 (f4 f (i18_5 + 2)))))), (0, .ref m0), (2, .int x2), (3, .int x3), (4, .int (f2 f x1)), (6, .int (i18_6 ||| (1 <<< (i79_10 &&& 31)))), (7, .int i18_7), (8, .int (Int64.toInt32 (f4 f (i18_5 + 2))))], [], M42)) rfl rfl rfl ?_
                        refine ml_st (S' := (281, [(7, .int (i18_7 + 1)), (5, .int (i18_5 + (6 + (Int64.toInt32 (f4 f (i18_5 + 2)))))), (0, .ref m0), (2, .int x2), (3, .int x3), (4, .int (f2 f x1)), (6, .int (i18_6 ||| (1 <<< (i79_10 &&& 31)))), (8, .int (Int64.toInt32 (f4 f (i18_5 + 2))))], [], M42)) rfl rfl rfl ?_
                        refine ml_st (S' := (18, [(0, .ref m0), (2, .int x2), (3, .int x3), (4, .int (f2 f x1)), (5, .int (i18_5 + (6 + (Int64.toInt32 (f4 f (i18_5 + 2)))))), (6, .int (i18_6 ||| (1 <<< (i79_10 &&& 31)))), (7, .int (i18_7 + 1))], [], M42)) rfl rfl rfl ?_
                        exact ih_18 (i18_5 + (6 + (Int64.toInt32 (f4 f (i18_5 + 2))))) (i18_6 ||| (1 <<< (i79_10 &&& 31))) (i18_7 + 1) _ _ _ (loop_inc (Int32.not_le.mp c_22) hn_18) hR46 ((eqI.rf.tr hI_18 (by decide)).tr hI47 (by decide)) (((eqR.rf.tr hV_18 (by decide)).put f36 (by decide)).tr hV48 (by decide)) (⟨by rw [inc_lt (Int32.not_le.mp c_22)]; omega, by rw [inc_lt (Int32.not_le.mp c_22)]; have := i_nle c_22; omega, hb1.eq hra ▸ hnx, (((pw.rf.tr hpw18).st g35 f36 rfl).tr hp51), hm52, hk53⟩)
                      · have c_263 : ¬ (u49 = 0) := of_decide_eq_false c_263
                        refine ml_st (S' := (267, [(0, .ref m0), (2, .int x2), (3, .int x3), (4, .int (f2 f x1)), (5, .int i18_5), (6, .int (i18_6 ||| (1 <<< (i79_10 &&& 31)))), (7, .int i18_7), (8, .int (Int64.toInt32 (f4 f (i18_5 + 2)))), (11, .int u49)], [.int (-1)], M42)) rfl rfl rfl ?_
                        exact ml_ret rfl (rfl) (⟨_, _, _, rfl, hR46, ((eqI.rf.tr hI_18 (by decide)).tr hI47 (by decide)), (((eqR.rf.tr hV_18 (by decide)).put f36 (by decide)).tr hV48 (by decide)), ⟨Or.inl (by decide), (((pw.rf.tr hpw18).st g35 f36 rfl).tr hp51), hm52, hk53⟩⟩)
                    · have c_249 : ¬ (u49 ≤ 0) := of_decide_eq_false c_249
                      refine ml_blk 3 (S' := (257, [(6, .int (i18_6 ||| (1 <<< (i79_10 &&& 31)))), (11, .int u49), (0, .ref m0), (2, .int x2), (3, .int x3), (4, .int (f2 f x1)), (5, .int i18_5), (7, .int i18_7), (8, .int (Int64.toInt32 (f4 f (i18_5 + 2)))), (10, .int i79_10)], [.int i18_5, .int u49, .ref m0], M42)) rfl ?_
                      refine ml_call (a := [.ref m0, .int u49, .int i18_5]) (rest := []) rfl (hR46.okc rfl rfl rfl) rfl rfl (rm_wrong hR46 (by omega)) (fun v54 M55 h56 => ?_)
                      obtain ⟨u62, I57, R58, rfl, hR59, hI60, hV61, z63, w64⟩ := h56
                      show ml _ _ _ (260, [(6, .int (i18_6 ||| (1 <<< (i79_10 &&& 31)))), (11, .int u49), (0, .ref m0), (2, .int x2), (3, .int x3), (4, .int (f2 f x1)), (5, .int i18_5), (7, .int i18_7), (8, .int (Int64.toInt32 (f4 f (i18_5 + 2)))), (10, .int i79_10)], [.int u62], M55) _
                      refine ml_st (S' := (261, [(0, .ref m0), (2, .int x2), (3, .int x3), (4, .int (f2 f x1)), (5, .int i18_5), (6, .int (i18_6 ||| (1 <<< (i79_10 &&& 31)))), (7, .int i18_7), (8, .int (Int64.toInt32 (f4 f (i18_5 + 2)))), (11, .int u49)], [], M55)) rfl rfl rfl ?_
                      refine ml_st (S' := (263, [(0, .ref m0), (2, .int x2), (3, .int x3), (4, .int (f2 f x1)), (5, .int i18_5), (6, .int (i18_6 ||| (1 <<< (i79_10 &&& 31)))), (7, .int i18_7), (8, .int (Int64.toInt32 (f4 f (i18_5 + 2)))), (11, .int u49)], [.int u49], M55)) rfl rfl rfl ?_
                      refine ml_if (S1 := (268, [(0, .ref m0), (2, .int x2), (3, .int x3), (4, .int (f2 f x1)), (5, .int i18_5), (6, .int (i18_6 ||| (1 <<< (i79_10 &&& 31)))), (7, .int i18_7), (8, .int (Int64.toInt32 (f4 f (i18_5 + 2))))], [], M55)) (S2 := (266, [(0, .ref m0), (2, .int x2), (3, .int x3), (4, .int (f2 f x1)), (5, .int i18_5), (6, .int (i18_6 ||| (1 <<< (i79_10 &&& 31)))), (7, .int i18_7), (8, .int (Int64.toInt32 (f4 f (i18_5 + 2)))), (11, .int u49)], [], M55)) rfl rfl rfl (fun c_263 => ?_) (fun c_263 => ?_)
                      · have c_263 : u49 = 0 := of_decide_eq_true c_263
                        refine ml_blk 3 (S' := (274, [(0, .ref m0), (2, .int x2), (3, .int x3), (4, .int (f2 f x1)), (5, .int i18_5), (6, .int (i18_6 ||| (1 <<< (i79_10 &&& 31)))), (7, .int i18_7), (8, .int (Int64.toInt32 (f4 f (i18_5 + 2))))], [.int (Int64.toInt32 (f4 f (i18_5 + 2))), .int 6, .int i18_5], M55)) rfl ?_
                        refine ml_blk 2 (S' := (276, [(0, .ref m0), (2, .int x2), (3, .int x3), (4, .int (f2 f x1)), (5, .int i18_5), (6, .int (i18_6 ||| (1 <<< (i79_10 &&& 31)))), (7, .int i18_7), (8, .int (Int64.toInt32 (f4 f (i18_5 + 2))))], [.int (i18_5 + (6 + (Int64.toInt32 (f4 f (i18_5 + 2)))))], M55)) rfl ?_
                        refine ml_st (S' := (278, [(5, .int (i18_5 + (6 + (Int64.toInt32 (f4 f (i18_5 + 2)))))), (0, .ref m0), (2, .int x2), (3, .int x3), (4, .int (f2 f x1)), (6, .int (i18_6 ||| (1 <<< (i79_10 &&& 31)))), (7, .int i18_7), (8, .int (Int64.toInt32 (f4 f (i18_5 + 2))))], [], M55)) rfl rfl rfl ?_
                        refine ml_st (S' := (281, [(7, .int (i18_7 + 1)), (5, .int (i18_5 + (6 + (Int64.toInt32 (f4 f (i18_5 + 2)))))), (0, .ref m0), (2, .int x2), (3, .int x3), (4, .int (f2 f x1)), (6, .int (i18_6 ||| (1 <<< (i79_10 &&& 31)))), (8, .int (Int64.toInt32 (f4 f (i18_5 + 2))))], [], M55)) rfl rfl rfl ?_
                        refine ml_st (S' := (18, [(0, .ref m0), (2, .int x2), (3, .int x3), (4, .int (f2 f x1)), (5, .int (i18_5 + (6 + (Int64.toInt32 (f4 f (i18_5 + 2)))))), (6, .int (i18_6 ||| (1 <<< (i79_10 &&& 31)))), (7, .int (i18_7 + 1))], [], M55)) rfl rfl rfl ?_
                        exact ih_18 (i18_5 + (6 + (Int64.toInt32 (f4 f (i18_5 + 2))))) (i18_6 ||| (1 <<< (i79_10 &&& 31))) (i18_7 + 1) _ _ _ (loop_inc (Int32.not_le.mp c_22) hn_18) hR59 (((eqI.rf.tr hI_18 (by decide)).tr hI47 (by decide)).tr hI60 (by decide)) ((((eqR.rf.tr hV_18 (by decide)).put f36 (by decide)).tr hV48 (by decide)).tr hV61 (by decide)) (⟨by rw [inc_lt (Int32.not_le.mp c_22)]; omega, by rw [inc_lt (Int32.not_le.mp c_22)]; have := i_nle c_22; omega, hb1.eq hra ▸ hnx, ((((pw.rf.tr hpw18).st g35 f36 rfl).tr hp51).eq hV61), hm52.fr (fun k hk => by simp only [List.mem_cons, List.not_mem_nil, or_false] at hk; rcases hk with rfl | rfl | rfl | rfl | rfl | rfl; exact (congrFun ((hV61 37 (by decide))) _); exact (congrFun ((hV61 38 (by decide))) _); exact (congrFun ((hV61 39 (by decide))) _); exact (congrFun ((hV61 40 (by decide))) _); exact (congrFun ((hV61 41 (by decide))) _); exact (congrFun ((hV61 42 (by decide))) _)), (kn.eq hk53 hV61 (by decide))⟩)
                      · have c_263 : ¬ (u49 = 0) := of_decide_eq_false c_263
                        refine ml_st (S' := (267, [(0, .ref m0), (2, .int x2), (3, .int x3), (4, .int (f2 f x1)), (5, .int i18_5), (6, .int (i18_6 ||| (1 <<< (i79_10 &&& 31)))), (7, .int i18_7), (8, .int (Int64.toInt32 (f4 f (i18_5 + 2)))), (11, .int u49)], [.int (-1)], M55)) rfl rfl rfl ?_
                        exact ml_ret rfl (rfl) (⟨_, _, _, rfl, hR59, (((eqI.rf.tr hI_18 (by decide)).tr hI47 (by decide)).tr hI60 (by decide)), ((((eqR.rf.tr hV_18 (by decide)).put f36 (by decide)).tr hV48 (by decide)).tr hV61 (by decide)), ⟨Or.inl (by decide), ((((pw.rf.tr hpw18).st g35 f36 rfl).tr hp51).eq hV61), hm52.fr (fun k hk => by simp only [List.mem_cons, List.not_mem_nil, or_false] at hk; rcases hk with rfl | rfl | rfl | rfl | rfl | rfl; exact (congrFun ((hV61 37 (by decide))) _); exact (congrFun ((hV61 38 (by decide))) _); exact (congrFun ((hV61 39 (by decide))) _); exact (congrFun ((hV61 40 (by decide))) _); exact (congrFun ((hV61 41 (by decide))) _); exact (congrFun ((hV61 42 (by decide))) _)), (kn.eq hk53 hV61 (by decide))⟩⟩)
                  · have c_198 : ¬ (¬ ((i18_6 >>> (i79_10 &&& 31)) &&& 1) = 1) := of_decide_eq_false c_198
                    refine ml_blk 3 (S' := (206, [(0, .ref m0), (2, .int x2), (3, .int x3), (4, .int (f2 f x1)), (5, .int i18_5), (6, .int i18_6), (7, .int i18_7), (8, .int (Int64.toInt32 (f4 f (i18_5 + 2)))), (10, .int i79_10)], [.int i18_5, .int 29, .ref m0], M31)) rfl ?_
                    refine ml_call (a := [.ref m0, .int 29, .int i18_5]) (rest := []) rfl (hR33.okc rfl rfl rfl) rfl rfl (rm_wrong hR33 (by omega)) (fun v65 M66 h67 => ?_)
                    obtain ⟨u73, I68, R69, rfl, hR70, hI71, hV72, z74, w75⟩ := h67
                    show ml _ _ _ (209, [(0, .ref m0), (2, .int x2), (3, .int x3), (4, .int (f2 f x1)), (5, .int i18_5), (6, .int i18_6), (7, .int i18_7), (8, .int (Int64.toInt32 (f4 f (i18_5 + 2)))), (10, .int i79_10)], [.int u73], M66) _
                    refine ml_blk 2 (S' := (211, [(0, .ref m0), (2, .int x2), (3, .int x3), (4, .int (f2 f x1)), (5, .int i18_5), (6, .int i18_6), (7, .int i18_7), (8, .int (Int64.toInt32 (f4 f (i18_5 + 2)))), (10, .int i79_10)], [.int (-1)], M66)) rfl ?_
                    exact ml_ret rfl (rfl) (⟨_, _, _, rfl, hR70, ((eqI.rf.tr hI_18 (by decide)).tr hI71 (by decide)), (((eqR.rf.tr hV_18 (by decide)).put f36 (by decide)).tr hV72 (by decide)), ⟨Or.inl (by decide), (((pw.rf.tr hpw18).st g35 f36 rfl).eq hV72), hmc18.fr (fun k hk => by simp only [List.mem_cons, List.not_mem_nil, or_false] at hk; rcases hk with rfl | rfl | rfl | rfl | rfl | rfl; exact (congrFun ((hV72 37 (by decide)).trans ((f36 37 (by decide)))) _); exact (congrFun ((hV72 38 (by decide)).trans ((f36 38 (by decide)))) _); exact (congrFun ((hV72 39 (by decide)).trans ((f36 39 (by decide)))) _); exact (congrFun ((hV72 40 (by decide)).trans ((f36 40 (by decide)))) _); exact (congrFun ((hV72 41 (by decide)).trans ((f36 41 (by decide)))) _); exact (congrFun ((hV72 42 (by decide)).trans ((f36 42 (by decide)))) _)), (kn.eq (kn.st hkn18 e34 g35 f36) hV72 (by decide))⟩⟩)
              · have c_86 : ¬ ((nI 10) ≤ i79_11) := of_decide_eq_false c_86
                have hjl : i79_11.toInt < 10 := by have q := i_nle c_86; rw [nI_val (by decide)] at q; omega
                refine ml_st (S' := (90, [(0, .ref m0), (2, .int x2), (3, .int x3), (4, .int (f2 f x1)), (5, .int i18_5), (6, .int i18_6), (7, .int i18_7), (8, .int (Int64.toInt32 (f4 f (i18_5 + 2)))), (9, .int (pyf py (f2 f i18_5))), (10, .int i79_10), (11, .int i79_11)], [.ref m0], M_18)) rfl rfl rfl ?_
                refine rg_ref (S' := (93, [(0, .ref m0), (2, .int x2), (3, .int x3), (4, .int (f2 f x1)), (5, .int i18_5), (6, .int i18_6), (7, .int i18_7), (8, .int (Int64.toInt32 (f4 f (i18_5 + 2)))), (9, .int (pyf py (f2 f i18_5))), (10, .int i79_10), (11, .int i79_11)], [.ref (q 63)], M_18)) rfl hR_18 rfl rfl ?_
                refine ml_st (S' := (95, [(0, .ref m0), (2, .int x2), (3, .int x3), (4, .int (f2 f x1)), (5, .int i18_5), (6, .int i18_6), (7, .int i18_7), (8, .int (Int64.toInt32 (f4 f (i18_5 + 2)))), (9, .int (pyf py (f2 f i18_5))), (10, .int i79_10), (11, .int i79_11)], [.int i79_11, .ref (q 63)], M_18)) rfl rfl rfl ?_
                have hK76 : KW I_18 R_18 := (hK.mono (cIx hI_18 (by decide)) (cRx hV_18 (by decide)))
                refine ra_ld (k := 63) (S' := (96, [(0, .ref m0), (2, .int x2), (3, .int x3), (4, .int (f2 f x1)), (5, .int i18_5), (6, .int i18_6), (7, .int i18_7), (8, .int (Int64.toInt32 (f4 f (i18_5 + 2)))), (9, .int (pyf py (f2 f i18_5))), (10, .int i79_10), (11, .int i79_11)], [.int (kin i79_11)], M_18)) rfl hR_18 rfl (vin_lt hj0 (by omega)) (hK76.1 i79_11 hj0 hjl) rfl ?_
                refine ml_st (S' := (97, [(0, .ref m0), (2, .int x2), (3, .int x3), (4, .int (f2 f x1)), (5, .int i18_5), (6, .int i18_6), (7, .int i18_7), (8, .int (Int64.toInt32 (f4 f (i18_5 + 2)))), (9, .int (pyf py (f2 f i18_5))), (10, .int i79_10), (11, .int i79_11)], [.int x2, .int (kin i79_11)], M_18)) rfl rfl rfl ?_
                refine ml_if2 (S1 := (134, [(0, .ref m0), (2, .int x2), (3, .int x3), (4, .int (f2 f x1)), (5, .int i18_5), (6, .int i18_6), (7, .int i18_7), (8, .int (Int64.toInt32 (f4 f (i18_5 + 2)))), (9, .int (pyf py (f2 f i18_5))), (10, .int i79_10), (11, .int i79_11)], [], M_18)) (S2 := (100, [(0, .ref m0), (2, .int x2), (3, .int x3), (4, .int (f2 f x1)), (5, .int i18_5), (6, .int i18_6), (7, .int i18_7), (8, .int (Int64.toInt32 (f4 f (i18_5 + 2)))), (9, .int (pyf py (f2 f i18_5))), (10, .int i79_10), (11, .int i79_11)], [], M_18)) rfl rfl rfl (fun c_97 => ?_) (fun c_97 => ?_)
                · have c_97 : ¬ (kin i79_11) = x2 := of_decide_eq_true c_97
                  refine ml_st (S' := (137, [(11, .int (i79_11 + 1)), (0, .ref m0), (2, .int x2), (3, .int x3), (4, .int (f2 f x1)), (5, .int i18_5), (6, .int i18_6), (7, .int i18_7), (8, .int (Int64.toInt32 (f4 f (i18_5 + 2)))), (9, .int (pyf py (f2 f i18_5))), (10, .int i79_10)], [], M_18)) rfl rfl rfl ?_
                  refine ml_st (S' := (79, [(0, .ref m0), (2, .int x2), (3, .int x3), (4, .int (f2 f x1)), (5, .int i18_5), (6, .int i18_6), (7, .int i18_7), (8, .int (Int64.toInt32 (f4 f (i18_5 + 2)))), (9, .int (pyf py (f2 f i18_5))), (10, .int i79_10), (11, .int (i79_11 + 1))], [], M_18)) rfl rfl rfl ?_
                  exact ih_79 i79_10 (i79_11 + 1) (loop_inc (Int32.not_le.mp c_86) hn_79) (⟨by rw [inc_lt (Int32.not_le.mp c_86)]; omega, hjw⟩)
                · have c_97 : ¬ (¬ (kin i79_11) = x2) := of_decide_eq_false c_97
                  refine ml_st (S' := (101, [(0, .ref m0), (2, .int x2), (3, .int x3), (4, .int (f2 f x1)), (5, .int i18_5), (6, .int i18_6), (7, .int i18_7), (8, .int (Int64.toInt32 (f4 f (i18_5 + 2)))), (9, .int (pyf py (f2 f i18_5))), (10, .int i79_10), (11, .int i79_11)], [.ref m0], M_18)) rfl rfl rfl ?_
                  refine rg_int (S' := (104, [(0, .ref m0), (2, .int x2), (3, .int x3), (4, .int (f2 f x1)), (5, .int i18_5), (6, .int i18_6), (7, .int i18_7), (8, .int (Int64.toInt32 (f4 f (i18_5 + 2)))), (9, .int (pyf py (f2 f i18_5))), (10, .int i79_10), (11, .int i79_11)], [.int mj], M_18)) rfl hR_18 rfl ((hI_18 53 (by decide)).trans (hP.2.2.1)) rfl ?_
                  refine ml_st (S' := (105, [(0, .ref m0), (2, .int x2), (3, .int x3), (4, .int (f2 f x1)), (5, .int i18_5), (6, .int i18_6), (7, .int i18_7), (8, .int (Int64.toInt32 (f4 f (i18_5 + 2)))), (9, .int (pyf py (f2 f i18_5))), (10, .int i79_10), (11, .int i79_11)], [.ref m0, .int mj], M_18)) rfl rfl rfl ?_
                  refine rg_ref (S' := (108, [(0, .ref m0), (2, .int x2), (3, .int x3), (4, .int (f2 f x1)), (5, .int i18_5), (6, .int i18_6), (7, .int i18_7), (8, .int (Int64.toInt32 (f4 f (i18_5 + 2)))), (9, .int (pyf py (f2 f i18_5))), (10, .int i79_10), (11, .int i79_11)], [.ref (q 64), .int mj], M_18)) rfl hR_18 rfl rfl ?_
                  refine ml_st (S' := (110, [(0, .ref m0), (2, .int x2), (3, .int x3), (4, .int (f2 f x1)), (5, .int i18_5), (6, .int i18_6), (7, .int i18_7), (8, .int (Int64.toInt32 (f4 f (i18_5 + 2)))), (9, .int (pyf py (f2 f i18_5))), (10, .int i79_10), (11, .int i79_11)], [.int i79_11, .ref (q 64), .int mj], M_18)) rfl rfl rfl ?_
                  obtain ⟨v110, hv110⟩ := hK76.2 i79_11 hj0 hjl
                  refine ra_ld (k := 64) (S' := (111, [(0, .ref m0), (2, .int x2), (3, .int x3), (4, .int (f2 f x1)), (5, .int i18_5), (6, .int i18_6), (7, .int i18_7), (8, .int (Int64.toInt32 (f4 f (i18_5 + 2)))), (9, .int (pyf py (f2 f i18_5))), (10, .int i79_10), (11, .int i79_11)], [.int v110, .int mj], M_18)) rfl hR_18 rfl (vin_lt hj0 (by omega)) (hv110) rfl ?_
                  refine ml_if2 (S1 := (134, [(0, .ref m0), (2, .int x2), (3, .int x3), (4, .int (f2 f x1)), (5, .int i18_5), (6, .int i18_6), (7, .int i18_7), (8, .int (Int64.toInt32 (f4 f (i18_5 + 2)))), (9, .int (pyf py (f2 f i18_5))), (10, .int i79_10), (11, .int i79_11)], [], M_18)) (S2 := (114, [(0, .ref m0), (2, .int x2), (3, .int x3), (4, .int (f2 f x1)), (5, .int i18_5), (6, .int i18_6), (7, .int i18_7), (8, .int (Int64.toInt32 (f4 f (i18_5 + 2)))), (9, .int (pyf py (f2 f i18_5))), (10, .int i79_10), (11, .int i79_11)], [], M_18)) rfl rfl rfl (fun c_111 => ?_) (fun c_111 => ?_)
                  · have c_111 : mj < v110 := of_decide_eq_true c_111
                    refine ml_st (S' := (137, [(11, .int (i79_11 + 1)), (0, .ref m0), (2, .int x2), (3, .int x3), (4, .int (f2 f x1)), (5, .int i18_5), (6, .int i18_6), (7, .int i18_7), (8, .int (Int64.toInt32 (f4 f (i18_5 + 2)))), (9, .int (pyf py (f2 f i18_5))), (10, .int i79_10)], [], M_18)) rfl rfl rfl ?_
                    refine ml_st (S' := (79, [(0, .ref m0), (2, .int x2), (3, .int x3), (4, .int (f2 f x1)), (5, .int i18_5), (6, .int i18_6), (7, .int i18_7), (8, .int (Int64.toInt32 (f4 f (i18_5 + 2)))), (9, .int (pyf py (f2 f i18_5))), (10, .int i79_10), (11, .int (i79_11 + 1))], [], M_18)) rfl rfl rfl ?_
                    exact ih_79 i79_10 (i79_11 + 1) (loop_inc (Int32.not_le.mp c_86) hn_79) (⟨by rw [inc_lt (Int32.not_le.mp c_86)]; omega, hjw⟩)
                  · have c_111 : ¬ (mj < v110) := of_decide_eq_false c_111
                    refine ml_blk 3 (S' := (118, [(0, .ref m0), (2, .int x2), (3, .int x3), (4, .int (f2 f x1)), (5, .int i18_5), (6, .int i18_6), (7, .int i18_7), (8, .int (Int64.toInt32 (f4 f (i18_5 + 2)))), (9, .int (pyf py (f2 f i18_5))), (10, .int i79_10), (11, .int i79_11)], [.ref m0, .int (pyf py (f2 f i18_5)), .ref m0], M_18)) rfl ?_
                    refine rg_ref (S' := (121, [(0, .ref m0), (2, .int x2), (3, .int x3), (4, .int (f2 f x1)), (5, .int i18_5), (6, .int i18_6), (7, .int i18_7), (8, .int (Int64.toInt32 (f4 f (i18_5 + 2)))), (9, .int (pyf py (f2 f i18_5))), (10, .int i79_10), (11, .int i79_11)], [.ref (q 62), .int (pyf py (f2 f i18_5)), .ref m0], M_18)) rfl hR_18 rfl rfl ?_
                    refine ml_st (S' := (123, [(0, .ref m0), (2, .int x2), (3, .int x3), (4, .int (f2 f x1)), (5, .int i18_5), (6, .int i18_6), (7, .int i18_7), (8, .int (Int64.toInt32 (f4 f (i18_5 + 2)))), (9, .int (pyf py (f2 f i18_5))), (10, .int i79_10), (11, .int i79_11)], [.int i79_11, .ref (q 62), .int (pyf py (f2 f i18_5)), .ref m0], M_18)) rfl rfl rfl ?_
                    refine ra_kn (S' := (124, [(0, .ref m0), (2, .int x2), (3, .int x3), (4, .int (f2 f x1)), (5, .int i18_5), (6, .int i18_6), (7, .int i18_7), (8, .int (Int64.toInt32 (f4 f (i18_5 + 2)))), (9, .int (pyf py (f2 f i18_5))), (10, .int i79_10), (11, .int i79_11)], [.ref (g.2.1 (15 + Int32.toNatClampNeg i79_11)), .int (pyf py (f2 f i18_5)), .ref m0], M_18)) rfl hR_18 hj0 hjl rfl ?_
                    have hY77 : SK S cN sa sl ch I_18 R_18 := (hY.mono (cIx hI_18 (by decide)) (cRx hV_18 (by decide)))
                    refine ml_call (a := [.ref m0, .int (pyf py (f2 f i18_5)), .ref (g.2.1 (15 + Int32.toNatClampNeg i79_11))]) (rest := []) rfl (hR_18.okc rfl rfl rfl) rfl rfl (rm_is hR_18 hY77 (hy9.2.2.1) (hy9.2.2.2) (by show 15 ≤ 15 + i79_11.toInt.toNat ∧ 15 + i79_11.toInt.toNat < 30; omega) (by omega)) (fun v78 M79 h80 => ?_)
                    obtain ⟨⟨u81, rfl, z82⟩, h80⟩ := h80
                    rw [h80]
                    show ml _ _ _ (127, [(0, .ref m0), (2, .int x2), (3, .int x3), (4, .int (f2 f x1)), (5, .int i18_5), (6, .int i18_6), (7, .int i18_7), (8, .int (Int64.toInt32 (f4 f (i18_5 + 2)))), (9, .int (pyf py (f2 f i18_5))), (10, .int i79_10), (11, .int i79_11)], [.int u81], M_18) _
                    refine ml_if (S1 := (134, [(0, .ref m0), (2, .int x2), (3, .int x3), (4, .int (f2 f x1)), (5, .int i18_5), (6, .int i18_6), (7, .int i18_7), (8, .int (Int64.toInt32 (f4 f (i18_5 + 2)))), (9, .int (pyf py (f2 f i18_5))), (10, .int i79_10), (11, .int i79_11)], [], M_18)) (S2 := (130, [(0, .ref m0), (2, .int x2), (3, .int x3), (4, .int (f2 f x1)), (5, .int i18_5), (6, .int i18_6), (7, .int i18_7), (8, .int (Int64.toInt32 (f4 f (i18_5 + 2)))), (9, .int (pyf py (f2 f i18_5))), (10, .int i79_10), (11, .int i79_11)], [], M_18)) rfl rfl rfl (fun c_127 => ?_) (fun c_127 => ?_)
                    · have c_127 : u81 = 0 := of_decide_eq_true c_127
                      refine ml_st (S' := (137, [(11, .int (i79_11 + 1)), (0, .ref m0), (2, .int x2), (3, .int x3), (4, .int (f2 f x1)), (5, .int i18_5), (6, .int i18_6), (7, .int i18_7), (8, .int (Int64.toInt32 (f4 f (i18_5 + 2)))), (9, .int (pyf py (f2 f i18_5))), (10, .int i79_10)], [], M_18)) rfl rfl rfl ?_
                      refine ml_st (S' := (79, [(0, .ref m0), (2, .int x2), (3, .int x3), (4, .int (f2 f x1)), (5, .int i18_5), (6, .int i18_6), (7, .int i18_7), (8, .int (Int64.toInt32 (f4 f (i18_5 + 2)))), (9, .int (pyf py (f2 f i18_5))), (10, .int i79_10), (11, .int (i79_11 + 1))], [], M_18)) rfl rfl rfl ?_
                      exact ih_79 i79_10 (i79_11 + 1) (loop_inc (Int32.not_le.mp c_86) hn_79) (⟨by rw [inc_lt (Int32.not_le.mp c_86)]; omega, hjw⟩)
                    · have c_127 : ¬ (u81 = 0) := of_decide_eq_false c_127
                      refine ml_st (S' := (132, [(0, .ref m0), (2, .int x2), (3, .int x3), (4, .int (f2 f x1)), (5, .int i18_5), (6, .int i18_6), (7, .int i18_7), (8, .int (Int64.toInt32 (f4 f (i18_5 + 2)))), (9, .int (pyf py (f2 f i18_5))), (10, .int i79_10), (11, .int i79_11)], [.int i79_11], M_18)) rfl rfl rfl ?_
                      refine ml_st (S' := (134, [(0, .ref m0), (2, .int x2), (3, .int x3), (4, .int (f2 f x1)), (5, .int i18_5), (6, .int i18_6), (7, .int i18_7), (8, .int (Int64.toInt32 (f4 f (i18_5 + 2)))), (9, .int (pyf py (f2 f i18_5))), (10, .int i79_11), (11, .int i79_11)], [], M_18)) rfl rfl rfl ?_
                      refine ml_st (S' := (137, [(11, .int (i79_11 + 1)), (0, .ref m0), (2, .int x2), (3, .int x3), (4, .int (f2 f x1)), (5, .int i18_5), (6, .int i18_6), (7, .int i18_7), (8, .int (Int64.toInt32 (f4 f (i18_5 + 2)))), (9, .int (pyf py (f2 f i18_5))), (10, .int i79_11)], [], M_18)) rfl rfl rfl ?_
                      refine ml_st (S' := (79, [(0, .ref m0), (2, .int x2), (3, .int x3), (4, .int (f2 f x1)), (5, .int i18_5), (6, .int i18_6), (7, .int i18_7), (8, .int (Int64.toInt32 (f4 f (i18_5 + 2)))), (9, .int (pyf py (f2 f i18_5))), (10, .int i79_11), (11, .int (i79_11 + 1))], [], M_18)) rfl rfl rfl ?_
                      exact ih_79 i79_11 (i79_11 + 1) (loop_inc (Int32.not_le.mp c_86) hn_79) (⟨by rw [inc_lt (Int32.not_le.mp c_86)]; omega, Or.inr ⟨hj0, hjl, Decidable.not_not.mp c_97⟩⟩)
          exact L_79 _ (-1) 0 (Nat.le_refl _) (⟨by decide, Or.inl (by decide)⟩)
        · have c_47 : ¬ ((tgf f cp pa (f2 f i18_5)) = 1) := of_decide_eq_false c_47
          refine ml_blk 3 (S' := (55, [(8, .int (Int64.toInt32 (f4 f (i18_5 + 2)))), (0, .ref m0), (2, .int x2), (3, .int x3), (4, .int (f2 f x1)), (5, .int i18_5), (6, .int i18_6), (7, .int i18_7)], [.int i18_5, .int 28, .ref m0], M_18)) rfl ?_
          refine ml_call (a := [.ref m0, .int 28, .int i18_5]) (rest := []) rfl (hR_18.okc rfl rfl rfl) rfl rfl (rm_wrong hR_18 (by omega)) (fun v83 M84 h85 => ?_)
          obtain ⟨u91, I86, R87, rfl, hR88, hI89, hV90, z92, w93⟩ := h85
          show ml _ _ _ (58, [(8, .int (Int64.toInt32 (f4 f (i18_5 + 2)))), (0, .ref m0), (2, .int x2), (3, .int x3), (4, .int (f2 f x1)), (5, .int i18_5), (6, .int i18_6), (7, .int i18_7)], [.int u91], M84) _
          refine ml_blk 2 (S' := (60, [(8, .int (Int64.toInt32 (f4 f (i18_5 + 2)))), (0, .ref m0), (2, .int x2), (3, .int x3), (4, .int (f2 f x1)), (5, .int i18_5), (6, .int i18_6), (7, .int i18_7)], [.int (-1)], M84)) rfl ?_
          exact ml_ret rfl (rfl) (⟨_, _, _, rfl, hR88, ((eqI.rf.tr hI_18 (by decide)).tr hI89 (by decide)), ((eqR.rf.tr hV_18 (by decide)).tr hV90 (by decide)), ⟨Or.inl (by decide), ((pw.rf.tr hpw18).eq hV90), hmc18.fr (fun k hk => by simp only [List.mem_cons, List.not_mem_nil, or_false] at hk; rcases hk with rfl | rfl | rfl | rfl | rfl | rfl; exact (congrFun ((hV90 37 (by decide))) _); exact (congrFun ((hV90 38 (by decide))) _); exact (congrFun ((hV90 39 (by decide))) _); exact (congrFun ((hV90 40 (by decide))) _); exact (congrFun ((hV90 41 (by decide))) _); exact (congrFun ((hV90 42 (by decide))) _)), (kn.eq hkn18 hV90 (by decide))⟩⟩)
  exact L_18 _ (x1 + 2) 0 0 _ _ _ (Nat.le_refl _) hR eqI.rf eqR.rf (⟨by decide, by show (0 : Int) ≤ _; exact f2_pos, by rw [show ((f2 f x1).toInt - (0 : Int32).toInt).toNat = (f2 f x1).toInt.toNat by have : (0 : Int32).toInt = 0 := rfl; omega]; exact hat.2.2.1, pw.rf, hmc, hkn⟩)
end
section
set_option maxHeartbeats 2000000 in
theorem rm_attr0 {g : xe_G}  {m0 : Nat} {q : Nat → Nat} {z : Nat × Nat} {I : rI} {R : rR} {M : mi_H} {x1 x2 x3 x4 x5 x6 : Int32} {n : Nat} {f : Nat → Int32} {S cN : Nat} {sa sl ch : Nat → Int32} {cp mj : Int32} {pa py : Nat → Int32} {fl ds : Int32}  (hR : RS g m0 q z I R M) (hF : FK n f I R) (hY : SK S cN sa sl ch I R) (hP : PK n f S cp mj pa py I R) (hw : x1 = 0) (h0 : 0 ≤ x3.toInt) (h1 : x3.toInt ≤ x4.toInt) (h2 : x4.toInt ≤ n) (ho0 : 0 ≤ x5.toInt) (ho1 : x5.toInt < 8300) (hfl : R 27 x5.toNatClampNeg = some fl) (hds : R 29 x5.toNatClampNeg = some ds) (hd0 : 0 ≤ ds.toInt) (hd1 : ds.toInt < S) (hln : 0 < (sL sl ds).toInt) (hkn : kn [30, 31] x5.toNatClampNeg R) {d : Nat} (hd : 6 ≤ d) : mt (mT g) d 177 [.ref m0, .int x1, .int x2, .int x3, .int x4, .int x5, .int x6] M (fun v M' => ∃ (x : Int32) (I' : rI) (R' : rR), v = some (.int x) ∧ RS g m0 q z I' R' M' ∧ eqI [] I I' ∧ eqR [30] R R' ∧ pw x5.toNatClampNeg R R' ∧ kn [30, 31] x5.toNatClampNeg R') := by
  obtain ⟨d, rfl⟩ : ∃ e, d = e + 1 := ⟨d - 1, by omega⟩
  refine mt_in (b := mb_177 g) rfl rfl ?_
  show ml (mT g) d (mb_177 g).2 (0, [(0, .ref m0), (1, .int x1), (2, .int x2), (3, .int x3), (4, .int x4), (5, .int x5), (6, .int x6)], [], M) _
  have hn := hF.1
  refine ml_st (S' := (1, [(0, .ref m0), (1, .int x1), (2, .int x2), (3, .int x3), (4, .int x4), (5, .int x5), (6, .int x6)], [.int x1], M)) rfl rfl rfl ?_
  refine ml_sw rfl (fun t_1 ht_1 => ?_)
  have kt_1 := ht_1
  have ht_1 : t_1 ∈ [56, 208, 219, 398, 400, 542, 550, 600] := mi_sw_sub ht_1 (by decide)
  simp only [List.mem_cons, List.not_mem_nil, or_false] at ht_1
  rcases ht_1 with rfl | rfl | rfl | rfl | rfl | rfl | rfl | rfl
  · show ml _ _ _ (56, [(0, .ref m0), (1, .int x1), (2, .int x2), (3, .int x3), (4, .int x4), (5, .int x5), (6, .int x6)], [], M) _
    refine ml_blk 3 (S' := (60, [(0, .ref m0), (1, .int x1), (2, .int x2), (3, .int x3), (4, .int x4), (5, .int x5), (6, .int x6)], [.int (x4 - x3)], M)) rfl ?_
    refine ml_st (S' := (61, [(0, .ref m0), (1, .int x1), (2, .int x2), (3, .int x3), (4, .int x4), (5, .int x5), (6, .int x6)], [.int 2, .int (x4 - x3)], M)) rfl rfl rfl ?_
    refine ml_if2 (S1 := (67, [(0, .ref m0), (1, .int x1), (2, .int x2), (3, .int x3), (4, .int x4), (5, .int x5), (6, .int x6)], [], M)) (S2 := (64, [(0, .ref m0), (1, .int x1), (2, .int x2), (3, .int x3), (4, .int x4), (5, .int x5), (6, .int x6)], [], M)) rfl rfl rfl (fun c_61 => ?_) (fun c_61 => ?_)
    · have c_61 : (x4 - x3) = 2 := of_decide_eq_true c_61
      have hd2 : (x4 - x3).toInt = 2 := by rw [c_61]; rfl
      rw [i_sub (by omega) (by omega)] at hd2
      refine ml_st (S' := (68, [(0, .ref m0), (1, .int x1), (2, .int x2), (3, .int x3), (4, .int x4), (5, .int x5), (6, .int x6)], [.ref m0], M)) rfl rfl rfl ?_
      refine rg_ref (S' := (71, [(0, .ref m0), (1, .int x1), (2, .int x2), (3, .int x3), (4, .int x4), (5, .int x5), (6, .int x6)], [.ref (q 27)], M)) rfl hR rfl rfl ?_
      refine ml_st (S' := (73, [(0, .ref m0), (1, .int x1), (2, .int x2), (3, .int x3), (4, .int x4), (5, .int x5), (6, .int x6)], [.int x5, .ref (q 27)], M)) rfl rfl rfl ?_
      refine ra_ld (k := 27) (S' := (74, [(0, .ref m0), (1, .int x1), (2, .int x2), (3, .int x3), (4, .int x4), (5, .int x5), (6, .int x6)], [.int fl], M)) rfl hR rfl (vin_lt ho0 (by omega)) (hfl) rfl ?_
      refine ml_blk 2 (S' := (77, [(0, .ref m0), (1, .int x1), (2, .int x2), (3, .int x3), (4, .int x4), (5, .int x5), (6, .int x6)], [.int (fl &&& 8)], M)) rfl ?_
      refine ml_if (S1 := (82, [(0, .ref m0), (1, .int x1), (2, .int x2), (3, .int x3), (4, .int x4), (5, .int x5), (6, .int x6)], [], M)) (S2 := (80, [(0, .ref m0), (1, .int x1), (2, .int x2), (3, .int x3), (4, .int x4), (5, .int x5), (6, .int x6)], [], M)) rfl rfl rfl (fun c_77 => ?_) (fun c_77 => ?_)
      · have c_77 : ¬ (fl &&& 8) = 0 := of_decide_eq_true c_77
        refine ml_blk 2 (S' := (84, [(0, .ref m0), (1, .int x1), (2, .int x2), (3, .int x3), (4, .int x4), (5, .int x5), (6, .int x6)], [.ref m0, .ref m0], M)) rfl ?_
        refine rg_ref (S' := (87, [(0, .ref m0), (1, .int x1), (2, .int x2), (3, .int x3), (4, .int x4), (5, .int x5), (6, .int x6)], [.ref (q 29), .ref m0], M)) rfl hR rfl rfl ?_
        refine ml_st (S' := (89, [(0, .ref m0), (1, .int x1), (2, .int x2), (3, .int x3), (4, .int x4), (5, .int x5), (6, .int x6)], [.int x5, .ref (q 29), .ref m0], M)) rfl rfl rfl ?_
        refine ra_ld (k := 29) (S' := (90, [(0, .ref m0), (1, .int x1), (2, .int x2), (3, .int x3), (4, .int x4), (5, .int x5), (6, .int x6)], [.int ds, .ref m0], M)) rfl hR rfl (vin_lt ho0 (by omega)) (hds) rfl ?_
        refine ml_st (S' := (91, [(0, .ref m0), (1, .int x1), (2, .int x2), (3, .int x3), (4, .int x4), (5, .int x5), (6, .int x6)], [.int 0, .int ds, .ref m0], M)) rfl rfl rfl ?_
        refine ml_call (a := [.ref m0, .int ds, .int 0]) (rest := []) rfl (hR.okc rfl rfl rfl) rfl rfl (rm_at hR hY (hd0) (hd1) (by decide) (by have : (0 : Int32).toInt = 0 := rfl; omega) (by omega)) (fun v11 M12 h13 => ?_)
        obtain ⟨rfl, h13⟩ := h13
        rw [h13]
        show ml _ _ _ (94, [(0, .ref m0), (1, .int x1), (2, .int x2), (3, .int x3), (4, .int x4), (5, .int x5), (6, .int x6)], [.int (tx sa ch ds 0)], M) _
        refine ml_st (S' := (96, [(7, .int (tx sa ch ds 0)), (0, .ref m0), (1, .int x1), (2, .int x2), (3, .int x3), (4, .int x4), (5, .int x5), (6, .int x6)], [], M)) rfl rfl rfl ?_
        refine ml_blk 2 (S' := (100, [(7, .int (tx sa ch ds 0)), (0, .ref m0), (1, .int x1), (2, .int x2), (3, .int x3), (4, .int x4), (5, .int x5), (6, .int x6)], [.int 74, .int (tx sa ch ds 0)], M)) rfl ?_
        have J_175 : ∀ (s175_0 : Int32), ml (mT g) d (mb_177 g).2 (175, [(0, .ref m0), (3, .int x3), (5, .int x5)], [.int s175_0], M) (fun v M' => ∃ (x : Int32) (I' : rI) (R' : rR), v = some (.int x) ∧ RS g m0 q z I' R' M' ∧ eqI [] I I' ∧ eqR [30] R R' ∧ pw x5.toNatClampNeg R R' ∧ kn [30, 31] x5.toNatClampNeg R') := by
          intro s175_0
          refine ml_st (S' := (177, [(8, .int s175_0), (0, .ref m0), (3, .int x3), (5, .int x5)], [], M)) rfl rfl rfl ?_
          refine ml_blk 3 (S' := (180, [(8, .int s175_0), (0, .ref m0), (3, .int x3), (5, .int x5)], [.int x3, .ref m0, .ref m0], M)) rfl ?_
          refine ml_call (a := [.ref m0, .int x3]) (rest := [.ref m0]) rfl (hR.okc rfl rfl rfl) rfl rfl (rm_u2 hR hF (h0) (by omega) (by omega)) (fun v14 M15 h16 => ?_)
          obtain ⟨rfl, h16⟩ := h16
          rw [h16]
          show ml _ _ _ (183, [(8, .int s175_0), (0, .ref m0), (3, .int x3), (5, .int x5)], [.int (f2 f x3), .ref m0], M) _
          refine ml_call (a := [.ref m0, .int (f2 f x3)]) (rest := []) rfl (hR.okc rfl rfl rfl) rfl rfl (rm_tag hR hF hP (by omega)) (fun v17 M18 h19 => ?_)
          obtain ⟨rfl, h19⟩ := h19
          rw [h19]
          show ml _ _ _ (186, [(8, .int s175_0), (0, .ref m0), (3, .int x3), (5, .int x5)], [.int (tgf f cp pa (f2 f x3))], M) _
          refine ml_st (S' := (188, [(8, .int s175_0), (0, .ref m0), (3, .int x3), (5, .int x5)], [.int s175_0, .int (tgf f cp pa (f2 f x3))], M)) rfl rfl rfl ?_
          refine ml_if2 (S1 := (194, [(8, .int s175_0), (0, .ref m0), (3, .int x3), (5, .int x5)], [], M)) (S2 := (191, [(8, .int s175_0), (0, .ref m0), (3, .int x3), (5, .int x5)], [], M)) rfl rfl rfl (fun c_188 => ?_) (fun c_188 => ?_)
          · have c_188 : (tgf f cp pa (f2 f x3)) = s175_0 := of_decide_eq_true c_188
            refine ml_st (S' := (195, [(8, .int s175_0), (0, .ref m0), (3, .int x3), (5, .int x5)], [.ref m0], M)) rfl rfl rfl ?_
            refine rg_ref (S' := (198, [(8, .int s175_0), (0, .ref m0), (3, .int x3), (5, .int x5)], [.ref (q 30)], M)) rfl hR rfl rfl ?_
            refine ml_blk 3 (S' := (202, [(8, .int s175_0), (0, .ref m0), (3, .int x3), (5, .int x5)], [.int x3, .ref m0, .int x5, .ref (q 30)], M)) rfl ?_
            refine ml_call (a := [.ref m0, .int x3]) (rest := [.int x5, .ref (q 30)]) rfl (hR.okc rfl rfl rfl) rfl rfl (rm_u2 hR hF (h0) (by omega) (by omega)) (fun v20 M21 h22 => ?_)
            obtain ⟨rfl, h22⟩ := h22
            rw [h22]
            show ml _ _ _ (205, [(8, .int s175_0), (0, .ref m0), (3, .int x3), (5, .int x5)], [.int (f2 f x3), .int x5, .ref (q 30)], M) _
            refine ra_st (k := 30) rfl hR rfl (vin_lt ho0 (by omega)) (fun M23 R24 hR25 e26 g27 f28 => ?_)
            show ml _ _ _ (206, [(8, .int s175_0), (0, .ref m0), (3, .int x3), (5, .int x5)], [], M23) _
            refine ml_st (S' := (207, [(8, .int s175_0), (0, .ref m0), (3, .int x3), (5, .int x5)], [.int 0], M23)) rfl rfl rfl ?_
            exact ml_ret rfl (rfl) (⟨_, _, _, rfl, hR25, eqI.rf, (eqR.rf.put f28 (by decide)), ⟨(pw.rf.st g27 f28 rfl), (kn.st hkn e26 g27 f28)⟩⟩)
          · have c_188 : ¬ ((tgf f cp pa (f2 f x3)) = s175_0) := of_decide_eq_false c_188
            refine ml_st (S' := (193, [(8, .int s175_0), (0, .ref m0), (3, .int x3), (5, .int x5)], [.int 31], M)) rfl rfl rfl ?_
            exact ml_ret rfl (rfl) (⟨_, _, _, rfl, hR, eqI.rf, eqR.rf, ⟨pw.rf, hkn⟩⟩)
        refine ml_if2 (S1 := (107, [(7, .int (tx sa ch ds 0)), (0, .ref m0), (1, .int x1), (2, .int x2), (3, .int x3), (4, .int x4), (5, .int x5), (6, .int x6)], [], M)) (S2 := (103, [(7, .int (tx sa ch ds 0)), (0, .ref m0), (1, .int x1), (2, .int x2), (3, .int x3), (4, .int x4), (5, .int x5), (6, .int x6)], [], M)) rfl rfl rfl (fun c_100 => ?_) (fun c_100 => ?_)
        · have c_100 : ¬ (tx sa ch ds 0) = 74 := of_decide_eq_true c_100
          refine ml_blk 2 (S' := (111, [(7, .int (tx sa ch ds 0)), (0, .ref m0), (1, .int x1), (2, .int x2), (3, .int x3), (4, .int x4), (5, .int x5), (6, .int x6)], [.int 70, .int (tx sa ch ds 0)], M)) rfl ?_
          refine ml_if2 (S1 := (118, [(7, .int (tx sa ch ds 0)), (0, .ref m0), (1, .int x1), (2, .int x2), (3, .int x3), (4, .int x4), (5, .int x5), (6, .int x6)], [], M)) (S2 := (114, [(7, .int (tx sa ch ds 0)), (0, .ref m0), (1, .int x1), (2, .int x2), (3, .int x3), (4, .int x4), (5, .int x5), (6, .int x6)], [], M)) rfl rfl rfl (fun c_111 => ?_) (fun c_111 => ?_)
          · have c_111 : ¬ (tx sa ch ds 0) = 70 := of_decide_eq_true c_111
            refine ml_blk 2 (S' := (122, [(7, .int (tx sa ch ds 0)), (0, .ref m0), (1, .int x1), (2, .int x2), (3, .int x3), (4, .int x4), (5, .int x5), (6, .int x6)], [.int 68, .int (tx sa ch ds 0)], M)) rfl ?_
            refine ml_if2 (S1 := (130, [(7, .int (tx sa ch ds 0)), (0, .ref m0), (1, .int x1), (2, .int x2), (3, .int x3), (4, .int x4), (5, .int x5), (6, .int x6)], [], M)) (S2 := (125, [(7, .int (tx sa ch ds 0)), (0, .ref m0), (1, .int x1), (2, .int x2), (3, .int x3), (4, .int x4), (5, .int x5), (6, .int x6)], [], M)) rfl rfl rfl (fun c_122 => ?_) (fun c_122 => ?_)
            · have c_122 : ¬ (tx sa ch ds 0) = 68 := of_decide_eq_true c_122
              refine ml_blk 2 (S' := (134, [(7, .int (tx sa ch ds 0)), (0, .ref m0), (1, .int x1), (2, .int x2), (3, .int x3), (4, .int x4), (5, .int x5), (6, .int x6)], [.int 76, .int (tx sa ch ds 0)], M)) rfl ?_
              refine ml_if2 (S1 := (163, [(7, .int (tx sa ch ds 0)), (0, .ref m0), (1, .int x1), (2, .int x2), (3, .int x3), (4, .int x4), (5, .int x5), (6, .int x6)], [], M)) (S2 := (137, [(7, .int (tx sa ch ds 0)), (0, .ref m0), (1, .int x1), (2, .int x2), (3, .int x3), (4, .int x4), (5, .int x5), (6, .int x6)], [], M)) rfl rfl rfl (fun c_134 => ?_) (fun c_134 => ?_)
              · have c_134 : ¬ (tx sa ch ds 0) = 76 := of_decide_eq_true c_134
                refine ml_blk 2 (S' := (167, [(7, .int (tx sa ch ds 0)), (0, .ref m0), (1, .int x1), (2, .int x2), (3, .int x3), (4, .int x4), (5, .int x5), (6, .int x6)], [.int 91, .int (tx sa ch ds 0)], M)) rfl ?_
                refine ml_if2 (S1 := (174, [(7, .int (tx sa ch ds 0)), (0, .ref m0), (1, .int x1), (2, .int x2), (3, .int x3), (4, .int x4), (5, .int x5), (6, .int x6)], [], M)) (S2 := (170, [(7, .int (tx sa ch ds 0)), (0, .ref m0), (1, .int x1), (2, .int x2), (3, .int x3), (4, .int x4), (5, .int x5), (6, .int x6)], [], M)) rfl rfl rfl (fun c_167 => ?_) (fun c_167 => ?_)
                · have c_167 : ¬ (tx sa ch ds 0) = 91 := of_decide_eq_true c_167
                  refine ml_st (S' := (175, [(0, .ref m0), (3, .int x3), (5, .int x5)], [.int 3], M)) rfl rfl rfl ?_
                  exact J_175 3
                · have c_167 : ¬ (¬ (tx sa ch ds 0) = 91) := of_decide_eq_false c_167
                  refine ml_st (S' := (171, [(7, .int (tx sa ch ds 0)), (0, .ref m0), (1, .int x1), (2, .int x2), (3, .int x3), (4, .int x4), (5, .int x5), (6, .int x6)], [.int (-1)], M)) rfl rfl rfl ?_
                  refine ml_st (S' := (175, [(0, .ref m0), (3, .int x3), (5, .int x5)], [.int (-1)], M)) rfl rfl rfl ?_
                  exact J_175 (-1)
              · have c_134 : ¬ (¬ (tx sa ch ds 0) = 76) := of_decide_eq_false c_134
                refine ml_blk 2 (S' := (139, [(7, .int (tx sa ch ds 0)), (0, .ref m0), (1, .int x1), (2, .int x2), (3, .int x3), (4, .int x4), (5, .int x5), (6, .int x6)], [.ref m0, .ref m0], M)) rfl ?_
                refine rg_ref (S' := (142, [(7, .int (tx sa ch ds 0)), (0, .ref m0), (1, .int x1), (2, .int x2), (3, .int x3), (4, .int x4), (5, .int x5), (6, .int x6)], [.ref (q 29), .ref m0], M)) rfl hR rfl rfl ?_
                refine ml_st (S' := (144, [(7, .int (tx sa ch ds 0)), (0, .ref m0), (1, .int x1), (2, .int x2), (3, .int x3), (4, .int x4), (5, .int x5), (6, .int x6)], [.int x5, .ref (q 29), .ref m0], M)) rfl rfl rfl ?_
                refine ra_ld (k := 29) (S' := (145, [(7, .int (tx sa ch ds 0)), (0, .ref m0), (1, .int x1), (2, .int x2), (3, .int x3), (4, .int x4), (5, .int x5), (6, .int x6)], [.int ds, .ref m0], M)) rfl hR rfl (vin_lt ho0 (by omega)) (hds) rfl ?_
                refine ml_st (S' := (148, [(7, .int (tx sa ch ds 0)), (0, .ref m0), (1, .int x1), (2, .int x2), (3, .int x3), (4, .int x4), (5, .int x5), (6, .int x6)], [.ref (g.2.1 28), .int ds, .ref m0], M)) rfl rfl rfl ?_
                refine ml_call (a := [.ref m0, .int ds, .ref (g.2.1 28)]) (rest := []) rfl (hR.okc rfl rfl rfl) rfl rfl (rm_is hR hY (hd0) (hd1) (by decide) (by omega)) (fun v29 M30 h31 => ?_)
                obtain ⟨⟨u32, rfl, z33⟩, h31⟩ := h31
                rw [h31]
                show ml _ _ _ (151, [(7, .int (tx sa ch ds 0)), (0, .ref m0), (1, .int x1), (2, .int x2), (3, .int x3), (4, .int x4), (5, .int x5), (6, .int x6)], [.int u32], M) _
                refine ml_if (S1 := (159, [(7, .int (tx sa ch ds 0)), (0, .ref m0), (1, .int x1), (2, .int x2), (3, .int x3), (4, .int x4), (5, .int x5), (6, .int x6)], [], M)) (S2 := (154, [(7, .int (tx sa ch ds 0)), (0, .ref m0), (1, .int x1), (2, .int x2), (3, .int x3), (4, .int x4), (5, .int x5), (6, .int x6)], [], M)) rfl rfl rfl (fun c_151 => ?_) (fun c_151 => ?_)
                · have c_151 : u32 = 0 := of_decide_eq_true c_151
                  refine ml_st (S' := (160, [(7, .int (tx sa ch ds 0)), (0, .ref m0), (1, .int x1), (2, .int x2), (3, .int x3), (4, .int x4), (5, .int x5), (6, .int x6)], [.int (-1)], M)) rfl rfl rfl ?_
                  refine ml_st (S' := (175, [(0, .ref m0), (3, .int x3), (5, .int x5)], [.int (-1)], M)) rfl rfl rfl ?_
                  exact J_175 (-1)
                · have c_151 : ¬ (u32 = 0) := of_decide_eq_false c_151
                  refine ml_st (S' := (156, [(7, .int (tx sa ch ds 0)), (0, .ref m0), (1, .int x1), (2, .int x2), (3, .int x3), (4, .int x4), (5, .int x5), (6, .int x6)], [.int 8], M)) rfl rfl rfl ?_
                  refine ml_st (S' := (175, [(0, .ref m0), (3, .int x3), (5, .int x5)], [.int 8], M)) rfl rfl rfl ?_
                  exact J_175 8
            · have c_122 : ¬ (¬ (tx sa ch ds 0) = 68) := of_decide_eq_false c_122
              refine ml_st (S' := (127, [(7, .int (tx sa ch ds 0)), (0, .ref m0), (1, .int x1), (2, .int x2), (3, .int x3), (4, .int x4), (5, .int x5), (6, .int x6)], [.int 6], M)) rfl rfl rfl ?_
              refine ml_st (S' := (175, [(0, .ref m0), (3, .int x3), (5, .int x5)], [.int 6], M)) rfl rfl rfl ?_
              exact J_175 6
          · have c_111 : ¬ (¬ (tx sa ch ds 0) = 70) := of_decide_eq_false c_111
            refine ml_st (S' := (115, [(7, .int (tx sa ch ds 0)), (0, .ref m0), (1, .int x1), (2, .int x2), (3, .int x3), (4, .int x4), (5, .int x5), (6, .int x6)], [.int 4], M)) rfl rfl rfl ?_
            refine ml_st (S' := (175, [(0, .ref m0), (3, .int x3), (5, .int x5)], [.int 4], M)) rfl rfl rfl ?_
            exact J_175 4
        · have c_100 : ¬ (¬ (tx sa ch ds 0) = 74) := of_decide_eq_false c_100
          refine ml_st (S' := (104, [(7, .int (tx sa ch ds 0)), (0, .ref m0), (1, .int x1), (2, .int x2), (3, .int x3), (4, .int x4), (5, .int x5), (6, .int x6)], [.int 5], M)) rfl rfl rfl ?_
          refine ml_st (S' := (175, [(0, .ref m0), (3, .int x3), (5, .int x5)], [.int 5], M)) rfl rfl rfl ?_
          exact J_175 5
      · have c_77 : ¬ (¬ (fl &&& 8) = 0) := of_decide_eq_false c_77
        refine ml_st (S' := (81, [(0, .ref m0), (1, .int x1), (2, .int x2), (3, .int x3), (4, .int x4), (5, .int x5), (6, .int x6)], [.int 0], M)) rfl rfl rfl ?_
        exact ml_ret rfl (rfl) (⟨_, _, _, rfl, hR, eqI.rf, eqR.rf, ⟨pw.rf, hkn⟩⟩)
    · have c_61 : ¬ ((x4 - x3) = 2) := of_decide_eq_false c_61
      refine ml_st (S' := (66, [(0, .ref m0), (1, .int x1), (2, .int x2), (3, .int x3), (4, .int x4), (5, .int x5), (6, .int x6)], [.int 30], M)) rfl rfl rfl ?_
      exact ml_ret rfl (rfl) (⟨_, _, _, rfl, hR, eqI.rf, eqR.rf, ⟨pw.rf, hkn⟩⟩)
  · show ml _ _ _ (208, [(0, .ref m0), (1, .int x1), (2, .int x2), (3, .int x3), (4, .int x4), (5, .int x5), (6, .int x6)], [], M) _
    exfalso
    rw [hw] at kt_1
    exact absurd kt_1 (by decide)
  · show ml _ _ _ (219, [(0, .ref m0), (1, .int x1), (2, .int x2), (3, .int x3), (4, .int x4), (5, .int x5), (6, .int x6)], [], M) _
    exfalso
    rw [hw] at kt_1
    exact absurd kt_1 (by decide)
  · show ml _ _ _ (398, [(0, .ref m0), (1, .int x1), (2, .int x2), (3, .int x3), (4, .int x4), (5, .int x5), (6, .int x6)], [], M) _
    exfalso
    rw [hw] at kt_1
    exact absurd kt_1 (by decide)
  · show ml _ _ _ (400, [(0, .ref m0), (1, .int x1), (2, .int x2), (3, .int x3), (4, .int x4), (5, .int x5), (6, .int x6)], [], M) _
    exfalso
    rw [hw] at kt_1
    exact absurd kt_1 (by decide)
  · show ml _ _ _ (542, [(0, .ref m0), (1, .int x1), (2, .int x2), (3, .int x3), (4, .int x4), (5, .int x5), (6, .int x6)], [], M) _
    exfalso
    rw [hw] at kt_1
    exact absurd kt_1 (by decide)
  · show ml _ _ _ (550, [(0, .ref m0), (1, .int x1), (2, .int x2), (3, .int x3), (4, .int x4), (5, .int x5), (6, .int x6)], [], M) _
    exfalso
    rw [hw] at kt_1
    exact absurd kt_1 (by decide)
  · show ml _ _ _ (600, [(0, .ref m0), (1, .int x1), (2, .int x2), (3, .int x3), (4, .int x4), (5, .int x5), (6, .int x6)], [], M) _
    exfalso
    rw [hw] at kt_1
    exact absurd kt_1 (by decide)
set_option maxHeartbeats 2000000 in
theorem rm_checkAttributes1 {g : xe_G}  {m0 : Nat} {q : Nat → Nat} {z : Nat × Nat} {I : rI} {R : rR} {M : mi_H} {x1 x2 x3 : Int32} {n : Nat} {f : Nat → Int32} {S cN : Nat} {sa sl ch : Nat → Int32} {cp mj : Int32} {pa py : Nat → Int32} {e : Int32} {fl ds : Int32}  (hR : RS g m0 q z I R M) (hF : FK n f I R) (hY : SK S cN sa sl ch I R) (hP : PK n f S cp mj pa py I R) (hK : KW I R) (hw : x2 = 1) (hat : AT f n x1 e) (ho0 : 0 ≤ x3.toInt) (ho1 : x3.toInt < 8300) (hfl : R 27 x3.toNatClampNeg = some fl) (hds : R 29 x3.toNatClampNeg = some ds) (hd0 : 0 ≤ ds.toInt) (hd1 : ds.toInt < S) (hln : 0 < (sL sl ds).toInt) (hkn : kn [30, 31] x3.toNatClampNeg R) {d : Nat} (hd : 7 ≤ d) : mt (mT g) d 187 [.ref m0, .int x1, .int x2, .int x3] M (fun v M' => ∃ (x : Int32) (I' : rI) (R' : rR), v = some (.int x) ∧ RS g m0 q z I' R' M' ∧ eqI [47, 48] I I' ∧ eqR [30, 31] R R' ∧ (x.toInt < 0 ∨ x = e) ∧ pw x3.toNatClampNeg R R' ∧ kn [30, 31] x3.toNatClampNeg R') := by
  obtain ⟨d, rfl⟩ : ∃ e, d = e + 1 := ⟨d - 1, by omega⟩
  refine mt_in (b := mb_187 g) rfl rfl ?_
  show ml (mT g) d (mb_187 g).2 (0, [(0, .ref m0), (1, .int x1), (2, .int x2), (3, .int x3)], [], M) _
  have hn := hF.1
  refine ml_blk 2 (S' := (2, [(0, .ref m0), (1, .int x1), (2, .int x2), (3, .int x3)], [.int x1, .ref m0], M)) rfl ?_
  refine ml_call (a := [.ref m0, .int x1]) (rest := []) rfl (hR.okc rfl rfl rfl) rfl rfl (rm_u2 hR hF (hat.1) (hat.2.1) (by omega)) (fun v11 M12 h13 => ?_)
  obtain ⟨rfl, h13⟩ := h13
  rw [h13]
  show ml _ _ _ (5, [(0, .ref m0), (1, .int x1), (2, .int x2), (3, .int x3)], [.int (f2 f x1)], M) _
  refine ml_st (S' := (7, [(4, .int (f2 f x1)), (0, .ref m0), (1, .int x1), (2, .int x2), (3, .int x3)], [], M)) rfl rfl rfl ?_
  refine ml_blk 3 (S' := (10, [(4, .int (f2 f x1)), (0, .ref m0), (1, .int x1), (2, .int x2), (3, .int x3)], [.int (x1 + 2)], M)) rfl ?_
  refine ml_st (S' := (12, [(5, .int (x1 + 2)), (4, .int (f2 f x1)), (0, .ref m0), (1, .int x1), (2, .int x2), (3, .int x3)], [], M)) rfl rfl rfl ?_
  refine ml_st (S' := (13, [(5, .int (x1 + 2)), (4, .int (f2 f x1)), (0, .ref m0), (1, .int x1), (2, .int x2), (3, .int x3)], [.int 0], M)) rfl rfl rfl ?_
  refine ml_st (S' := (15, [(6, .int 0), (5, .int (x1 + 2)), (4, .int (f2 f x1)), (0, .ref m0), (1, .int x1), (2, .int x2), (3, .int x3)], [], M)) rfl rfl rfl ?_
  refine ml_st (S' := (16, [(6, .int 0), (5, .int (x1 + 2)), (4, .int (f2 f x1)), (0, .ref m0), (1, .int x1), (2, .int x2), (3, .int x3)], [.int 0], M)) rfl rfl rfl ?_
  refine ml_st (S' := (18, [(0, .ref m0), (2, .int x2), (3, .int x3), (4, .int (f2 f x1)), (5, .int (x1 + 2)), (6, .int 0), (7, .int 0)], [], M)) rfl rfl rfl ?_
  have L_18 : ∀ (n_18 : Nat) (i18_5 : Int32) (i18_6 : Int32) (i18_7 : Int32) (M_18 : mi_H) (I_18 : rI) (R_18 : rR), (2147483648 - i18_7.toInt).toNat ≤ n_18 → RS g m0 q z I_18 R_18 M_18 → eqI [47, 48] I I_18 → eqR [30, 31] R R_18 → (0 ≤ i18_7.toInt ∧ i18_7.toInt ≤ (f2 f x1).toInt ∧ itr (RA1 f n) ((f2 f x1).toInt - i18_7.toInt).toNat i18_5 e ∧ pw x3.toNatClampNeg R R_18 ∧ kn [30, 31] x3.toNatClampNeg R_18) → ml (mT g) d (mb_187 g).2 (18, [(0, .ref m0), (2, .int x2), (3, .int x3), (4, .int (f2 f x1)), (5, .int i18_5), (6, .int i18_6), (7, .int i18_7)], [], M_18) (fun v M' => ∃ (x : Int32) (I' : rI) (R' : rR), v = some (.int x) ∧ RS g m0 q z I' R' M' ∧ eqI [47, 48] I I' ∧ eqR [30, 31] R R' ∧ (x.toInt < 0 ∨ x = e) ∧ pw x3.toNatClampNeg R R' ∧ kn [30, 31] x3.toNatClampNeg R') := by
    intro n_18
    induction n_18 with
    | zero => intro i18_5 i18_6 i18_7 M_18 I_18 R_18 hn; exact (loop_zero hn).elim
    | succ n_18 ih_18 =>
      intro i18_5 i18_6 i18_7 M_18 I_18 R_18 hn_18 hR_18 hI_18 hV_18 hi_18
      obtain ⟨hk0, hk1, hit, hqw18, hkn18⟩ := hi_18
      refine ml_blk 2 (S' := (22, [(0, .ref m0), (2, .int x2), (3, .int x3), (4, .int (f2 f x1)), (5, .int i18_5), (6, .int i18_6), (7, .int i18_7)], [.int (f2 f x1), .int i18_7], M_18)) rfl ?_
      refine ml_if2 (S1 := (284, [(0, .ref m0), (2, .int x2), (3, .int x3), (4, .int (f2 f x1)), (5, .int i18_5), (6, .int i18_6), (7, .int i18_7)], [], M_18)) (S2 := (25, [(0, .ref m0), (2, .int x2), (3, .int x3), (4, .int (f2 f x1)), (5, .int i18_5), (6, .int i18_6), (7, .int i18_7)], [], M_18)) rfl rfl rfl (fun c_22 => ?_) (fun c_22 => ?_)
      · have c_22 : (f2 f x1) ≤ i18_7 := of_decide_eq_true c_22
        refine ml_st (S' := (286, [(0, .ref m0), (2, .int x2), (3, .int x3), (4, .int (f2 f x1)), (5, .int i18_5), (6, .int i18_6), (7, .int i18_7)], [.int i18_5], M_18)) rfl rfl rfl ?_
        exact ml_ret rfl (rfl) (⟨_, _, _, rfl, hR_18, (eqI.rf.tr hI_18 (by decide)), (eqR.rf.tr hV_18 (by decide)), ⟨Or.inr (itr_one hit (by have := i_le c_22; omega)).symm, (pw.rf.tr hqw18), hkn18⟩⟩)
      · have c_22 : ¬ ((f2 f x1) ≤ i18_7) := of_decide_eq_false c_22
        obtain ⟨b1, hb1, hnx⟩ := itr_next hit c_22
        have hb2 := hb1
        obtain ⟨g0, g1, g2, g3⟩ := hb2
        have ep2 : (i18_5 + 2).toInt = i18_5.toInt + 2 := i_add (by have : (2 : Int32).toInt = 2 := rfl; omega) (by have : (2 : Int32).toInt = 2 := rfl; omega)
        have ep6 : (i18_5 + 6).toInt = i18_5.toInt + 6 := i_add (by have : (6 : Int32).toInt = 6 := rfl; omega) (by have : (6 : Int32).toInt = 6 := rfl; omega)
        have hra := ra_of (f := f) hn g0 g2
        have hl0 := f4_pos (f := f) (x := i18_5 + 2)
        have hle : (i18_5 + 6 + Int64.toInt32 (f4 f (i18_5 + 2))).toInt = i18_5.toInt + 6 + (f4 f (i18_5 + 2)).toInt := by have di : (Int64.toInt32 (f4 f (i18_5 + 2))).toInt = (f4 f (i18_5 + 2)).toInt := i_of (by omega) (by omega); rw [i_add (by omega) (by omega), di, ep6]
        refine ml_blk 3 (S' := (29, [(0, .ref m0), (2, .int x2), (3, .int x3), (4, .int (f2 f x1)), (5, .int i18_5), (6, .int i18_6), (7, .int i18_7)], [.int 2, .int i18_5, .ref m0], M_18)) rfl ?_
        refine ml_st (S' := (30, [(0, .ref m0), (2, .int x2), (3, .int x3), (4, .int (f2 f x1)), (5, .int i18_5), (6, .int i18_6), (7, .int i18_7)], [.int (i18_5 + 2), .ref m0], M_18)) rfl rfl rfl ?_
        have hF14 : FK n f I_18 R_18 := (hF.mono (cIx hI_18 (by decide)) (cRx hV_18 (by decide)))
        refine ml_call (a := [.ref m0, .int (i18_5 + 2)]) (rest := []) rfl (hR_18.okc rfl rfl rfl) rfl rfl (rm_u4 hR_18 hF14 (by omega) (by omega) (by omega)) (fun v15 M16 h17 => ?_)
        obtain ⟨rfl, h17⟩ := h17
        rw [h17]
        show ml _ _ _ (33, [(0, .ref m0), (2, .int x2), (3, .int x3), (4, .int (f2 f x1)), (5, .int i18_5), (6, .int i18_6), (7, .int i18_7)], [.long (f4 f (i18_5 + 2))], M_18) _
        refine ml_st (S' := (34, [(0, .ref m0), (2, .int x2), (3, .int x3), (4, .int (f2 f x1)), (5, .int i18_5), (6, .int i18_6), (7, .int i18_7)], [.int (Int64.toInt32 (f4 f (i18_5 + 2)))], M_18)) rfl rfl rfl ?_
        refine ml_st (S' := (36, [(8, .int (Int64.toInt32 (f4 f (i18_5 + 2)))), (0, .ref m0), (2, .int x2), (3, .int x3), (4, .int (f2 f x1)), (5, .int i18_5), (6, .int i18_6), (7, .int i18_7)], [], M_18)) rfl rfl rfl ?_
        refine ml_blk 3 (S' := (40, [(8, .int (Int64.toInt32 (f4 f (i18_5 + 2)))), (0, .ref m0), (2, .int x2), (3, .int x3), (4, .int (f2 f x1)), (5, .int i18_5), (6, .int i18_6), (7, .int i18_7)], [.int i18_5, .ref m0, .ref m0], M_18)) rfl ?_
        refine ml_call (a := [.ref m0, .int i18_5]) (rest := [.ref m0]) rfl (hR_18.okc rfl rfl rfl) rfl rfl (rm_u2 hR_18 hF14 (g0) (by omega) (by omega)) (fun v18 M19 h20 => ?_)
        obtain ⟨rfl, h20⟩ := h20
        rw [h20]
        show ml _ _ _ (43, [(8, .int (Int64.toInt32 (f4 f (i18_5 + 2)))), (0, .ref m0), (2, .int x2), (3, .int x3), (4, .int (f2 f x1)), (5, .int i18_5), (6, .int i18_6), (7, .int i18_7)], [.int (f2 f i18_5), .ref m0], M_18) _
        have hP21 : PK n f S cp mj pa py I_18 R_18 := (hP.mono (cIx hI_18 (by decide)) (cRx hV_18 (by decide)))
        refine ml_call (a := [.ref m0, .int (f2 f i18_5)]) (rest := []) rfl (hR_18.okc rfl rfl rfl) rfl rfl (rm_tag hR_18 hF14 hP21 (by omega)) (fun v22 M23 h24 => ?_)
        obtain ⟨rfl, h24⟩ := h24
        rw [h24]
        show ml _ _ _ (46, [(8, .int (Int64.toInt32 (f4 f (i18_5 + 2)))), (0, .ref m0), (2, .int x2), (3, .int x3), (4, .int (f2 f x1)), (5, .int i18_5), (6, .int i18_6), (7, .int i18_7)], [.int (tgf f cp pa (f2 f i18_5))], M_18) _
        refine ml_st (S' := (47, [(8, .int (Int64.toInt32 (f4 f (i18_5 + 2)))), (0, .ref m0), (2, .int x2), (3, .int x3), (4, .int (f2 f x1)), (5, .int i18_5), (6, .int i18_6), (7, .int i18_7)], [.int 1, .int (tgf f cp pa (f2 f i18_5))], M_18)) rfl rfl rfl ?_
        refine ml_if2 (S1 := (61, [(8, .int (Int64.toInt32 (f4 f (i18_5 + 2)))), (0, .ref m0), (2, .int x2), (3, .int x3), (4, .int (f2 f x1)), (5, .int i18_5), (6, .int i18_6), (7, .int i18_7)], [], M_18)) (S2 := (50, [(8, .int (Int64.toInt32 (f4 f (i18_5 + 2)))), (0, .ref m0), (2, .int x2), (3, .int x3), (4, .int (f2 f x1)), (5, .int i18_5), (6, .int i18_6), (7, .int i18_7)], [], M_18)) rfl rfl rfl (fun c_47 => ?_) (fun c_47 => ?_)
        · have c_47 : (tgf f cp pa (f2 f i18_5)) = 1 := of_decide_eq_true c_47
          refine ml_blk 3 (S' := (65, [(8, .int (Int64.toInt32 (f4 f (i18_5 + 2)))), (0, .ref m0), (2, .int x2), (3, .int x3), (4, .int (f2 f x1)), (5, .int i18_5), (6, .int i18_6), (7, .int i18_7)], [.int i18_5, .ref m0, .ref m0], M_18)) rfl ?_
          refine ml_call (a := [.ref m0, .int i18_5]) (rest := [.ref m0]) rfl (hR_18.okc rfl rfl rfl) rfl rfl (rm_u2 hR_18 hF14 (g0) (by omega) (by omega)) (fun v25 M26 h27 => ?_)
          obtain ⟨rfl, h27⟩ := h27
          rw [h27]
          show ml _ _ _ (68, [(8, .int (Int64.toInt32 (f4 f (i18_5 + 2)))), (0, .ref m0), (2, .int x2), (3, .int x3), (4, .int (f2 f x1)), (5, .int i18_5), (6, .int i18_6), (7, .int i18_7)], [.int (f2 f i18_5), .ref m0], M_18) _
          refine ml_call (a := [.ref m0, .int (f2 f i18_5)]) (rest := []) rfl (hR_18.okc rfl rfl rfl) rfl rfl (rm_symOf hR_18 hP21 (c_47) (by omega)) (fun v28 M29 h30 => ?_)
          obtain ⟨rfl, h30⟩ := h30
          rw [h30]
          show ml _ _ _ (71, [(8, .int (Int64.toInt32 (f4 f (i18_5 + 2)))), (0, .ref m0), (2, .int x2), (3, .int x3), (4, .int (f2 f x1)), (5, .int i18_5), (6, .int i18_6), (7, .int i18_7)], [.int (pyf py (f2 f i18_5))], M_18) _
          refine ml_st (S' := (73, [(9, .int (pyf py (f2 f i18_5))), (8, .int (Int64.toInt32 (f4 f (i18_5 + 2)))), (0, .ref m0), (2, .int x2), (3, .int x3), (4, .int (f2 f x1)), (5, .int i18_5), (6, .int i18_6), (7, .int i18_7)], [], M_18)) rfl rfl rfl ?_
          have hy9 := hP.y (show tgf f cp pa (f2 f i18_5) = 1 from c_47)
          refine ml_st (S' := (74, [(9, .int (pyf py (f2 f i18_5))), (8, .int (Int64.toInt32 (f4 f (i18_5 + 2)))), (0, .ref m0), (2, .int x2), (3, .int x3), (4, .int (f2 f x1)), (5, .int i18_5), (6, .int i18_6), (7, .int i18_7)], [.int (-1)], M_18)) rfl rfl rfl ?_
          refine ml_st (S' := (76, [(10, .int (-1)), (9, .int (pyf py (f2 f i18_5))), (8, .int (Int64.toInt32 (f4 f (i18_5 + 2)))), (0, .ref m0), (2, .int x2), (3, .int x3), (4, .int (f2 f x1)), (5, .int i18_5), (6, .int i18_6), (7, .int i18_7)], [], M_18)) rfl rfl rfl ?_
          refine ml_st (S' := (77, [(10, .int (-1)), (9, .int (pyf py (f2 f i18_5))), (8, .int (Int64.toInt32 (f4 f (i18_5 + 2)))), (0, .ref m0), (2, .int x2), (3, .int x3), (4, .int (f2 f x1)), (5, .int i18_5), (6, .int i18_6), (7, .int i18_7)], [.int 0], M_18)) rfl rfl rfl ?_
          refine ml_st (S' := (79, [(0, .ref m0), (2, .int x2), (3, .int x3), (4, .int (f2 f x1)), (5, .int i18_5), (6, .int i18_6), (7, .int i18_7), (8, .int (Int64.toInt32 (f4 f (i18_5 + 2)))), (9, .int (pyf py (f2 f i18_5))), (10, .int (-1)), (11, .int 0)], [], M_18)) rfl rfl rfl ?_
          have L_79 : ∀ (n_79 : Nat) (i79_10 : Int32) (i79_11 : Int32), (2147483648 - i79_11.toInt).toNat ≤ n_79 → (0 ≤ i79_11.toInt ∧ (i79_10 < 0 ∨ (0 ≤ i79_10.toInt ∧ i79_10.toInt < 10 ∧ kin i79_10 = x2))) → ml (mT g) d (mb_187 g).2 (79, [(0, .ref m0), (2, .int x2), (3, .int x3), (4, .int (f2 f x1)), (5, .int i18_5), (6, .int i18_6), (7, .int i18_7), (8, .int (Int64.toInt32 (f4 f (i18_5 + 2)))), (9, .int (pyf py (f2 f i18_5))), (10, .int i79_10), (11, .int i79_11)], [], M_18) (fun v M' => ∃ (x : Int32) (I' : rI) (R' : rR), v = some (.int x) ∧ RS g m0 q z I' R' M' ∧ eqI [47, 48] I I' ∧ eqR [30, 31] R R' ∧ (x.toInt < 0 ∨ x = e) ∧ pw x3.toNatClampNeg R R' ∧ kn [30, 31] x3.toNatClampNeg R') := by
            intro n_79
            induction n_79 with
            | zero => intro i79_10 i79_11 hn; exact (loop_zero hn).elim
            | succ n_79 ih_79 =>
              intro i79_10 i79_11 hn_79 hi_79
              obtain ⟨hj0, hjw⟩ := hi_79
              refine ml_blk 2 (S' := (82, [(0, .ref m0), (2, .int x2), (3, .int x3), (4, .int (f2 f x1)), (5, .int i18_5), (6, .int i18_6), (7, .int i18_7), (8, .int (Int64.toInt32 (f4 f (i18_5 + 2)))), (9, .int (pyf py (f2 f i18_5))), (10, .int i79_10), (11, .int i79_11)], [.ref m0, .int i79_11], M_18)) rfl ?_
              refine rg_ref (S' := (85, [(0, .ref m0), (2, .int x2), (3, .int x3), (4, .int (f2 f x1)), (5, .int i18_5), (6, .int i18_6), (7, .int i18_7), (8, .int (Int64.toInt32 (f4 f (i18_5 + 2)))), (9, .int (pyf py (f2 f i18_5))), (10, .int i79_10), (11, .int i79_11)], [.ref (q 62), .int i79_11], M_18)) rfl hR_18 rfl rfl ?_
              refine rl_kn (S' := (86, [(0, .ref m0), (2, .int x2), (3, .int x3), (4, .int (f2 f x1)), (5, .int i18_5), (6, .int i18_6), (7, .int i18_7), (8, .int (Int64.toInt32 (f4 f (i18_5 + 2)))), (9, .int (pyf py (f2 f i18_5))), (10, .int i79_10), (11, .int i79_11)], [.int (nI 10), .int i79_11], M_18)) rfl hR_18 rfl ?_
              refine ml_if2 (S1 := (140, [(0, .ref m0), (2, .int x2), (3, .int x3), (4, .int (f2 f x1)), (5, .int i18_5), (6, .int i18_6), (7, .int i18_7), (8, .int (Int64.toInt32 (f4 f (i18_5 + 2)))), (9, .int (pyf py (f2 f i18_5))), (10, .int i79_10), (11, .int i79_11)], [], M_18)) (S2 := (89, [(0, .ref m0), (2, .int x2), (3, .int x3), (4, .int (f2 f x1)), (5, .int i18_5), (6, .int i18_6), (7, .int i18_7), (8, .int (Int64.toInt32 (f4 f (i18_5 + 2)))), (9, .int (pyf py (f2 f i18_5))), (10, .int i79_10), (11, .int i79_11)], [], M_18)) rfl rfl rfl (fun c_86 => ?_) (fun c_86 => ?_)
              · have c_86 : (nI 10) ≤ i79_11 := of_decide_eq_true c_86
                refine ml_st (S' := (142, [(0, .ref m0), (2, .int x2), (3, .int x3), (4, .int (f2 f x1)), (5, .int i18_5), (6, .int i18_6), (7, .int i18_7), (8, .int (Int64.toInt32 (f4 f (i18_5 + 2)))), (9, .int (pyf py (f2 f i18_5))), (10, .int i79_10), (11, .int i79_11)], [.int i79_10], M_18)) rfl rfl rfl ?_
                refine ml_if (S1 := (268, [(0, .ref m0), (2, .int x2), (3, .int x3), (4, .int (f2 f x1)), (5, .int i18_5), (6, .int i18_6), (7, .int i18_7), (8, .int (Int64.toInt32 (f4 f (i18_5 + 2))))], [], M_18)) (S2 := (145, [(0, .ref m0), (2, .int x2), (3, .int x3), (4, .int (f2 f x1)), (5, .int i18_5), (6, .int i18_6), (7, .int i18_7), (8, .int (Int64.toInt32 (f4 f (i18_5 + 2)))), (9, .int (pyf py (f2 f i18_5))), (10, .int i79_10), (11, .int i79_11)], [], M_18)) rfl rfl rfl (fun c_142 => ?_) (fun c_142 => ?_)
                · have c_142 : i79_10 < 0 := of_decide_eq_true c_142
                  refine ml_blk 3 (S' := (274, [(0, .ref m0), (2, .int x2), (3, .int x3), (4, .int (f2 f x1)), (5, .int i18_5), (6, .int i18_6), (7, .int i18_7), (8, .int (Int64.toInt32 (f4 f (i18_5 + 2))))], [.int (Int64.toInt32 (f4 f (i18_5 + 2))), .int 6, .int i18_5], M_18)) rfl ?_
                  refine ml_blk 2 (S' := (276, [(0, .ref m0), (2, .int x2), (3, .int x3), (4, .int (f2 f x1)), (5, .int i18_5), (6, .int i18_6), (7, .int i18_7), (8, .int (Int64.toInt32 (f4 f (i18_5 + 2))))], [.int (i18_5 + (6 + (Int64.toInt32 (f4 f (i18_5 + 2)))))], M_18)) rfl ?_
                  refine ml_st (S' := (278, [(5, .int (i18_5 + (6 + (Int64.toInt32 (f4 f (i18_5 + 2)))))), (0, .ref m0), (2, .int x2), (3, .int x3), (4, .int (f2 f x1)), (6, .int i18_6), (7, .int i18_7), (8, .int (Int64.toInt32 (f4 f (i18_5 + 2))))], [], M_18)) rfl rfl rfl ?_
                  refine ml_st (S' := (281, [(7, .int (i18_7 + 1)), (5, .int (i18_5 + (6 + (Int64.toInt32 (f4 f (i18_5 + 2)))))), (0, .ref m0), (2, .int x2), (3, .int x3), (4, .int (f2 f x1)), (6, .int i18_6), (8, .int (Int64.toInt32 (f4 f (i18_5 + 2))))], [], M_18)) rfl rfl rfl ?_
                  refine ml_st (S' := (18, [(0, .ref m0), (2, .int x2), (3, .int x3), (4, .int (f2 f x1)), (5, .int (i18_5 + (6 + (Int64.toInt32 (f4 f (i18_5 + 2)))))), (6, .int i18_6), (7, .int (i18_7 + 1))], [], M_18)) rfl rfl rfl ?_
                  exact ih_18 (i18_5 + (6 + (Int64.toInt32 (f4 f (i18_5 + 2))))) i18_6 (i18_7 + 1) _ _ _ (loop_inc (Int32.not_le.mp c_22) hn_18) hR_18 (eqI.rf.tr hI_18 (by decide)) (eqR.rf.tr hV_18 (by decide)) (⟨by rw [inc_lt (Int32.not_le.mp c_22)]; omega, by rw [inc_lt (Int32.not_le.mp c_22)]; have := i_nle c_22; omega, hb1.eq hra ▸ hnx, (pw.rf.tr hqw18), hkn18⟩)
                · have c_142 : ¬ (i79_10 < 0) := of_decide_eq_false c_142
                  have hwn := hjw.resolve_left c_142
                  refine ml_blk 2 (S' := (147, [(0, .ref m0), (2, .int x2), (3, .int x3), (4, .int (f2 f x1)), (5, .int i18_5), (6, .int i18_6), (7, .int i18_7), (8, .int (Int64.toInt32 (f4 f (i18_5 + 2)))), (9, .int (pyf py (f2 f i18_5))), (10, .int i79_10), (11, .int i79_11)], [.int 1, .int x2], M_18)) rfl ?_
                  refine ml_if2 (S1 := (160, [(0, .ref m0), (2, .int x2), (3, .int x3), (4, .int (f2 f x1)), (5, .int i18_5), (6, .int i18_6), (7, .int i18_7), (8, .int (Int64.toInt32 (f4 f (i18_5 + 2)))), (10, .int i79_10)], [], M_18)) (S2 := (150, [(0, .ref m0), (2, .int x2), (3, .int x3), (4, .int (f2 f x1)), (5, .int i18_5), (6, .int i18_6), (7, .int i18_7), (8, .int (Int64.toInt32 (f4 f (i18_5 + 2)))), (9, .int (pyf py (f2 f i18_5))), (10, .int i79_10), (11, .int i79_11)], [], M_18)) rfl rfl rfl (fun c_147 => ?_) (fun c_147 => ?_)
                  · exact absurd (of_decide_eq_true c_147) ((fun h => h hw))
                  refine ml_st (S' := (151, [(0, .ref m0), (2, .int x2), (3, .int x3), (4, .int (f2 f x1)), (5, .int i18_5), (6, .int i18_6), (7, .int i18_7), (8, .int (Int64.toInt32 (f4 f (i18_5 + 2)))), (9, .int (pyf py (f2 f i18_5))), (10, .int i79_10), (11, .int i79_11)], [.ref m0], M_18)) rfl rfl rfl ?_
                  refine rg_ref (S' := (154, [(0, .ref m0), (2, .int x2), (3, .int x3), (4, .int (f2 f x1)), (5, .int i18_5), (6, .int i18_6), (7, .int i18_7), (8, .int (Int64.toInt32 (f4 f (i18_5 + 2)))), (9, .int (pyf py (f2 f i18_5))), (10, .int i79_10), (11, .int i79_11)], [.ref (q 31)], M_18)) rfl hR_18 rfl rfl ?_
                  refine ml_blk 2 (S' := (156, [(0, .ref m0), (2, .int x2), (3, .int x3), (4, .int (f2 f x1)), (5, .int i18_5), (6, .int i18_6), (7, .int i18_7), (8, .int (Int64.toInt32 (f4 f (i18_5 + 2)))), (9, .int (pyf py (f2 f i18_5))), (10, .int i79_10), (11, .int i79_11)], [.int x3, .ref (q 31), .int x3, .ref (q 31)], M_18)) rfl ?_
                  obtain ⟨v156, hv156⟩ := hkn18 31 (by decide)
                  refine ra_ld (k := 31) (S' := (157, [(0, .ref m0), (2, .int x2), (3, .int x3), (4, .int (f2 f x1)), (5, .int i18_5), (6, .int i18_6), (7, .int i18_7), (8, .int (Int64.toInt32 (f4 f (i18_5 + 2)))), (9, .int (pyf py (f2 f i18_5))), (10, .int i79_10), (11, .int i79_11)], [.int v156, .int x3, .ref (q 31)], M_18)) rfl hR_18 rfl (vin_lt ho0 (by omega)) (hv156) rfl ?_
                  refine ml_blk 2 (S' := (159, [(0, .ref m0), (2, .int x2), (3, .int x3), (4, .int (f2 f x1)), (5, .int i18_5), (6, .int i18_6), (7, .int i18_7), (8, .int (Int64.toInt32 (f4 f (i18_5 + 2)))), (9, .int (pyf py (f2 f i18_5))), (10, .int i79_10), (11, .int i79_11)], [.int (v156 + 1), .int x3, .ref (q 31)], M_18)) rfl ?_
                  refine ra_st (k := 31) rfl hR_18 rfl (vin_lt ho0 (by omega)) (fun M31 R32 hR33 e34 g35 f36 => ?_)
                  show ml _ _ _ (160, [(0, .ref m0), (2, .int x2), (3, .int x3), (4, .int (f2 f x1)), (5, .int i18_5), (6, .int i18_6), (7, .int i18_7), (8, .int (Int64.toInt32 (f4 f (i18_5 + 2)))), (10, .int i79_10)], [], M31) _
                  refine ml_blk 2 (S' := (162, [(0, .ref m0), (2, .int x2), (3, .int x3), (4, .int (f2 f x1)), (5, .int i18_5), (6, .int i18_6), (7, .int i18_7), (8, .int (Int64.toInt32 (f4 f (i18_5 + 2)))), (10, .int i79_10)], [.int 2, .int x2], M31)) rfl ?_
                  refine ml_if2 (S1 := (175, [(0, .ref m0), (2, .int x2), (3, .int x3), (4, .int (f2 f x1)), (5, .int i18_5), (6, .int i18_6), (7, .int i18_7), (8, .int (Int64.toInt32 (f4 f (i18_5 + 2)))), (10, .int i79_10)], [], M31)) (S2 := (165, [(0, .ref m0), (2, .int x2), (3, .int x3), (4, .int (f2 f x1)), (5, .int i18_5), (6, .int i18_6), (7, .int i18_7), (8, .int (Int64.toInt32 (f4 f (i18_5 + 2)))), (10, .int i79_10)], [], M31)) rfl rfl rfl (fun c_162 => ?_) (fun c_162 => ?_)
                  rotate_left
                  · exact absurd ((by rw [hw]; decide : ¬ x2 = 2)) (of_decide_eq_false c_162)
                  refine ml_blk 2 (S' := (177, [(0, .ref m0), (2, .int x2), (3, .int x3), (4, .int (f2 f x1)), (5, .int i18_5), (6, .int i18_6), (7, .int i18_7), (8, .int (Int64.toInt32 (f4 f (i18_5 + 2)))), (10, .int i79_10)], [.int 4, .int x2], M31)) rfl ?_
                  refine ml_if2 (S1 := (190, [(0, .ref m0), (2, .int x2), (3, .int x3), (4, .int (f2 f x1)), (5, .int i18_5), (6, .int i18_6), (7, .int i18_7), (8, .int (Int64.toInt32 (f4 f (i18_5 + 2)))), (10, .int i79_10)], [], M31)) (S2 := (180, [(0, .ref m0), (2, .int x2), (3, .int x3), (4, .int (f2 f x1)), (5, .int i18_5), (6, .int i18_6), (7, .int i18_7), (8, .int (Int64.toInt32 (f4 f (i18_5 + 2)))), (10, .int i79_10)], [], M31)) rfl rfl rfl (fun c_177 => ?_) (fun c_177 => ?_)
                  rotate_left
                  · exact absurd ((by rw [hw]; decide : ¬ x2 = 4)) (of_decide_eq_false c_177)
                  refine ml_blk 3 (S' := (195, [(0, .ref m0), (2, .int x2), (3, .int x3), (4, .int (f2 f x1)), (5, .int i18_5), (6, .int i18_6), (7, .int i18_7), (8, .int (Int64.toInt32 (f4 f (i18_5 + 2)))), (10, .int i79_10)], [.int (i18_6 >>> (i79_10 &&& 31))], M31)) rfl ?_
                  refine ml_blk 3 (S' := (198, [(0, .ref m0), (2, .int x2), (3, .int x3), (4, .int (f2 f x1)), (5, .int i18_5), (6, .int i18_6), (7, .int i18_7), (8, .int (Int64.toInt32 (f4 f (i18_5 + 2)))), (10, .int i79_10)], [.int 1, .int ((i18_6 >>> (i79_10 &&& 31)) &&& 1)], M31)) rfl ?_
                  refine ml_if2 (S1 := (212, [(0, .ref m0), (2, .int x2), (3, .int x3), (4, .int (f2 f x1)), (5, .int i18_5), (6, .int i18_6), (7, .int i18_7), (8, .int (Int64.toInt32 (f4 f (i18_5 + 2)))), (10, .int i79_10)], [], M31)) (S2 := (201, [(0, .ref m0), (2, .int x2), (3, .int x3), (4, .int (f2 f x1)), (5, .int i18_5), (6, .int i18_6), (7, .int i18_7), (8, .int (Int64.toInt32 (f4 f (i18_5 + 2)))), (10, .int i79_10)], [], M31)) rfl rfl rfl (fun c_198 => ?_) (fun c_198 => ?_)
                  · have c_198 : ¬ ((i18_6 >>> (i79_10 &&& 31)) &&& 1) = 1 := of_decide_eq_true c_198
                    refine ml_blk 3 (S' := (217, [(0, .ref m0), (2, .int x2), (3, .int x3), (4, .int (f2 f x1)), (5, .int i18_5), (6, .int i18_6), (7, .int i18_7), (8, .int (Int64.toInt32 (f4 f (i18_5 + 2)))), (10, .int i79_10)], [.int i18_5, .int i79_10, .ref m0], M31)) rfl ?_
                    refine ml_blk 3 (S' := (222, [(0, .ref m0), (2, .int x2), (3, .int x3), (4, .int (f2 f x1)), (5, .int i18_5), (6, .int i18_6), (7, .int i18_7), (8, .int (Int64.toInt32 (f4 f (i18_5 + 2)))), (10, .int i79_10)], [.int (i18_5 + 6), .int i18_5, .int i79_10, .ref m0], M31)) rfl ?_
                    refine ml_blk 3 (S' := (227, [(0, .ref m0), (2, .int x2), (3, .int x3), (4, .int (f2 f x1)), (5, .int i18_5), (6, .int i18_6), (7, .int i18_7), (8, .int (Int64.toInt32 (f4 f (i18_5 + 2)))), (10, .int i79_10)], [.int (i18_5 + 6), .int (i18_5 + 6), .int i18_5, .int i79_10, .ref m0], M31)) rfl ?_
                    refine ml_blk 3 (S' := (231, [(0, .ref m0), (2, .int x2), (3, .int x3), (4, .int (f2 f x1)), (5, .int i18_5), (6, .int i18_6), (7, .int i18_7), (8, .int (Int64.toInt32 (f4 f (i18_5 + 2)))), (10, .int i79_10)], [.int x3, .int ((i18_5 + 6) + (Int64.toInt32 (f4 f (i18_5 + 2)))), .int (i18_5 + 6), .int i18_5, .int i79_10, .ref m0], M31)) rfl ?_
                    refine ml_st (S' := (233, [(0, .ref m0), (2, .int x2), (3, .int x3), (4, .int (f2 f x1)), (5, .int i18_5), (6, .int i18_6), (7, .int i18_7), (8, .int (Int64.toInt32 (f4 f (i18_5 + 2)))), (10, .int i79_10)], [.int i18_6, .int x3, .int ((i18_5 + 6) + (Int64.toInt32 (f4 f (i18_5 + 2)))), .int (i18_5 + 6), .int i18_5, .int i79_10, .ref m0], M31)) rfl rfl rfl ?_
                    have hF37 : FK n f I_18 R32 := (hF14.mono (fun _ _ => rfl) (pRx f36 (by decide)))
                    have hY38 : SK S cN sa sl ch I_18 R32 := ((hY.mono (cIx hI_18 (by decide)) (cRx hV_18 (by decide))).mono (fun _ _ => rfl) (pRx f36 (by decide)))
                    have hP39 : PK n f S cp mj pa py I_18 R32 := (hP21.mono (fun _ _ => rfl) (pRx f36 (by decide)))
                    refine ml_call (a := [.ref m0, .int i79_10, .int i18_5, .int (i18_5 + 6), .int ((i18_5 + 6) + (Int64.toInt32 (f4 f (i18_5 + 2)))), .int x3, .int i18_6]) (rest := []) rfl (hR33.okc rfl rfl rfl) rfl rfl (rm_attr0 hR33 hF37 hY38 hP39 (kin_1 (hwn.2.2.trans hw)) (by omega) (by rw [hle]; omega) (by rw [hle]; omega) (ho0) (ho1) ((congrFun ((f36 27 (by decide)).trans ((hV_18 27 (by decide)))) _).trans hfl) ((congrFun ((f36 29 (by decide)).trans ((hV_18 29 (by decide)))) _).trans hds) (hd0) (hd1) (hln) ((kn.st hkn18 e34 g35 f36)) (by omega)) (fun v40 M41 h42 => ?_)
                    obtain ⟨u48, I43, R44, rfl, hR45, hI46, hV47, w49⟩ := h42
                    show ml _ _ _ (236, [(0, .ref m0), (2, .int x2), (3, .int x3), (4, .int (f2 f x1)), (5, .int i18_5), (6, .int i18_6), (7, .int i18_7), (8, .int (Int64.toInt32 (f4 f (i18_5 + 2)))), (10, .int i79_10)], [.int u48], M41) _
                    obtain ⟨hp50, hk51⟩ := w49
                    refine ml_st (S' := (238, [(11, .int u48), (0, .ref m0), (2, .int x2), (3, .int x3), (4, .int (f2 f x1)), (5, .int i18_5), (6, .int i18_6), (7, .int i18_7), (8, .int (Int64.toInt32 (f4 f (i18_5 + 2)))), (10, .int i79_10)], [], M41)) rfl rfl rfl ?_
                    refine ml_blk 3 (S' := (243, [(11, .int u48), (0, .ref m0), (2, .int x2), (3, .int x3), (4, .int (f2 f x1)), (5, .int i18_5), (6, .int i18_6), (7, .int i18_7), (8, .int (Int64.toInt32 (f4 f (i18_5 + 2)))), (10, .int i79_10)], [.int i79_10, .int 1, .int i18_6], M41)) rfl ?_
                    refine ml_blk 2 (S' := (245, [(11, .int u48), (0, .ref m0), (2, .int x2), (3, .int x3), (4, .int (f2 f x1)), (5, .int i18_5), (6, .int i18_6), (7, .int i18_7), (8, .int (Int64.toInt32 (f4 f (i18_5 + 2)))), (10, .int i79_10)], [.int (i18_6 ||| (1 <<< (i79_10 &&& 31)))], M41)) rfl ?_
                    refine ml_st (S' := (247, [(6, .int (i18_6 ||| (1 <<< (i79_10 &&& 31)))), (11, .int u48), (0, .ref m0), (2, .int x2), (3, .int x3), (4, .int (f2 f x1)), (5, .int i18_5), (7, .int i18_7), (8, .int (Int64.toInt32 (f4 f (i18_5 + 2)))), (10, .int i79_10)], [], M41)) rfl rfl rfl ?_
                    refine ml_st (S' := (249, [(6, .int (i18_6 ||| (1 <<< (i79_10 &&& 31)))), (11, .int u48), (0, .ref m0), (2, .int x2), (3, .int x3), (4, .int (f2 f x1)), (5, .int i18_5), (7, .int i18_7), (8, .int (Int64.toInt32 (f4 f (i18_5 + 2)))), (10, .int i79_10)], [.int u48], M41)) rfl rfl rfl ?_
                    refine ml_if (S1 := (261, [(0, .ref m0), (2, .int x2), (3, .int x3), (4, .int (f2 f x1)), (5, .int i18_5), (6, .int (i18_6 ||| (1 <<< (i79_10 &&& 31)))), (7, .int i18_7), (8, .int (Int64.toInt32 (f4 f (i18_5 + 2)))), (11, .int u48)], [], M41)) (S2 := (252, [(6, .int (i18_6 ||| (1 <<< (i79_10 &&& 31)))), (11, .int u48), (0, .ref m0), (2, .int x2), (3, .int x3), (4, .int (f2 f x1)), (5, .int i18_5), (7, .int i18_7), (8, .int (Int64.toInt32 (f4 f (i18_5 + 2)))), (10, .int i79_10)], [], M41)) rfl rfl rfl (fun c_249 => ?_) (fun c_249 => ?_)
                    · have c_249 : u48 ≤ 0 := of_decide_eq_true c_249
                      refine ml_st (S' := (263, [(0, .ref m0), (2, .int x2), (3, .int x3), (4, .int (f2 f x1)), (5, .int i18_5), (6, .int (i18_6 ||| (1 <<< (i79_10 &&& 31)))), (7, .int i18_7), (8, .int (Int64.toInt32 (f4 f (i18_5 + 2)))), (11, .int u48)], [.int u48], M41)) rfl rfl rfl ?_
                      refine ml_if (S1 := (268, [(0, .ref m0), (2, .int x2), (3, .int x3), (4, .int (f2 f x1)), (5, .int i18_5), (6, .int (i18_6 ||| (1 <<< (i79_10 &&& 31)))), (7, .int i18_7), (8, .int (Int64.toInt32 (f4 f (i18_5 + 2))))], [], M41)) (S2 := (266, [(0, .ref m0), (2, .int x2), (3, .int x3), (4, .int (f2 f x1)), (5, .int i18_5), (6, .int (i18_6 ||| (1 <<< (i79_10 &&& 31)))), (7, .int i18_7), (8, .int (Int64.toInt32 (f4 f (i18_5 + 2)))), (11, .int u48)], [], M41)) rfl rfl rfl (fun c_263 => ?_) (fun c_263 => ?_)
                      · have c_263 : u48 = 0 := of_decide_eq_true c_263
                        refine ml_blk 3 (S' := (274, [(0, .ref m0), (2, .int x2), (3, .int x3), (4, .int (f2 f x1)), (5, .int i18_5), (6, .int (i18_6 ||| (1 <<< (i79_10 &&& 31)))), (7, .int i18_7), (8, .int (Int64.toInt32 (f4 f (i18_5 + 2))))], [.int (Int64.toInt32 (f4 f (i18_5 + 2))), .int 6, .int i18_5], M41)) rfl ?_
                        refine ml_blk 2 (S' := (276, [(0, .ref m0), (2, .int x2), (3, .int x3), (4, .int (f2 f x1)), (5, .int i18_5), (6, .int (i18_6 ||| (1 <<< (i79_10 &&& 31)))), (7, .int i18_7), (8, .int (Int64.toInt32 (f4 f (i18_5 + 2))))], [.int (i18_5 + (6 + (Int64.toInt32 (f4 f (i18_5 + 2)))))], M41)) rfl ?_
                        refine ml_st (S' := (278, [(5, .int (i18_5 + (6 + (Int64.toInt32 (f4 f (i18_5 + 2)))))), (0, .ref m0), (2, .int x2), (3, .int x3), (4, .int (f2 f x1)), (6, .int (i18_6 ||| (1 <<< (i79_10 &&& 31)))), (7, .int i18_7), (8, .int (Int64.toInt32 (f4 f (i18_5 + 2))))], [], M41)) rfl rfl rfl ?_
                        refine ml_st (S' := (281, [(7, .int (i18_7 + 1)), (5, .int (i18_5 + (6 + (Int64.toInt32 (f4 f (i18_5 + 2)))))), (0, .ref m0), (2, .int x2), (3, .int x3), (4, .int (f2 f x1)), (6, .int (i18_6 ||| (1 <<< (i79_10 &&& 31)))), (8, .int (Int64.toInt32 (f4 f (i18_5 + 2))))], [], M41)) rfl rfl rfl ?_
                        refine ml_st (S' := (18, [(0, .ref m0), (2, .int x2), (3, .int x3), (4, .int (f2 f x1)), (5, .int (i18_5 + (6 + (Int64.toInt32 (f4 f (i18_5 + 2)))))), (6, .int (i18_6 ||| (1 <<< (i79_10 &&& 31)))), (7, .int (i18_7 + 1))], [], M41)) rfl rfl rfl ?_
                        exact ih_18 (i18_5 + (6 + (Int64.toInt32 (f4 f (i18_5 + 2))))) (i18_6 ||| (1 <<< (i79_10 &&& 31))) (i18_7 + 1) _ _ _ (loop_inc (Int32.not_le.mp c_22) hn_18) hR45 ((eqI.rf.tr hI_18 (by decide)).tr hI46 (by decide)) (((eqR.rf.tr hV_18 (by decide)).put f36 (by decide)).tr hV47 (by decide)) (⟨by rw [inc_lt (Int32.not_le.mp c_22)]; omega, by rw [inc_lt (Int32.not_le.mp c_22)]; have := i_nle c_22; omega, hb1.eq hra ▸ hnx, (((pw.rf.tr hqw18).st g35 f36 rfl).tr hp50), hk51⟩)
                      · have c_263 : ¬ (u48 = 0) := of_decide_eq_false c_263
                        refine ml_st (S' := (267, [(0, .ref m0), (2, .int x2), (3, .int x3), (4, .int (f2 f x1)), (5, .int i18_5), (6, .int (i18_6 ||| (1 <<< (i79_10 &&& 31)))), (7, .int i18_7), (8, .int (Int64.toInt32 (f4 f (i18_5 + 2)))), (11, .int u48)], [.int (-1)], M41)) rfl rfl rfl ?_
                        exact ml_ret rfl (rfl) (⟨_, _, _, rfl, hR45, ((eqI.rf.tr hI_18 (by decide)).tr hI46 (by decide)), (((eqR.rf.tr hV_18 (by decide)).put f36 (by decide)).tr hV47 (by decide)), ⟨Or.inl (by decide), (((pw.rf.tr hqw18).st g35 f36 rfl).tr hp50), hk51⟩⟩)
                    · have c_249 : ¬ (u48 ≤ 0) := of_decide_eq_false c_249
                      refine ml_blk 3 (S' := (257, [(6, .int (i18_6 ||| (1 <<< (i79_10 &&& 31)))), (11, .int u48), (0, .ref m0), (2, .int x2), (3, .int x3), (4, .int (f2 f x1)), (5, .int i18_5), (7, .int i18_7), (8, .int (Int64.toInt32 (f4 f (i18_5 + 2)))), (10, .int i79_10)], [.int i18_5, .int u48, .ref m0], M41)) rfl ?_
                      refine ml_call (a := [.ref m0, .int u48, .int i18_5]) (rest := []) rfl (hR45.okc rfl rfl rfl) rfl rfl (rm_wrong hR45 (by omega)) (fun v52 M53 h54 => ?_)
                      obtain ⟨u60, I55, R56, rfl, hR57, hI58, hV59, z61, w62⟩ := h54
                      show ml _ _ _ (260, [(6, .int (i18_6 ||| (1 <<< (i79_10 &&& 31)))), (11, .int u48), (0, .ref m0), (2, .int x2), (3, .int x3), (4, .int (f2 f x1)), (5, .int i18_5), (7, .int i18_7), (8, .int (Int64.toInt32 (f4 f (i18_5 + 2)))), (10, .int i79_10)], [.int u60], M53) _
                      refine ml_st (S' := (261, [(0, .ref m0), (2, .int x2), (3, .int x3), (4, .int (f2 f x1)), (5, .int i18_5), (6, .int (i18_6 ||| (1 <<< (i79_10 &&& 31)))), (7, .int i18_7), (8, .int (Int64.toInt32 (f4 f (i18_5 + 2)))), (11, .int u48)], [], M53)) rfl rfl rfl ?_
                      refine ml_st (S' := (263, [(0, .ref m0), (2, .int x2), (3, .int x3), (4, .int (f2 f x1)), (5, .int i18_5), (6, .int (i18_6 ||| (1 <<< (i79_10 &&& 31)))), (7, .int i18_7), (8, .int (Int64.toInt32 (f4 f (i18_5 + 2)))), (11, .int u48)], [.int u48], M53)) rfl rfl rfl ?_
                      refine ml_if (S1 := (268, [(0, .ref m0), (2, .int x2), (3, .int x3), (4, .int (f2 f x1)), (5, .int i18_5), (6, .int (i18_6 ||| (1 <<< (i79_10 &&& 31)))), (7, .int i18_7), (8, .int (Int64.toInt32 (f4 f (i18_5 + 2))))], [], M53)) (S2 := (266, [(0, .ref m0), (2, .int x2), (3, .int x3), (4, .int (f2 f x1)), (5, .int i18_5), (6, .int (i18_6 ||| (1 <<< (i79_10 &&& 31)))), (7, .int i18_7), (8, .int (Int64.toInt32 (f4 f (i18_5 + 2)))), (11, .int u48)], [], M53)) rfl rfl rfl (fun c_263 => ?_) (fun c_263 => ?_)
                      · have c_263 : u48 = 0 := of_decide_eq_true c_263
                        refine ml_blk 3 (S' := (274, [(0, .ref m0), (2, .int x2), (3, .int x3), (4, .int (f2 f x1)), (5, .int i18_5), (6, .int (i18_6 ||| (1 <<< (i79_10 &&& 31)))), (7, .int i18_7), (8, .int (Int64.toInt32 (f4 f (i18_5 + 2))))], [.int (Int64.toInt32 (f4 f (i18_5 + 2))), .int 6, .int i18_5], M53)) rfl ?_
                        refine ml_blk 2 (S' := (276, [(0, .ref m0), (2, .int x2), (3, .int x3), (4, .int (f2 f x1)), (5, .int i18_5), (6, .int (i18_6 ||| (1 <<< (i79_10 &&& 31)))), (7, .int i18_7), (8, .int (Int64.toInt32 (f4 f (i18_5 + 2))))], [.int (i18_5 + (6 + (Int64.toInt32 (f4 f (i18_5 + 2)))))], M53)) rfl ?_
                        refine ml_st (S' := (278, [(5, .int (i18_5 + (6 + (Int64.toInt32 (f4 f (i18_5 + 2)))))), (0, .ref m0), (2, .int x2), (3, .int x3), (4, .int (f2 f x1)), (6, .int (i18_6 ||| (1 <<< (i79_10 &&& 31)))), (7, .int i18_7), (8, .int (Int64.toInt32 (f4 f (i18_5 + 2))))], [], M53)) rfl rfl rfl ?_
                        refine ml_st (S' := (281, [(7, .int (i18_7 + 1)), (5, .int (i18_5 + (6 + (Int64.toInt32 (f4 f (i18_5 + 2)))))), (0, .ref m0), (2, .int x2), (3, .int x3), (4, .int (f2 f x1)), (6, .int (i18_6 ||| (1 <<< (i79_10 &&& 31)))), (8, .int (Int64.toInt32 (f4 f (i18_5 + 2))))], [], M53)) rfl rfl rfl ?_
                        refine ml_st (S' := (18, [(0, .ref m0), (2, .int x2), (3, .int x3), (4, .int (f2 f x1)), (5, .int (i18_5 + (6 + (Int64.toInt32 (f4 f (i18_5 + 2)))))), (6, .int (i18_6 ||| (1 <<< (i79_10 &&& 31)))), (7, .int (i18_7 + 1))], [], M53)) rfl rfl rfl ?_
                        exact ih_18 (i18_5 + (6 + (Int64.toInt32 (f4 f (i18_5 + 2))))) (i18_6 ||| (1 <<< (i79_10 &&& 31))) (i18_7 + 1) _ _ _ (loop_inc (Int32.not_le.mp c_22) hn_18) hR57 (((eqI.rf.tr hI_18 (by decide)).tr hI46 (by decide)).tr hI58 (by decide)) ((((eqR.rf.tr hV_18 (by decide)).put f36 (by decide)).tr hV47 (by decide)).tr hV59 (by decide)) (⟨by rw [inc_lt (Int32.not_le.mp c_22)]; omega, by rw [inc_lt (Int32.not_le.mp c_22)]; have := i_nle c_22; omega, hb1.eq hra ▸ hnx, ((((pw.rf.tr hqw18).st g35 f36 rfl).tr hp50).eq hV59), (kn.eq hk51 hV59 (by decide))⟩)
                      · have c_263 : ¬ (u48 = 0) := of_decide_eq_false c_263
                        refine ml_st (S' := (267, [(0, .ref m0), (2, .int x2), (3, .int x3), (4, .int (f2 f x1)), (5, .int i18_5), (6, .int (i18_6 ||| (1 <<< (i79_10 &&& 31)))), (7, .int i18_7), (8, .int (Int64.toInt32 (f4 f (i18_5 + 2)))), (11, .int u48)], [.int (-1)], M53)) rfl rfl rfl ?_
                        exact ml_ret rfl (rfl) (⟨_, _, _, rfl, hR57, (((eqI.rf.tr hI_18 (by decide)).tr hI46 (by decide)).tr hI58 (by decide)), ((((eqR.rf.tr hV_18 (by decide)).put f36 (by decide)).tr hV47 (by decide)).tr hV59 (by decide)), ⟨Or.inl (by decide), ((((pw.rf.tr hqw18).st g35 f36 rfl).tr hp50).eq hV59), (kn.eq hk51 hV59 (by decide))⟩⟩)
                  · have c_198 : ¬ (¬ ((i18_6 >>> (i79_10 &&& 31)) &&& 1) = 1) := of_decide_eq_false c_198
                    refine ml_blk 3 (S' := (206, [(0, .ref m0), (2, .int x2), (3, .int x3), (4, .int (f2 f x1)), (5, .int i18_5), (6, .int i18_6), (7, .int i18_7), (8, .int (Int64.toInt32 (f4 f (i18_5 + 2)))), (10, .int i79_10)], [.int i18_5, .int 29, .ref m0], M31)) rfl ?_
                    refine ml_call (a := [.ref m0, .int 29, .int i18_5]) (rest := []) rfl (hR33.okc rfl rfl rfl) rfl rfl (rm_wrong hR33 (by omega)) (fun v63 M64 h65 => ?_)
                    obtain ⟨u71, I66, R67, rfl, hR68, hI69, hV70, z72, w73⟩ := h65
                    show ml _ _ _ (209, [(0, .ref m0), (2, .int x2), (3, .int x3), (4, .int (f2 f x1)), (5, .int i18_5), (6, .int i18_6), (7, .int i18_7), (8, .int (Int64.toInt32 (f4 f (i18_5 + 2)))), (10, .int i79_10)], [.int u71], M64) _
                    refine ml_blk 2 (S' := (211, [(0, .ref m0), (2, .int x2), (3, .int x3), (4, .int (f2 f x1)), (5, .int i18_5), (6, .int i18_6), (7, .int i18_7), (8, .int (Int64.toInt32 (f4 f (i18_5 + 2)))), (10, .int i79_10)], [.int (-1)], M64)) rfl ?_
                    exact ml_ret rfl (rfl) (⟨_, _, _, rfl, hR68, ((eqI.rf.tr hI_18 (by decide)).tr hI69 (by decide)), (((eqR.rf.tr hV_18 (by decide)).put f36 (by decide)).tr hV70 (by decide)), ⟨Or.inl (by decide), (((pw.rf.tr hqw18).st g35 f36 rfl).eq hV70), (kn.eq (kn.st hkn18 e34 g35 f36) hV70 (by decide))⟩⟩)
              · have c_86 : ¬ ((nI 10) ≤ i79_11) := of_decide_eq_false c_86
                have hjl : i79_11.toInt < 10 := by have q := i_nle c_86; rw [nI_val (by decide)] at q; omega
                refine ml_st (S' := (90, [(0, .ref m0), (2, .int x2), (3, .int x3), (4, .int (f2 f x1)), (5, .int i18_5), (6, .int i18_6), (7, .int i18_7), (8, .int (Int64.toInt32 (f4 f (i18_5 + 2)))), (9, .int (pyf py (f2 f i18_5))), (10, .int i79_10), (11, .int i79_11)], [.ref m0], M_18)) rfl rfl rfl ?_
                refine rg_ref (S' := (93, [(0, .ref m0), (2, .int x2), (3, .int x3), (4, .int (f2 f x1)), (5, .int i18_5), (6, .int i18_6), (7, .int i18_7), (8, .int (Int64.toInt32 (f4 f (i18_5 + 2)))), (9, .int (pyf py (f2 f i18_5))), (10, .int i79_10), (11, .int i79_11)], [.ref (q 63)], M_18)) rfl hR_18 rfl rfl ?_
                refine ml_st (S' := (95, [(0, .ref m0), (2, .int x2), (3, .int x3), (4, .int (f2 f x1)), (5, .int i18_5), (6, .int i18_6), (7, .int i18_7), (8, .int (Int64.toInt32 (f4 f (i18_5 + 2)))), (9, .int (pyf py (f2 f i18_5))), (10, .int i79_10), (11, .int i79_11)], [.int i79_11, .ref (q 63)], M_18)) rfl rfl rfl ?_
                have hK74 : KW I_18 R_18 := (hK.mono (cIx hI_18 (by decide)) (cRx hV_18 (by decide)))
                refine ra_ld (k := 63) (S' := (96, [(0, .ref m0), (2, .int x2), (3, .int x3), (4, .int (f2 f x1)), (5, .int i18_5), (6, .int i18_6), (7, .int i18_7), (8, .int (Int64.toInt32 (f4 f (i18_5 + 2)))), (9, .int (pyf py (f2 f i18_5))), (10, .int i79_10), (11, .int i79_11)], [.int (kin i79_11)], M_18)) rfl hR_18 rfl (vin_lt hj0 (by omega)) (hK74.1 i79_11 hj0 hjl) rfl ?_
                refine ml_st (S' := (97, [(0, .ref m0), (2, .int x2), (3, .int x3), (4, .int (f2 f x1)), (5, .int i18_5), (6, .int i18_6), (7, .int i18_7), (8, .int (Int64.toInt32 (f4 f (i18_5 + 2)))), (9, .int (pyf py (f2 f i18_5))), (10, .int i79_10), (11, .int i79_11)], [.int x2, .int (kin i79_11)], M_18)) rfl rfl rfl ?_
                refine ml_if2 (S1 := (134, [(0, .ref m0), (2, .int x2), (3, .int x3), (4, .int (f2 f x1)), (5, .int i18_5), (6, .int i18_6), (7, .int i18_7), (8, .int (Int64.toInt32 (f4 f (i18_5 + 2)))), (9, .int (pyf py (f2 f i18_5))), (10, .int i79_10), (11, .int i79_11)], [], M_18)) (S2 := (100, [(0, .ref m0), (2, .int x2), (3, .int x3), (4, .int (f2 f x1)), (5, .int i18_5), (6, .int i18_6), (7, .int i18_7), (8, .int (Int64.toInt32 (f4 f (i18_5 + 2)))), (9, .int (pyf py (f2 f i18_5))), (10, .int i79_10), (11, .int i79_11)], [], M_18)) rfl rfl rfl (fun c_97 => ?_) (fun c_97 => ?_)
                · have c_97 : ¬ (kin i79_11) = x2 := of_decide_eq_true c_97
                  refine ml_st (S' := (137, [(11, .int (i79_11 + 1)), (0, .ref m0), (2, .int x2), (3, .int x3), (4, .int (f2 f x1)), (5, .int i18_5), (6, .int i18_6), (7, .int i18_7), (8, .int (Int64.toInt32 (f4 f (i18_5 + 2)))), (9, .int (pyf py (f2 f i18_5))), (10, .int i79_10)], [], M_18)) rfl rfl rfl ?_
                  refine ml_st (S' := (79, [(0, .ref m0), (2, .int x2), (3, .int x3), (4, .int (f2 f x1)), (5, .int i18_5), (6, .int i18_6), (7, .int i18_7), (8, .int (Int64.toInt32 (f4 f (i18_5 + 2)))), (9, .int (pyf py (f2 f i18_5))), (10, .int i79_10), (11, .int (i79_11 + 1))], [], M_18)) rfl rfl rfl ?_
                  exact ih_79 i79_10 (i79_11 + 1) (loop_inc (Int32.not_le.mp c_86) hn_79) (⟨by rw [inc_lt (Int32.not_le.mp c_86)]; omega, hjw⟩)
                · have c_97 : ¬ (¬ (kin i79_11) = x2) := of_decide_eq_false c_97
                  refine ml_st (S' := (101, [(0, .ref m0), (2, .int x2), (3, .int x3), (4, .int (f2 f x1)), (5, .int i18_5), (6, .int i18_6), (7, .int i18_7), (8, .int (Int64.toInt32 (f4 f (i18_5 + 2)))), (9, .int (pyf py (f2 f i18_5))), (10, .int i79_10), (11, .int i79_11)], [.ref m0], M_18)) rfl rfl rfl ?_
                  refine rg_int (S' := (104, [(0, .ref m0), (2, .int x2), (3, .int x3), (4, .int (f2 f x1)), (5, .int i18_5), (6, .int i18_6), (7, .int i18_7), (8, .int (Int64.toInt32 (f4 f (i18_5 + 2)))), (9, .int (pyf py (f2 f i18_5))), (10, .int i79_10), (11, .int i79_11)], [.int mj], M_18)) rfl hR_18 rfl ((hI_18 53 (by decide)).trans (hP.2.2.1)) rfl ?_
                  refine ml_st (S' := (105, [(0, .ref m0), (2, .int x2), (3, .int x3), (4, .int (f2 f x1)), (5, .int i18_5), (6, .int i18_6), (7, .int i18_7), (8, .int (Int64.toInt32 (f4 f (i18_5 + 2)))), (9, .int (pyf py (f2 f i18_5))), (10, .int i79_10), (11, .int i79_11)], [.ref m0, .int mj], M_18)) rfl rfl rfl ?_
                  refine rg_ref (S' := (108, [(0, .ref m0), (2, .int x2), (3, .int x3), (4, .int (f2 f x1)), (5, .int i18_5), (6, .int i18_6), (7, .int i18_7), (8, .int (Int64.toInt32 (f4 f (i18_5 + 2)))), (9, .int (pyf py (f2 f i18_5))), (10, .int i79_10), (11, .int i79_11)], [.ref (q 64), .int mj], M_18)) rfl hR_18 rfl rfl ?_
                  refine ml_st (S' := (110, [(0, .ref m0), (2, .int x2), (3, .int x3), (4, .int (f2 f x1)), (5, .int i18_5), (6, .int i18_6), (7, .int i18_7), (8, .int (Int64.toInt32 (f4 f (i18_5 + 2)))), (9, .int (pyf py (f2 f i18_5))), (10, .int i79_10), (11, .int i79_11)], [.int i79_11, .ref (q 64), .int mj], M_18)) rfl rfl rfl ?_
                  obtain ⟨v110, hv110⟩ := hK74.2 i79_11 hj0 hjl
                  refine ra_ld (k := 64) (S' := (111, [(0, .ref m0), (2, .int x2), (3, .int x3), (4, .int (f2 f x1)), (5, .int i18_5), (6, .int i18_6), (7, .int i18_7), (8, .int (Int64.toInt32 (f4 f (i18_5 + 2)))), (9, .int (pyf py (f2 f i18_5))), (10, .int i79_10), (11, .int i79_11)], [.int v110, .int mj], M_18)) rfl hR_18 rfl (vin_lt hj0 (by omega)) (hv110) rfl ?_
                  refine ml_if2 (S1 := (134, [(0, .ref m0), (2, .int x2), (3, .int x3), (4, .int (f2 f x1)), (5, .int i18_5), (6, .int i18_6), (7, .int i18_7), (8, .int (Int64.toInt32 (f4 f (i18_5 + 2)))), (9, .int (pyf py (f2 f i18_5))), (10, .int i79_10), (11, .int i79_11)], [], M_18)) (S2 := (114, [(0, .ref m0), (2, .int x2), (3, .int x3), (4, .int (f2 f x1)), (5, .int i18_5), (6, .int i18_6), (7, .int i18_7), (8, .int (Int64.toInt32 (f4 f (i18_5 + 2)))), (9, .int (pyf py (f2 f i18_5))), (10, .int i79_10), (11, .int i79_11)], [], M_18)) rfl rfl rfl (fun c_111 => ?_) (fun c_111 => ?_)
                  · have c_111 : mj < v110 := of_decide_eq_true c_111
                    refine ml_st (S' := (137, [(11, .int (i79_11 + 1)), (0, .ref m0), (2, .int x2), (3, .int x3), (4, .int (f2 f x1)), (5, .int i18_5), (6, .int i18_6), (7, .int i18_7), (8, .int (Int64.toInt32 (f4 f (i18_5 + 2)))), (9, .int (pyf py (f2 f i18_5))), (10, .int i79_10)], [], M_18)) rfl rfl rfl ?_
                    refine ml_st (S' := (79, [(0, .ref m0), (2, .int x2), (3, .int x3), (4, .int (f2 f x1)), (5, .int i18_5), (6, .int i18_6), (7, .int i18_7), (8, .int (Int64.toInt32 (f4 f (i18_5 + 2)))), (9, .int (pyf py (f2 f i18_5))), (10, .int i79_10), (11, .int (i79_11 + 1))], [], M_18)) rfl rfl rfl ?_
                    exact ih_79 i79_10 (i79_11 + 1) (loop_inc (Int32.not_le.mp c_86) hn_79) (⟨by rw [inc_lt (Int32.not_le.mp c_86)]; omega, hjw⟩)
                  · have c_111 : ¬ (mj < v110) := of_decide_eq_false c_111
                    refine ml_blk 3 (S' := (118, [(0, .ref m0), (2, .int x2), (3, .int x3), (4, .int (f2 f x1)), (5, .int i18_5), (6, .int i18_6), (7, .int i18_7), (8, .int (Int64.toInt32 (f4 f (i18_5 + 2)))), (9, .int (pyf py (f2 f i18_5))), (10, .int i79_10), (11, .int i79_11)], [.ref m0, .int (pyf py (f2 f i18_5)), .ref m0], M_18)) rfl ?_
                    refine rg_ref (S' := (121, [(0, .ref m0), (2, .int x2), (3, .int x3), (4, .int (f2 f x1)), (5, .int i18_5), (6, .int i18_6), (7, .int i18_7), (8, .int (Int64.toInt32 (f4 f (i18_5 + 2)))), (9, .int (pyf py (f2 f i18_5))), (10, .int i79_10), (11, .int i79_11)], [.ref (q 62), .int (pyf py (f2 f i18_5)), .ref m0], M_18)) rfl hR_18 rfl rfl ?_
                    refine ml_st (S' := (123, [(0, .ref m0), (2, .int x2), (3, .int x3), (4, .int (f2 f x1)), (5, .int i18_5), (6, .int i18_6), (7, .int i18_7), (8, .int (Int64.toInt32 (f4 f (i18_5 + 2)))), (9, .int (pyf py (f2 f i18_5))), (10, .int i79_10), (11, .int i79_11)], [.int i79_11, .ref (q 62), .int (pyf py (f2 f i18_5)), .ref m0], M_18)) rfl rfl rfl ?_
                    refine ra_kn (S' := (124, [(0, .ref m0), (2, .int x2), (3, .int x3), (4, .int (f2 f x1)), (5, .int i18_5), (6, .int i18_6), (7, .int i18_7), (8, .int (Int64.toInt32 (f4 f (i18_5 + 2)))), (9, .int (pyf py (f2 f i18_5))), (10, .int i79_10), (11, .int i79_11)], [.ref (g.2.1 (15 + Int32.toNatClampNeg i79_11)), .int (pyf py (f2 f i18_5)), .ref m0], M_18)) rfl hR_18 hj0 hjl rfl ?_
                    have hY75 : SK S cN sa sl ch I_18 R_18 := (hY.mono (cIx hI_18 (by decide)) (cRx hV_18 (by decide)))
                    refine ml_call (a := [.ref m0, .int (pyf py (f2 f i18_5)), .ref (g.2.1 (15 + Int32.toNatClampNeg i79_11))]) (rest := []) rfl (hR_18.okc rfl rfl rfl) rfl rfl (rm_is hR_18 hY75 (hy9.2.2.1) (hy9.2.2.2) (by show 15 ≤ 15 + i79_11.toInt.toNat ∧ 15 + i79_11.toInt.toNat < 30; omega) (by omega)) (fun v76 M77 h78 => ?_)
                    obtain ⟨⟨u79, rfl, z80⟩, h78⟩ := h78
                    rw [h78]
                    show ml _ _ _ (127, [(0, .ref m0), (2, .int x2), (3, .int x3), (4, .int (f2 f x1)), (5, .int i18_5), (6, .int i18_6), (7, .int i18_7), (8, .int (Int64.toInt32 (f4 f (i18_5 + 2)))), (9, .int (pyf py (f2 f i18_5))), (10, .int i79_10), (11, .int i79_11)], [.int u79], M_18) _
                    refine ml_if (S1 := (134, [(0, .ref m0), (2, .int x2), (3, .int x3), (4, .int (f2 f x1)), (5, .int i18_5), (6, .int i18_6), (7, .int i18_7), (8, .int (Int64.toInt32 (f4 f (i18_5 + 2)))), (9, .int (pyf py (f2 f i18_5))), (10, .int i79_10), (11, .int i79_11)], [], M_18)) (S2 := (130, [(0, .ref m0), (2, .int x2), (3, .int x3), (4, .int (f2 f x1)), (5, .int i18_5), (6, .int i18_6), (7, .int i18_7), (8, .int (Int64.toInt32 (f4 f (i18_5 + 2)))), (9, .int (pyf py (f2 f i18_5))), (10, .int i79_10), (11, .int i79_11)], [], M_18)) rfl rfl rfl (fun c_127 => ?_) (fun c_127 => ?_)
                    · have c_127 : u79 = 0 := of_decide_eq_true c_127
                      refine ml_st (S' := (137, [(11, .int (i79_11 + 1)), (0, .ref m0), (2, .int x2), (3, .int x3), (4, .int (f2 f x1)), (5, .int i18_5), (6, .int i18_6), (7, .int i18_7), (8, .int (Int64.toInt32 (f4 f (i18_5 + 2)))), (9, .int (pyf py (f2 f i18_5))), (10, .int i79_10)], [], M_18)) rfl rfl rfl ?_
                      refine ml_st (S' := (79, [(0, .ref m0), (2, .int x2), (3, .int x3), (4, .int (f2 f x1)), (5, .int i18_5), (6, .int i18_6), (7, .int i18_7), (8, .int (Int64.toInt32 (f4 f (i18_5 + 2)))), (9, .int (pyf py (f2 f i18_5))), (10, .int i79_10), (11, .int (i79_11 + 1))], [], M_18)) rfl rfl rfl ?_
                      exact ih_79 i79_10 (i79_11 + 1) (loop_inc (Int32.not_le.mp c_86) hn_79) (⟨by rw [inc_lt (Int32.not_le.mp c_86)]; omega, hjw⟩)
                    · have c_127 : ¬ (u79 = 0) := of_decide_eq_false c_127
                      refine ml_st (S' := (132, [(0, .ref m0), (2, .int x2), (3, .int x3), (4, .int (f2 f x1)), (5, .int i18_5), (6, .int i18_6), (7, .int i18_7), (8, .int (Int64.toInt32 (f4 f (i18_5 + 2)))), (9, .int (pyf py (f2 f i18_5))), (10, .int i79_10), (11, .int i79_11)], [.int i79_11], M_18)) rfl rfl rfl ?_
                      refine ml_st (S' := (134, [(0, .ref m0), (2, .int x2), (3, .int x3), (4, .int (f2 f x1)), (5, .int i18_5), (6, .int i18_6), (7, .int i18_7), (8, .int (Int64.toInt32 (f4 f (i18_5 + 2)))), (9, .int (pyf py (f2 f i18_5))), (10, .int i79_11), (11, .int i79_11)], [], M_18)) rfl rfl rfl ?_
                      refine ml_st (S' := (137, [(11, .int (i79_11 + 1)), (0, .ref m0), (2, .int x2), (3, .int x3), (4, .int (f2 f x1)), (5, .int i18_5), (6, .int i18_6), (7, .int i18_7), (8, .int (Int64.toInt32 (f4 f (i18_5 + 2)))), (9, .int (pyf py (f2 f i18_5))), (10, .int i79_11)], [], M_18)) rfl rfl rfl ?_
                      refine ml_st (S' := (79, [(0, .ref m0), (2, .int x2), (3, .int x3), (4, .int (f2 f x1)), (5, .int i18_5), (6, .int i18_6), (7, .int i18_7), (8, .int (Int64.toInt32 (f4 f (i18_5 + 2)))), (9, .int (pyf py (f2 f i18_5))), (10, .int i79_11), (11, .int (i79_11 + 1))], [], M_18)) rfl rfl rfl ?_
                      exact ih_79 i79_11 (i79_11 + 1) (loop_inc (Int32.not_le.mp c_86) hn_79) (⟨by rw [inc_lt (Int32.not_le.mp c_86)]; omega, Or.inr ⟨hj0, hjl, Decidable.not_not.mp c_97⟩⟩)
          exact L_79 _ (-1) 0 (Nat.le_refl _) (⟨by decide, Or.inl (by decide)⟩)
        · have c_47 : ¬ ((tgf f cp pa (f2 f i18_5)) = 1) := of_decide_eq_false c_47
          refine ml_blk 3 (S' := (55, [(8, .int (Int64.toInt32 (f4 f (i18_5 + 2)))), (0, .ref m0), (2, .int x2), (3, .int x3), (4, .int (f2 f x1)), (5, .int i18_5), (6, .int i18_6), (7, .int i18_7)], [.int i18_5, .int 28, .ref m0], M_18)) rfl ?_
          refine ml_call (a := [.ref m0, .int 28, .int i18_5]) (rest := []) rfl (hR_18.okc rfl rfl rfl) rfl rfl (rm_wrong hR_18 (by omega)) (fun v81 M82 h83 => ?_)
          obtain ⟨u89, I84, R85, rfl, hR86, hI87, hV88, z90, w91⟩ := h83
          show ml _ _ _ (58, [(8, .int (Int64.toInt32 (f4 f (i18_5 + 2)))), (0, .ref m0), (2, .int x2), (3, .int x3), (4, .int (f2 f x1)), (5, .int i18_5), (6, .int i18_6), (7, .int i18_7)], [.int u89], M82) _
          refine ml_blk 2 (S' := (60, [(8, .int (Int64.toInt32 (f4 f (i18_5 + 2)))), (0, .ref m0), (2, .int x2), (3, .int x3), (4, .int (f2 f x1)), (5, .int i18_5), (6, .int i18_6), (7, .int i18_7)], [.int (-1)], M82)) rfl ?_
          exact ml_ret rfl (rfl) (⟨_, _, _, rfl, hR86, ((eqI.rf.tr hI_18 (by decide)).tr hI87 (by decide)), ((eqR.rf.tr hV_18 (by decide)).tr hV88 (by decide)), ⟨Or.inl (by decide), ((pw.rf.tr hqw18).eq hV88), (kn.eq hkn18 hV88 (by decide))⟩⟩)
  exact L_18 _ (x1 + 2) 0 0 _ _ _ (Nat.le_refl _) hR eqI.rf eqR.rf (⟨by decide, by show (0 : Int) ≤ _; exact f2_pos, by rw [show ((f2 f x1).toInt - (0 : Int32).toInt).toNat = (f2 f x1).toInt.toNat by have : (0 : Int32).toInt = 0 := rfl; omega]; exact hat.2.2.1, pw.rf, hkn⟩)
end
section
set_option maxHeartbeats 2000000 in
theorem rm_attr4 {g : xe_G}  {m0 : Nat} {q : Nat → Nat} {z : Nat × Nat} {I : rI} {R : rR} {M : mi_H} {x1 x2 x3 x4 x5 x6 nf : Int32} {n : Nat} {f : Nat → Int32} {S cN : Nat} {sa sl ch : Nat → Int32} {cp mj : Int32} {pa py : Nat → Int32}  (hR : RS g m0 q z I R M) (hk58 : I 58 = some nf) (hF : FK n f I R) (hY : SK S cN sa sl ch I R) (hP : PK n f S cp mj pa py I R) (hw : 4 ≤ x1.toInt ∧ x1.toInt ≤ 9) (h0 : 0 ≤ x3.toInt) (h1 : x3.toInt ≤ x4.toInt) (h2 : x4.toInt ≤ n) (hN : NW f n I) {d : Nat} (hd : 6 ≤ d) : mt (mT g) d 177 [.ref m0, .int x1, .int x2, .int x3, .int x4, .int x5, .int x6] M (fun v M' => ∃ (x : Int32) (I' : rI) (R' : rR), v = some (.int x) ∧ RS g m0 q z I' R' M' ∧ eqI [47, 48, 65, 67, 68, 69, 70, 71, 72] I I' ∧ eqR [] R R' ∧ NW f n I') := by
  obtain ⟨d, rfl⟩ : ∃ e, d = e + 1 := ⟨d - 1, by omega⟩
  refine mt_in (b := mb_177 g) rfl rfl ?_
  show ml (mT g) d (mb_177 g).2 (0, [(0, .ref m0), (1, .int x1), (2, .int x2), (3, .int x3), (4, .int x4), (5, .int x5), (6, .int x6)], [], M) _
  have hn := hF.1
  refine ml_st (S' := (1, [(0, .ref m0), (1, .int x1), (2, .int x2), (3, .int x3), (4, .int x4), (5, .int x5), (6, .int x6)], [.int x1], M)) rfl rfl rfl ?_
  refine ml_sw rfl (fun t_1 ht_1 => ?_)
  have kt_1 := ht_1
  have ht_1 : t_1 ∈ [56, 208, 219, 398, 400, 542, 550, 600] := mi_sw_sub ht_1 (by decide)
  simp only [List.mem_cons, List.not_mem_nil, or_false] at ht_1
  rcases ht_1 with rfl | rfl | rfl | rfl | rfl | rfl | rfl | rfl
  · show ml _ _ _ (56, [(0, .ref m0), (1, .int x1), (2, .int x2), (3, .int x3), (4, .int x4), (5, .int x5), (6, .int x6)], [], M) _
    exfalso
    rcases w49 hw with h | h | h | h | h | h <;> (rw [h] at kt_1; exact absurd kt_1 (by decide))
  · show ml _ _ _ (208, [(0, .ref m0), (1, .int x1), (2, .int x2), (3, .int x3), (4, .int x4), (5, .int x5), (6, .int x6)], [], M) _
    exfalso
    rcases w49 hw with h | h | h | h | h | h <;> (rw [h] at kt_1; exact absurd kt_1 (by decide))
  · show ml _ _ _ (219, [(0, .ref m0), (1, .int x1), (2, .int x2), (3, .int x3), (4, .int x4), (5, .int x5), (6, .int x6)], [], M) _
    refine ml_blk 3 (S' := (223, [(0, .ref m0), (1, .int x1), (2, .int x2), (3, .int x3), (4, .int x4), (5, .int x5), (6, .int x6)], [.int (x4 - x3)], M)) rfl ?_
    refine ml_st (S' := (224, [(0, .ref m0), (1, .int x1), (2, .int x2), (3, .int x3), (4, .int x4), (5, .int x5), (6, .int x6)], [.int 2, .int (x4 - x3)], M)) rfl rfl rfl ?_
    refine ml_if2 (S1 := (243, [], [], M)) (S2 := (227, [(0, .ref m0), (1, .int x1), (2, .int x2), (3, .int x3), (4, .int x4), (5, .int x5), (6, .int x6)], [], M)) rfl rfl rfl (fun c_224 => ?_) (fun c_224 => ?_)
    · have c_224 : (x4 - x3) < 2 := of_decide_eq_true c_224
      refine ml_st (S' := (245, [], [.int 30], M)) rfl rfl rfl ?_
      exact ml_ret rfl (rfl) (⟨_, _, _, rfl, hR, eqI.rf, eqR.rf, hN⟩)
    · have c_224 : ¬ ((x4 - x3) < 2) := of_decide_eq_false c_224
      have hd2 := i_nlt c_224
      rw [i_sub (by omega) (by omega)] at hd2
      have i2_ : (2 : Int32).toInt = 2 := rfl
      have hc0 := f2_pos (f := f) (x := x3)
      have hc1 := f2_le (f := f) (x := x3)
      refine ml_blk 3 (S' := (231, [(0, .ref m0), (1, .int x1), (2, .int x2), (3, .int x3), (4, .int x4), (5, .int x5), (6, .int x6)], [.int (x4 - x3)], M)) rfl ?_
      refine ml_blk 3 (S' := (234, [(0, .ref m0), (1, .int x1), (2, .int x2), (3, .int x3), (4, .int x4), (5, .int x5), (6, .int x6)], [.ref m0, .int 2, .int 2, .int (x4 - x3)], M)) rfl ?_
      refine ml_st (S' := (235, [(0, .ref m0), (1, .int x1), (2, .int x2), (3, .int x3), (4, .int x4), (5, .int x5), (6, .int x6)], [.int x3, .ref m0, .int 2, .int 2, .int (x4 - x3)], M)) rfl rfl rfl ?_
      refine ml_call (a := [.ref m0, .int x3]) (rest := [.int 2, .int 2, .int (x4 - x3)]) rfl (hR.okc rfl rfl rfl) rfl rfl (rm_u2 hR hF (h0) (by omega) (by omega)) (fun v11 M12 h13 => ?_)
      obtain ⟨rfl, h13⟩ := h13
      rw [h13]
      show ml _ _ _ (238, [(0, .ref m0), (1, .int x1), (2, .int x2), (3, .int x3), (4, .int x4), (5, .int x5), (6, .int x6)], [.int (f2 f x3), .int 2, .int 2, .int (x4 - x3)], M) _
      refine ml_blk 2 (S' := (240, [(0, .ref m0), (1, .int x1), (2, .int x2), (3, .int x3), (4, .int x4), (5, .int x5), (6, .int x6)], [.int (2 + (2 * (f2 f x3))), .int (x4 - x3)], M)) rfl ?_
      refine ml_if2 (S1 := (246, [(0, .ref m0), (1, .int x1), (2, .int x2), (3, .int x3), (4, .int x4), (5, .int x5), (6, .int x6)], [], M)) (S2 := (243, [], [], M)) rfl rfl rfl (fun c_240 => ?_) (fun c_240 => ?_)
      · have c_240 : (x4 - x3) = (2 + (2 * (f2 f x3))) := of_decide_eq_true c_240
        have hde : (x4 - x3).toInt = (2 + 2 * f2 f x3).toInt := congrArg Int32.toInt c_240
        rw [i_sub (by omega) (by omega), i_add (by rw [two_k hc0 (by omega)]; omega) (by rw [two_k hc0 (by omega)]; omega), two_k hc0 (by omega)] at hde
        refine ml_blk 2 (S' := (249, [(0, .ref m0), (1, .int x1), (2, .int x2), (3, .int x3), (4, .int x4), (5, .int x5), (6, .int x6)], [.int 9, .int x1], M)) rfl ?_
        refine ml_if2 (S1 := (265, [(0, .ref m0), (1, .int x1), (3, .int x3), (5, .int x5), (6, .int x6)], [], M)) (S2 := (252, [(0, .ref m0), (1, .int x1), (2, .int x2), (3, .int x3), (4, .int x4), (5, .int x5), (6, .int x6)], [], M)) rfl rfl rfl (fun c_249 => ?_) (fun c_249 => ?_)
        · have c_249 : ¬ x1 = 9 := of_decide_eq_true c_249
          refine ml_st (S' := (266, [(0, .ref m0), (1, .int x1), (3, .int x3), (5, .int x5), (6, .int x6)], [.int 0], M)) rfl rfl rfl ?_
          refine ml_st (S' := (268, [(0, .ref m0), (1, .int x1), (3, .int x3), (5, .int x5), (6, .int x6), (9, .int 0)], [], M)) rfl rfl rfl ?_
          have L_268 : ∀ (n_268 : Nat) (i268_9 : Int32), (2147483648 - i268_9.toInt).toNat ≤ n_268 → 0 ≤ i268_9.toInt → ml (mT g) d (mb_177 g).2 (268, [(0, .ref m0), (1, .int x1), (3, .int x3), (5, .int x5), (6, .int x6), (9, .int i268_9)], [], M) (fun v M' => ∃ (x : Int32) (I' : rI) (R' : rR), v = some (.int x) ∧ RS g m0 q z I' R' M' ∧ eqI [47, 48, 65, 67, 68, 69, 70, 71, 72] I I' ∧ eqR [] R R' ∧ NW f n I') := by
            intro n_268
            induction n_268 with
            | zero => intro i268_9 hn; exact (loop_zero hn).elim
            | succ n_268 ih_268 =>
              intro i268_9 hn_268 hi_268
              refine ml_blk 3 (S' := (272, [(0, .ref m0), (1, .int x1), (3, .int x3), (5, .int x5), (6, .int x6), (9, .int i268_9)], [.int x3, .ref m0, .int i268_9], M)) rfl ?_
              refine ml_call (a := [.ref m0, .int x3]) (rest := [.int i268_9]) rfl (hR.okc rfl rfl rfl) rfl rfl (rm_u2 hR hF (h0) (by omega) (by omega)) (fun v14 M15 h16 => ?_)
              obtain ⟨rfl, h16⟩ := h16
              rw [h16]
              show ml _ _ _ (275, [(0, .ref m0), (1, .int x1), (3, .int x3), (5, .int x5), (6, .int x6), (9, .int i268_9)], [.int (f2 f x3), .int i268_9], M) _
              refine ml_if2 (S1 := (329, [(0, .ref m0), (1, .int x1), (3, .int x3), (5, .int x5), (6, .int x6), (9, .int i268_9)], [], M)) (S2 := (278, [(0, .ref m0), (1, .int x1), (3, .int x3), (5, .int x5), (6, .int x6), (9, .int i268_9)], [], M)) rfl rfl rfl (fun c_275 => ?_) (fun c_275 => ?_)
              · have c_275 : (f2 f x3) ≤ i268_9 := of_decide_eq_true c_275
                refine ml_blk 2 (S' := (332, [(0, .ref m0), (1, .int x1), (3, .int x3), (5, .int x5), (6, .int x6), (9, .int i268_9)], [.int 7, .int x1], M)) rfl ?_
                refine ml_if2 (S1 := (349, [(0, .ref m0), (1, .int x1), (3, .int x3), (5, .int x5)], [], M)) (S2 := (335, [(0, .ref m0), (1, .int x1), (3, .int x3), (5, .int x5), (6, .int x6), (9, .int i268_9)], [], M)) rfl rfl rfl (fun c_332 => ?_) (fun c_332 => ?_)
                · have c_332 : ¬ x1 = 7 := of_decide_eq_true c_332
                  refine ml_blk 2 (S' := (351, [(0, .ref m0), (1, .int x1), (3, .int x3), (5, .int x5)], [.int 2, .int x1], M)) rfl ?_
                  refine ml_if2 (S1 := (366, [(0, .ref m0), (1, .int x1), (3, .int x3)], [], M)) (S2 := (354, [(0, .ref m0), (1, .int x1), (3, .int x3), (5, .int x5)], [], M)) rfl rfl rfl (fun c_351 => ?_) (fun c_351 => ?_)
                  rotate_left
                  · exact absurd ((show ¬ x1 = 2 from fun h => by have q := hw.1; rw [h] at q; exact absurd q (by decide))) (of_decide_eq_false c_351)
                  refine ml_blk 2 (S' := (369, [(0, .ref m0), (1, .int x1), (3, .int x3)], [.int 7, .int x1], M)) rfl ?_
                  refine ml_if2 (S1 := (381, [(0, .ref m0), (1, .int x1), (3, .int x3)], [], M)) (S2 := (372, [(0, .ref m0), (1, .int x1), (3, .int x3)], [], M)) rfl rfl rfl (fun c_369 => ?_) (fun c_369 => ?_)
                  · have c_369 : ¬ x1 = 7 := of_decide_eq_true c_369
                    refine ml_blk 2 (S' := (384, [(0, .ref m0), (1, .int x1), (3, .int x3)], [.int 9, .int x1], M)) rfl ?_
                    refine ml_if2 (S1 := (396, [], [], M)) (S2 := (387, [(0, .ref m0), (1, .int x1), (3, .int x3)], [], M)) rfl rfl rfl (fun c_384 => ?_) (fun c_384 => ?_)
                    · have c_384 : ¬ x1 = 9 := of_decide_eq_true c_384
                      refine ml_st (S' := (397, [], [.int 0], M)) rfl rfl rfl ?_
                      exact ml_ret rfl (rfl) (⟨_, _, _, rfl, hR, eqI.rf, eqR.rf, hN⟩)
                    · have c_384 : ¬ (¬ x1 = 9) := of_decide_eq_false c_384
                      refine ml_blk 3 (S' := (390, [(0, .ref m0), (1, .int x1), (3, .int x3)], [.int x3, .ref m0, .ref m0], M)) rfl ?_
                      refine ml_call (a := [.ref m0, .int x3]) (rest := [.ref m0]) rfl (hR.okc rfl rfl rfl) rfl rfl (rm_u2 hR hF (h0) (by omega) (by omega)) (fun v17 M18 h19 => ?_)
                      obtain ⟨rfl, h19⟩ := h19
                      rw [h19]
                      show ml _ _ _ (393, [(0, .ref m0), (1, .int x1), (3, .int x3)], [.int (f2 f x3), .ref m0], M) _
                      refine rp_int rfl hR rfl (fun M20 I21 hR22 e23 f24 => ?_)
                      show ml _ _ _ (396, [], [], M20) _
                      refine ml_st (S' := (397, [], [.int 0], M20)) rfl rfl rfl ?_
                      exact ml_ret rfl (rfl) (⟨_, _, _, rfl, hR22, (eqI.rf.put f24 (by decide)), eqR.rf, (hN.put (by decide) e23 f24)⟩)
                  · have c_369 : ¬ (¬ x1 = 7) := of_decide_eq_false c_369
                    refine ml_blk 3 (S' := (375, [(0, .ref m0), (1, .int x1), (3, .int x3)], [.int x3, .ref m0, .ref m0], M)) rfl ?_
                    refine ml_call (a := [.ref m0, .int x3]) (rest := [.ref m0]) rfl (hR.okc rfl rfl rfl) rfl rfl (rm_u2 hR hF (h0) (by omega) (by omega)) (fun v25 M26 h27 => ?_)
                    obtain ⟨rfl, h27⟩ := h27
                    rw [h27]
                    show ml _ _ _ (378, [(0, .ref m0), (1, .int x1), (3, .int x3)], [.int (f2 f x3), .ref m0], M) _
                    refine rp_int rfl hR rfl (fun M28 I29 hR30 e31 f32 => ?_)
                    show ml _ _ _ (381, [(0, .ref m0), (1, .int x1), (3, .int x3)], [], M28) _
                    refine ml_blk 2 (S' := (384, [(0, .ref m0), (1, .int x1), (3, .int x3)], [.int 9, .int x1], M28)) rfl ?_
                    refine ml_if2 (S1 := (396, [], [], M28)) (S2 := (387, [(0, .ref m0), (1, .int x1), (3, .int x3)], [], M28)) rfl rfl rfl (fun c_384 => ?_) (fun c_384 => ?_)
                    · have c_384 : ¬ x1 = 9 := of_decide_eq_true c_384
                      refine ml_st (S' := (397, [], [.int 0], M28)) rfl rfl rfl ?_
                      exact ml_ret rfl (rfl) (⟨_, _, _, rfl, hR30, (eqI.rf.put f32 (by decide)), eqR.rf, (hN.put (by decide) e31 f32)⟩)
                    · have c_384 : ¬ (¬ x1 = 9) := of_decide_eq_false c_384
                      refine ml_blk 3 (S' := (390, [(0, .ref m0), (1, .int x1), (3, .int x3)], [.int x3, .ref m0, .ref m0], M28)) rfl ?_
                      have hF33 : FK n f I29 R := (hF.mono (pIx f32 (by decide)) (fun _ _ => rfl))
                      refine ml_call (a := [.ref m0, .int x3]) (rest := [.ref m0]) rfl (hR30.okc rfl rfl rfl) rfl rfl (rm_u2 hR30 hF33 (h0) (by omega) (by omega)) (fun v34 M35 h36 => ?_)
                      obtain ⟨rfl, h36⟩ := h36
                      rw [h36]
                      show ml _ _ _ (393, [(0, .ref m0), (1, .int x1), (3, .int x3)], [.int (f2 f x3), .ref m0], M28) _
                      refine rp_int rfl hR30 rfl (fun M37 I38 hR39 e40 f41 => ?_)
                      show ml _ _ _ (396, [], [], M37) _
                      refine ml_st (S' := (397, [], [.int 0], M37)) rfl rfl rfl ?_
                      exact ml_ret rfl (rfl) (⟨_, _, _, rfl, hR39, ((eqI.rf.put f32 (by decide)).put f41 (by decide)), eqR.rf, ((hN.put (by decide) e31 f32).put (by decide) e40 f41)⟩)
                · have c_332 : ¬ (¬ x1 = 7) := of_decide_eq_false c_332
                  refine ml_blk 3 (S' := (340, [(0, .ref m0), (1, .int x1), (3, .int x3), (5, .int x5), (6, .int x6), (9, .int i268_9)], [.int (x6 >>> (6 &&& 31))], M)) rfl ?_
                  refine ml_blk 3 (S' := (343, [(0, .ref m0), (1, .int x1), (3, .int x3), (5, .int x5), (6, .int x6), (9, .int i268_9)], [.int 1, .int ((x6 >>> (6 &&& 31)) &&& 1)], M)) rfl ?_
                  refine ml_if2 (S1 := (349, [(0, .ref m0), (1, .int x1), (3, .int x3), (5, .int x5)], [], M)) (S2 := (346, [(0, .ref m0), (1, .int x1), (3, .int x3), (5, .int x5), (6, .int x6), (9, .int i268_9)], [], M)) rfl rfl rfl (fun c_343 => ?_) (fun c_343 => ?_)
                  · have c_343 : ¬ ((x6 >>> (6 &&& 31)) &&& 1) = 1 := of_decide_eq_true c_343
                    refine ml_blk 2 (S' := (351, [(0, .ref m0), (1, .int x1), (3, .int x3), (5, .int x5)], [.int 2, .int x1], M)) rfl ?_
                    refine ml_if2 (S1 := (366, [(0, .ref m0), (1, .int x1), (3, .int x3)], [], M)) (S2 := (354, [(0, .ref m0), (1, .int x1), (3, .int x3), (5, .int x5)], [], M)) rfl rfl rfl (fun c_351 => ?_) (fun c_351 => ?_)
                    rotate_left
                    · exact absurd ((show ¬ x1 = 2 from fun h => by have q := hw.1; rw [h] at q; exact absurd q (by decide))) (of_decide_eq_false c_351)
                    refine ml_blk 2 (S' := (369, [(0, .ref m0), (1, .int x1), (3, .int x3)], [.int 7, .int x1], M)) rfl ?_
                    refine ml_if2 (S1 := (381, [(0, .ref m0), (1, .int x1), (3, .int x3)], [], M)) (S2 := (372, [(0, .ref m0), (1, .int x1), (3, .int x3)], [], M)) rfl rfl rfl (fun c_369 => ?_) (fun c_369 => ?_)
                    · have c_369 : ¬ x1 = 7 := of_decide_eq_true c_369
                      refine ml_blk 2 (S' := (384, [(0, .ref m0), (1, .int x1), (3, .int x3)], [.int 9, .int x1], M)) rfl ?_
                      refine ml_if2 (S1 := (396, [], [], M)) (S2 := (387, [(0, .ref m0), (1, .int x1), (3, .int x3)], [], M)) rfl rfl rfl (fun c_384 => ?_) (fun c_384 => ?_)
                      · have c_384 : ¬ x1 = 9 := of_decide_eq_true c_384
                        refine ml_st (S' := (397, [], [.int 0], M)) rfl rfl rfl ?_
                        exact ml_ret rfl (rfl) (⟨_, _, _, rfl, hR, eqI.rf, eqR.rf, hN⟩)
                      · have c_384 : ¬ (¬ x1 = 9) := of_decide_eq_false c_384
                        refine ml_blk 3 (S' := (390, [(0, .ref m0), (1, .int x1), (3, .int x3)], [.int x3, .ref m0, .ref m0], M)) rfl ?_
                        refine ml_call (a := [.ref m0, .int x3]) (rest := [.ref m0]) rfl (hR.okc rfl rfl rfl) rfl rfl (rm_u2 hR hF (h0) (by omega) (by omega)) (fun v42 M43 h44 => ?_)
                        obtain ⟨rfl, h44⟩ := h44
                        rw [h44]
                        show ml _ _ _ (393, [(0, .ref m0), (1, .int x1), (3, .int x3)], [.int (f2 f x3), .ref m0], M) _
                        refine rp_int rfl hR rfl (fun M45 I46 hR47 e48 f49 => ?_)
                        show ml _ _ _ (396, [], [], M45) _
                        refine ml_st (S' := (397, [], [.int 0], M45)) rfl rfl rfl ?_
                        exact ml_ret rfl (rfl) (⟨_, _, _, rfl, hR47, (eqI.rf.put f49 (by decide)), eqR.rf, (hN.put (by decide) e48 f49)⟩)
                    · have c_369 : ¬ (¬ x1 = 7) := of_decide_eq_false c_369
                      refine ml_blk 3 (S' := (375, [(0, .ref m0), (1, .int x1), (3, .int x3)], [.int x3, .ref m0, .ref m0], M)) rfl ?_
                      refine ml_call (a := [.ref m0, .int x3]) (rest := [.ref m0]) rfl (hR.okc rfl rfl rfl) rfl rfl (rm_u2 hR hF (h0) (by omega) (by omega)) (fun v50 M51 h52 => ?_)
                      obtain ⟨rfl, h52⟩ := h52
                      rw [h52]
                      show ml _ _ _ (378, [(0, .ref m0), (1, .int x1), (3, .int x3)], [.int (f2 f x3), .ref m0], M) _
                      refine rp_int rfl hR rfl (fun M53 I54 hR55 e56 f57 => ?_)
                      show ml _ _ _ (381, [(0, .ref m0), (1, .int x1), (3, .int x3)], [], M53) _
                      refine ml_blk 2 (S' := (384, [(0, .ref m0), (1, .int x1), (3, .int x3)], [.int 9, .int x1], M53)) rfl ?_
                      refine ml_if2 (S1 := (396, [], [], M53)) (S2 := (387, [(0, .ref m0), (1, .int x1), (3, .int x3)], [], M53)) rfl rfl rfl (fun c_384 => ?_) (fun c_384 => ?_)
                      · have c_384 : ¬ x1 = 9 := of_decide_eq_true c_384
                        refine ml_st (S' := (397, [], [.int 0], M53)) rfl rfl rfl ?_
                        exact ml_ret rfl (rfl) (⟨_, _, _, rfl, hR55, (eqI.rf.put f57 (by decide)), eqR.rf, (hN.put (by decide) e56 f57)⟩)
                      · have c_384 : ¬ (¬ x1 = 9) := of_decide_eq_false c_384
                        refine ml_blk 3 (S' := (390, [(0, .ref m0), (1, .int x1), (3, .int x3)], [.int x3, .ref m0, .ref m0], M53)) rfl ?_
                        have hF58 : FK n f I54 R := (hF.mono (pIx f57 (by decide)) (fun _ _ => rfl))
                        refine ml_call (a := [.ref m0, .int x3]) (rest := [.ref m0]) rfl (hR55.okc rfl rfl rfl) rfl rfl (rm_u2 hR55 hF58 (h0) (by omega) (by omega)) (fun v59 M60 h61 => ?_)
                        obtain ⟨rfl, h61⟩ := h61
                        rw [h61]
                        show ml _ _ _ (393, [(0, .ref m0), (1, .int x1), (3, .int x3)], [.int (f2 f x3), .ref m0], M53) _
                        refine rp_int rfl hR55 rfl (fun M62 I63 hR64 e65 f66 => ?_)
                        show ml _ _ _ (396, [], [], M62) _
                        refine ml_st (S' := (397, [], [.int 0], M62)) rfl rfl rfl ?_
                        exact ml_ret rfl (rfl) (⟨_, _, _, rfl, hR64, ((eqI.rf.put f57 (by decide)).put f66 (by decide)), eqR.rf, ((hN.put (by decide) e56 f57).put (by decide) e65 f66)⟩)
                  · have c_343 : ¬ (¬ ((x6 >>> (6 &&& 31)) &&& 1) = 1) := of_decide_eq_false c_343
                    refine ml_st (S' := (348, [(0, .ref m0), (1, .int x1), (3, .int x3), (5, .int x5), (6, .int x6), (9, .int i268_9)], [.int 35], M)) rfl rfl rfl ?_
                    exact ml_ret rfl (rfl) (⟨_, _, _, rfl, hR, eqI.rf, eqR.rf, hN⟩)
              · have c_275 : ¬ ((f2 f x3) ≤ i268_9) := of_decide_eq_false c_275
                have hjl := i_nle c_275
                have hjk : (x3 + 2 + 2 * i268_9).toInt = x3.toInt + 2 + 2 * i268_9.toInt := by have d2 : (x3 + 2).toInt = x3.toInt + 2 := (by rw [i_add (by omega) (by omega), i2_]); rw [i_add (by rw [two_k hi_268 (by omega)]; omega) (by rw [two_k hi_268 (by omega)]; omega), two_k hi_268 (by omega), d2]
                refine ml_blk 3 (S' := (281, [(0, .ref m0), (1, .int x1), (3, .int x3), (5, .int x5), (6, .int x6), (9, .int i268_9)], [.int x3, .ref m0, .ref m0], M)) rfl ?_
                refine ml_blk 3 (S' := (284, [(0, .ref m0), (1, .int x1), (3, .int x3), (5, .int x5), (6, .int x6), (9, .int i268_9)], [.int 2, .int (x3 + 2), .ref m0, .ref m0], M)) rfl ?_
                refine ml_blk 3 (S' := (288, [(0, .ref m0), (1, .int x1), (3, .int x3), (5, .int x5), (6, .int x6), (9, .int i268_9)], [.int ((x3 + 2) + (2 * i268_9)), .ref m0, .ref m0], M)) rfl ?_
                refine ml_call (a := [.ref m0, .int ((x3 + 2) + (2 * i268_9))]) (rest := [.ref m0]) rfl (hR.okc rfl rfl rfl) rfl rfl (rm_u2 hR hF (by omega) (by omega) (by omega)) (fun v67 M68 h69 => ?_)
                obtain ⟨rfl, h69⟩ := h69
                rw [h69]
                show ml _ _ _ (291, [(0, .ref m0), (1, .int x1), (3, .int x3), (5, .int x5), (6, .int x6), (9, .int i268_9)], [.int (f2 f ((x3 + 2) + (2 * i268_9))), .ref m0], M) _
                refine ml_call (a := [.ref m0, .int (f2 f ((x3 + 2) + (2 * i268_9)))]) (rest := []) rfl (hR.okc rfl rfl rfl) rfl rfl (rm_tag hR hF hP (by omega)) (fun v70 M71 h72 => ?_)
                obtain ⟨rfl, h72⟩ := h72
                rw [h72]
                show ml _ _ _ (294, [(0, .ref m0), (1, .int x1), (3, .int x3), (5, .int x5), (6, .int x6), (9, .int i268_9)], [.int (tgf f cp pa (f2 f ((x3 + 2) + (2 * i268_9))))], M) _
                refine ml_st (S' := (296, [(0, .ref m0), (1, .int x1), (3, .int x3), (5, .int x5), (6, .int x6), (9, .int i268_9)], [.int 7, .int (tgf f cp pa (f2 f ((x3 + 2) + (2 * i268_9))))], M)) rfl rfl rfl ?_
                refine ml_if2 (S1 := (323, [(0, .ref m0), (1, .int x1), (3, .int x3), (5, .int x5), (6, .int x6), (9, .int i268_9)], [], M)) (S2 := (299, [(0, .ref m0), (1, .int x1), (3, .int x3), (5, .int x5), (6, .int x6), (9, .int i268_9)], [], M)) rfl rfl rfl (fun c_296 => ?_) (fun c_296 => ?_)
                · have c_296 : (tgf f cp pa (f2 f ((x3 + 2) + (2 * i268_9)))) = 7 := of_decide_eq_true c_296
                  refine ml_st (S' := (326, [(9, .int (i268_9 + 1)), (0, .ref m0), (1, .int x1), (3, .int x3), (5, .int x5), (6, .int x6)], [], M)) rfl rfl rfl ?_
                  refine ml_st (S' := (268, [(0, .ref m0), (1, .int x1), (3, .int x3), (5, .int x5), (6, .int x6), (9, .int (i268_9 + 1))], [], M)) rfl rfl rfl ?_
                  exact ih_268 (i268_9 + 1) (loop_inc (Int32.not_le.mp c_275) hn_268) (by rw [inc_lt (Int32.not_le.mp c_275)]; omega)
                · have c_296 : ¬ ((tgf f cp pa (f2 f ((x3 + 2) + (2 * i268_9)))) = 7) := of_decide_eq_false c_296
                  refine ml_blk 2 (S' := (301, [(0, .ref m0), (1, .int x1), (3, .int x3), (5, .int x5), (6, .int x6), (9, .int i268_9)], [.int 2, .int x1], M)) rfl ?_
                  refine ml_if2 (S1 := (309, [(0, .ref m0), (1, .int x1), (3, .int x3), (5, .int x5), (6, .int x6), (9, .int i268_9)], [], M)) (S2 := (304, [(0, .ref m0), (1, .int x1), (3, .int x3), (5, .int x5), (6, .int x6), (9, .int i268_9)], [], M)) rfl rfl rfl (fun c_301 => ?_) (fun c_301 => ?_)
                  rotate_left
                  · exact absurd ((show ¬ x1 = 2 from fun h => by have q := hw.1; rw [h] at q; exact absurd q (by decide))) (of_decide_eq_false c_301)
                  refine ml_blk 2 (S' := (312, [(0, .ref m0), (1, .int x1), (3, .int x3), (5, .int x5), (6, .int x6), (9, .int i268_9)], [.int 7, .int x1], M)) rfl ?_
                  refine ml_if2 (S1 := (320, [(0, .ref m0), (1, .int x1), (3, .int x3), (5, .int x5), (6, .int x6), (9, .int i268_9)], [], M)) (S2 := (315, [(0, .ref m0), (1, .int x1), (3, .int x3), (5, .int x5), (6, .int x6), (9, .int i268_9)], [], M)) rfl rfl rfl (fun c_312 => ?_) (fun c_312 => ?_)
                  · have c_312 : ¬ x1 = 7 := of_decide_eq_true c_312
                    refine ml_st (S' := (322, [], [.int 36], M)) rfl rfl rfl ?_
                    exact ml_ret rfl (rfl) (⟨_, _, _, rfl, hR, eqI.rf, eqR.rf, hN⟩)
                  · have c_312 : ¬ (¬ x1 = 7) := of_decide_eq_false c_312
                    refine ml_st (S' := (317, [(0, .ref m0), (1, .int x1), (3, .int x3), (5, .int x5), (6, .int x6), (9, .int i268_9)], [.int 35], M)) rfl rfl rfl ?_
                    refine ml_st (S' := (322, [], [.int 35], M)) rfl rfl rfl ?_
                    exact ml_ret rfl (rfl) (⟨_, _, _, rfl, hR, eqI.rf, eqR.rf, hN⟩)
          exact L_268 _ 0 (Nat.le_refl _) (by decide)
        · have c_249 : ¬ (¬ x1 = 9) := of_decide_eq_false c_249
          refine ml_st (S' := (253, [(0, .ref m0), (1, .int x1), (2, .int x2), (3, .int x3), (4, .int x4), (5, .int x5), (6, .int x6)], [.ref m0], M)) rfl rfl rfl ?_
          refine rg_int (S' := (256, [(0, .ref m0), (1, .int x1), (2, .int x2), (3, .int x3), (4, .int x4), (5, .int x5), (6, .int x6)], [.int nf], M)) rfl hR rfl (hk58) rfl ?_
          refine ml_blk 2 (S' := (259, [(0, .ref m0), (1, .int x1), (2, .int x2), (3, .int x3), (4, .int x4), (5, .int x5), (6, .int x6)], [.int (nf &&& 16)], M)) rfl ?_
          refine ml_if (S1 := (265, [(0, .ref m0), (1, .int x1), (3, .int x3), (5, .int x5), (6, .int x6)], [], M)) (S2 := (262, [(0, .ref m0), (1, .int x1), (2, .int x2), (3, .int x3), (4, .int x4), (5, .int x5), (6, .int x6)], [], M)) rfl rfl rfl (fun c_259 => ?_) (fun c_259 => ?_)
          · have c_259 : (nf &&& 16) = 0 := of_decide_eq_true c_259
            refine ml_st (S' := (266, [(0, .ref m0), (1, .int x1), (3, .int x3), (5, .int x5), (6, .int x6)], [.int 0], M)) rfl rfl rfl ?_
            refine ml_st (S' := (268, [(0, .ref m0), (1, .int x1), (3, .int x3), (5, .int x5), (6, .int x6), (9, .int 0)], [], M)) rfl rfl rfl ?_
            have L_268 : ∀ (n_268 : Nat) (i268_9 : Int32), (2147483648 - i268_9.toInt).toNat ≤ n_268 → 0 ≤ i268_9.toInt → ml (mT g) d (mb_177 g).2 (268, [(0, .ref m0), (1, .int x1), (3, .int x3), (5, .int x5), (6, .int x6), (9, .int i268_9)], [], M) (fun v M' => ∃ (x : Int32) (I' : rI) (R' : rR), v = some (.int x) ∧ RS g m0 q z I' R' M' ∧ eqI [47, 48, 65, 67, 68, 69, 70, 71, 72] I I' ∧ eqR [] R R' ∧ NW f n I') := by
              intro n_268
              induction n_268 with
              | zero => intro i268_9 hn; exact (loop_zero hn).elim
              | succ n_268 ih_268 =>
                intro i268_9 hn_268 hi_268
                refine ml_blk 3 (S' := (272, [(0, .ref m0), (1, .int x1), (3, .int x3), (5, .int x5), (6, .int x6), (9, .int i268_9)], [.int x3, .ref m0, .int i268_9], M)) rfl ?_
                refine ml_call (a := [.ref m0, .int x3]) (rest := [.int i268_9]) rfl (hR.okc rfl rfl rfl) rfl rfl (rm_u2 hR hF (h0) (by omega) (by omega)) (fun v73 M74 h75 => ?_)
                obtain ⟨rfl, h75⟩ := h75
                rw [h75]
                show ml _ _ _ (275, [(0, .ref m0), (1, .int x1), (3, .int x3), (5, .int x5), (6, .int x6), (9, .int i268_9)], [.int (f2 f x3), .int i268_9], M) _
                refine ml_if2 (S1 := (329, [(0, .ref m0), (1, .int x1), (3, .int x3), (5, .int x5), (6, .int x6), (9, .int i268_9)], [], M)) (S2 := (278, [(0, .ref m0), (1, .int x1), (3, .int x3), (5, .int x5), (6, .int x6), (9, .int i268_9)], [], M)) rfl rfl rfl (fun c_275 => ?_) (fun c_275 => ?_)
                · have c_275 : (f2 f x3) ≤ i268_9 := of_decide_eq_true c_275
                  refine ml_blk 2 (S' := (332, [(0, .ref m0), (1, .int x1), (3, .int x3), (5, .int x5), (6, .int x6), (9, .int i268_9)], [.int 7, .int x1], M)) rfl ?_
                  refine ml_if2 (S1 := (349, [(0, .ref m0), (1, .int x1), (3, .int x3), (5, .int x5)], [], M)) (S2 := (335, [(0, .ref m0), (1, .int x1), (3, .int x3), (5, .int x5), (6, .int x6), (9, .int i268_9)], [], M)) rfl rfl rfl (fun c_332 => ?_) (fun c_332 => ?_)
                  · have c_332 : ¬ x1 = 7 := of_decide_eq_true c_332
                    refine ml_blk 2 (S' := (351, [(0, .ref m0), (1, .int x1), (3, .int x3), (5, .int x5)], [.int 2, .int x1], M)) rfl ?_
                    refine ml_if2 (S1 := (366, [(0, .ref m0), (1, .int x1), (3, .int x3)], [], M)) (S2 := (354, [(0, .ref m0), (1, .int x1), (3, .int x3), (5, .int x5)], [], M)) rfl rfl rfl (fun c_351 => ?_) (fun c_351 => ?_)
                    rotate_left
                    · exact absurd ((show ¬ x1 = 2 from fun h => by have q := hw.1; rw [h] at q; exact absurd q (by decide))) (of_decide_eq_false c_351)
                    refine ml_blk 2 (S' := (369, [(0, .ref m0), (1, .int x1), (3, .int x3)], [.int 7, .int x1], M)) rfl ?_
                    refine ml_if2 (S1 := (381, [(0, .ref m0), (1, .int x1), (3, .int x3)], [], M)) (S2 := (372, [(0, .ref m0), (1, .int x1), (3, .int x3)], [], M)) rfl rfl rfl (fun c_369 => ?_) (fun c_369 => ?_)
                    · have c_369 : ¬ x1 = 7 := of_decide_eq_true c_369
                      refine ml_blk 2 (S' := (384, [(0, .ref m0), (1, .int x1), (3, .int x3)], [.int 9, .int x1], M)) rfl ?_
                      refine ml_if2 (S1 := (396, [], [], M)) (S2 := (387, [(0, .ref m0), (1, .int x1), (3, .int x3)], [], M)) rfl rfl rfl (fun c_384 => ?_) (fun c_384 => ?_)
                      · have c_384 : ¬ x1 = 9 := of_decide_eq_true c_384
                        refine ml_st (S' := (397, [], [.int 0], M)) rfl rfl rfl ?_
                        exact ml_ret rfl (rfl) (⟨_, _, _, rfl, hR, eqI.rf, eqR.rf, hN⟩)
                      · have c_384 : ¬ (¬ x1 = 9) := of_decide_eq_false c_384
                        refine ml_blk 3 (S' := (390, [(0, .ref m0), (1, .int x1), (3, .int x3)], [.int x3, .ref m0, .ref m0], M)) rfl ?_
                        refine ml_call (a := [.ref m0, .int x3]) (rest := [.ref m0]) rfl (hR.okc rfl rfl rfl) rfl rfl (rm_u2 hR hF (h0) (by omega) (by omega)) (fun v76 M77 h78 => ?_)
                        obtain ⟨rfl, h78⟩ := h78
                        rw [h78]
                        show ml _ _ _ (393, [(0, .ref m0), (1, .int x1), (3, .int x3)], [.int (f2 f x3), .ref m0], M) _
                        refine rp_int rfl hR rfl (fun M79 I80 hR81 e82 f83 => ?_)
                        show ml _ _ _ (396, [], [], M79) _
                        refine ml_st (S' := (397, [], [.int 0], M79)) rfl rfl rfl ?_
                        exact ml_ret rfl (rfl) (⟨_, _, _, rfl, hR81, (eqI.rf.put f83 (by decide)), eqR.rf, (hN.put (by decide) e82 f83)⟩)
                    · have c_369 : ¬ (¬ x1 = 7) := of_decide_eq_false c_369
                      refine ml_blk 3 (S' := (375, [(0, .ref m0), (1, .int x1), (3, .int x3)], [.int x3, .ref m0, .ref m0], M)) rfl ?_
                      refine ml_call (a := [.ref m0, .int x3]) (rest := [.ref m0]) rfl (hR.okc rfl rfl rfl) rfl rfl (rm_u2 hR hF (h0) (by omega) (by omega)) (fun v84 M85 h86 => ?_)
                      obtain ⟨rfl, h86⟩ := h86
                      rw [h86]
                      show ml _ _ _ (378, [(0, .ref m0), (1, .int x1), (3, .int x3)], [.int (f2 f x3), .ref m0], M) _
                      refine rp_int rfl hR rfl (fun M87 I88 hR89 e90 f91 => ?_)
                      show ml _ _ _ (381, [(0, .ref m0), (1, .int x1), (3, .int x3)], [], M87) _
                      refine ml_blk 2 (S' := (384, [(0, .ref m0), (1, .int x1), (3, .int x3)], [.int 9, .int x1], M87)) rfl ?_
                      refine ml_if2 (S1 := (396, [], [], M87)) (S2 := (387, [(0, .ref m0), (1, .int x1), (3, .int x3)], [], M87)) rfl rfl rfl (fun c_384 => ?_) (fun c_384 => ?_)
                      · have c_384 : ¬ x1 = 9 := of_decide_eq_true c_384
                        refine ml_st (S' := (397, [], [.int 0], M87)) rfl rfl rfl ?_
                        exact ml_ret rfl (rfl) (⟨_, _, _, rfl, hR89, (eqI.rf.put f91 (by decide)), eqR.rf, (hN.put (by decide) e90 f91)⟩)
                      · have c_384 : ¬ (¬ x1 = 9) := of_decide_eq_false c_384
                        refine ml_blk 3 (S' := (390, [(0, .ref m0), (1, .int x1), (3, .int x3)], [.int x3, .ref m0, .ref m0], M87)) rfl ?_
                        have hF92 : FK n f I88 R := (hF.mono (pIx f91 (by decide)) (fun _ _ => rfl))
                        refine ml_call (a := [.ref m0, .int x3]) (rest := [.ref m0]) rfl (hR89.okc rfl rfl rfl) rfl rfl (rm_u2 hR89 hF92 (h0) (by omega) (by omega)) (fun v93 M94 h95 => ?_)
                        obtain ⟨rfl, h95⟩ := h95
                        rw [h95]
                        show ml _ _ _ (393, [(0, .ref m0), (1, .int x1), (3, .int x3)], [.int (f2 f x3), .ref m0], M87) _
                        refine rp_int rfl hR89 rfl (fun M96 I97 hR98 e99 f100 => ?_)
                        show ml _ _ _ (396, [], [], M96) _
                        refine ml_st (S' := (397, [], [.int 0], M96)) rfl rfl rfl ?_
                        exact ml_ret rfl (rfl) (⟨_, _, _, rfl, hR98, ((eqI.rf.put f91 (by decide)).put f100 (by decide)), eqR.rf, ((hN.put (by decide) e90 f91).put (by decide) e99 f100)⟩)
                  · have c_332 : ¬ (¬ x1 = 7) := of_decide_eq_false c_332
                    refine ml_blk 3 (S' := (340, [(0, .ref m0), (1, .int x1), (3, .int x3), (5, .int x5), (6, .int x6), (9, .int i268_9)], [.int (x6 >>> (6 &&& 31))], M)) rfl ?_
                    refine ml_blk 3 (S' := (343, [(0, .ref m0), (1, .int x1), (3, .int x3), (5, .int x5), (6, .int x6), (9, .int i268_9)], [.int 1, .int ((x6 >>> (6 &&& 31)) &&& 1)], M)) rfl ?_
                    refine ml_if2 (S1 := (349, [(0, .ref m0), (1, .int x1), (3, .int x3), (5, .int x5)], [], M)) (S2 := (346, [(0, .ref m0), (1, .int x1), (3, .int x3), (5, .int x5), (6, .int x6), (9, .int i268_9)], [], M)) rfl rfl rfl (fun c_343 => ?_) (fun c_343 => ?_)
                    · have c_343 : ¬ ((x6 >>> (6 &&& 31)) &&& 1) = 1 := of_decide_eq_true c_343
                      refine ml_blk 2 (S' := (351, [(0, .ref m0), (1, .int x1), (3, .int x3), (5, .int x5)], [.int 2, .int x1], M)) rfl ?_
                      refine ml_if2 (S1 := (366, [(0, .ref m0), (1, .int x1), (3, .int x3)], [], M)) (S2 := (354, [(0, .ref m0), (1, .int x1), (3, .int x3), (5, .int x5)], [], M)) rfl rfl rfl (fun c_351 => ?_) (fun c_351 => ?_)
                      rotate_left
                      · exact absurd ((show ¬ x1 = 2 from fun h => by have q := hw.1; rw [h] at q; exact absurd q (by decide))) (of_decide_eq_false c_351)
                      refine ml_blk 2 (S' := (369, [(0, .ref m0), (1, .int x1), (3, .int x3)], [.int 7, .int x1], M)) rfl ?_
                      refine ml_if2 (S1 := (381, [(0, .ref m0), (1, .int x1), (3, .int x3)], [], M)) (S2 := (372, [(0, .ref m0), (1, .int x1), (3, .int x3)], [], M)) rfl rfl rfl (fun c_369 => ?_) (fun c_369 => ?_)
                      · have c_369 : ¬ x1 = 7 := of_decide_eq_true c_369
                        refine ml_blk 2 (S' := (384, [(0, .ref m0), (1, .int x1), (3, .int x3)], [.int 9, .int x1], M)) rfl ?_
                        refine ml_if2 (S1 := (396, [], [], M)) (S2 := (387, [(0, .ref m0), (1, .int x1), (3, .int x3)], [], M)) rfl rfl rfl (fun c_384 => ?_) (fun c_384 => ?_)
                        · have c_384 : ¬ x1 = 9 := of_decide_eq_true c_384
                          refine ml_st (S' := (397, [], [.int 0], M)) rfl rfl rfl ?_
                          exact ml_ret rfl (rfl) (⟨_, _, _, rfl, hR, eqI.rf, eqR.rf, hN⟩)
                        · have c_384 : ¬ (¬ x1 = 9) := of_decide_eq_false c_384
                          refine ml_blk 3 (S' := (390, [(0, .ref m0), (1, .int x1), (3, .int x3)], [.int x3, .ref m0, .ref m0], M)) rfl ?_
                          refine ml_call (a := [.ref m0, .int x3]) (rest := [.ref m0]) rfl (hR.okc rfl rfl rfl) rfl rfl (rm_u2 hR hF (h0) (by omega) (by omega)) (fun v101 M102 h103 => ?_)
                          obtain ⟨rfl, h103⟩ := h103
                          rw [h103]
                          show ml _ _ _ (393, [(0, .ref m0), (1, .int x1), (3, .int x3)], [.int (f2 f x3), .ref m0], M) _
                          refine rp_int rfl hR rfl (fun M104 I105 hR106 e107 f108 => ?_)
                          show ml _ _ _ (396, [], [], M104) _
                          refine ml_st (S' := (397, [], [.int 0], M104)) rfl rfl rfl ?_
                          exact ml_ret rfl (rfl) (⟨_, _, _, rfl, hR106, (eqI.rf.put f108 (by decide)), eqR.rf, (hN.put (by decide) e107 f108)⟩)
                      · have c_369 : ¬ (¬ x1 = 7) := of_decide_eq_false c_369
                        refine ml_blk 3 (S' := (375, [(0, .ref m0), (1, .int x1), (3, .int x3)], [.int x3, .ref m0, .ref m0], M)) rfl ?_
                        refine ml_call (a := [.ref m0, .int x3]) (rest := [.ref m0]) rfl (hR.okc rfl rfl rfl) rfl rfl (rm_u2 hR hF (h0) (by omega) (by omega)) (fun v109 M110 h111 => ?_)
                        obtain ⟨rfl, h111⟩ := h111
                        rw [h111]
                        show ml _ _ _ (378, [(0, .ref m0), (1, .int x1), (3, .int x3)], [.int (f2 f x3), .ref m0], M) _
                        refine rp_int rfl hR rfl (fun M112 I113 hR114 e115 f116 => ?_)
                        show ml _ _ _ (381, [(0, .ref m0), (1, .int x1), (3, .int x3)], [], M112) _
                        refine ml_blk 2 (S' := (384, [(0, .ref m0), (1, .int x1), (3, .int x3)], [.int 9, .int x1], M112)) rfl ?_
                        refine ml_if2 (S1 := (396, [], [], M112)) (S2 := (387, [(0, .ref m0), (1, .int x1), (3, .int x3)], [], M112)) rfl rfl rfl (fun c_384 => ?_) (fun c_384 => ?_)
                        · have c_384 : ¬ x1 = 9 := of_decide_eq_true c_384
                          refine ml_st (S' := (397, [], [.int 0], M112)) rfl rfl rfl ?_
                          exact ml_ret rfl (rfl) (⟨_, _, _, rfl, hR114, (eqI.rf.put f116 (by decide)), eqR.rf, (hN.put (by decide) e115 f116)⟩)
                        · have c_384 : ¬ (¬ x1 = 9) := of_decide_eq_false c_384
                          refine ml_blk 3 (S' := (390, [(0, .ref m0), (1, .int x1), (3, .int x3)], [.int x3, .ref m0, .ref m0], M112)) rfl ?_
                          have hF117 : FK n f I113 R := (hF.mono (pIx f116 (by decide)) (fun _ _ => rfl))
                          refine ml_call (a := [.ref m0, .int x3]) (rest := [.ref m0]) rfl (hR114.okc rfl rfl rfl) rfl rfl (rm_u2 hR114 hF117 (h0) (by omega) (by omega)) (fun v118 M119 h120 => ?_)
                          obtain ⟨rfl, h120⟩ := h120
                          rw [h120]
                          show ml _ _ _ (393, [(0, .ref m0), (1, .int x1), (3, .int x3)], [.int (f2 f x3), .ref m0], M112) _
                          refine rp_int rfl hR114 rfl (fun M121 I122 hR123 e124 f125 => ?_)
                          show ml _ _ _ (396, [], [], M121) _
                          refine ml_st (S' := (397, [], [.int 0], M121)) rfl rfl rfl ?_
                          exact ml_ret rfl (rfl) (⟨_, _, _, rfl, hR123, ((eqI.rf.put f116 (by decide)).put f125 (by decide)), eqR.rf, ((hN.put (by decide) e115 f116).put (by decide) e124 f125)⟩)
                    · have c_343 : ¬ (¬ ((x6 >>> (6 &&& 31)) &&& 1) = 1) := of_decide_eq_false c_343
                      refine ml_st (S' := (348, [(0, .ref m0), (1, .int x1), (3, .int x3), (5, .int x5), (6, .int x6), (9, .int i268_9)], [.int 35], M)) rfl rfl rfl ?_
                      exact ml_ret rfl (rfl) (⟨_, _, _, rfl, hR, eqI.rf, eqR.rf, hN⟩)
                · have c_275 : ¬ ((f2 f x3) ≤ i268_9) := of_decide_eq_false c_275
                  have hjl := i_nle c_275
                  have hjk : (x3 + 2 + 2 * i268_9).toInt = x3.toInt + 2 + 2 * i268_9.toInt := by have d2 : (x3 + 2).toInt = x3.toInt + 2 := (by rw [i_add (by omega) (by omega), i2_]); rw [i_add (by rw [two_k hi_268 (by omega)]; omega) (by rw [two_k hi_268 (by omega)]; omega), two_k hi_268 (by omega), d2]
                  refine ml_blk 3 (S' := (281, [(0, .ref m0), (1, .int x1), (3, .int x3), (5, .int x5), (6, .int x6), (9, .int i268_9)], [.int x3, .ref m0, .ref m0], M)) rfl ?_
                  refine ml_blk 3 (S' := (284, [(0, .ref m0), (1, .int x1), (3, .int x3), (5, .int x5), (6, .int x6), (9, .int i268_9)], [.int 2, .int (x3 + 2), .ref m0, .ref m0], M)) rfl ?_
                  refine ml_blk 3 (S' := (288, [(0, .ref m0), (1, .int x1), (3, .int x3), (5, .int x5), (6, .int x6), (9, .int i268_9)], [.int ((x3 + 2) + (2 * i268_9)), .ref m0, .ref m0], M)) rfl ?_
                  refine ml_call (a := [.ref m0, .int ((x3 + 2) + (2 * i268_9))]) (rest := [.ref m0]) rfl (hR.okc rfl rfl rfl) rfl rfl (rm_u2 hR hF (by omega) (by omega) (by omega)) (fun v126 M127 h128 => ?_)
                  obtain ⟨rfl, h128⟩ := h128
                  rw [h128]
                  show ml _ _ _ (291, [(0, .ref m0), (1, .int x1), (3, .int x3), (5, .int x5), (6, .int x6), (9, .int i268_9)], [.int (f2 f ((x3 + 2) + (2 * i268_9))), .ref m0], M) _
                  refine ml_call (a := [.ref m0, .int (f2 f ((x3 + 2) + (2 * i268_9)))]) (rest := []) rfl (hR.okc rfl rfl rfl) rfl rfl (rm_tag hR hF hP (by omega)) (fun v129 M130 h131 => ?_)
                  obtain ⟨rfl, h131⟩ := h131
                  rw [h131]
                  show ml _ _ _ (294, [(0, .ref m0), (1, .int x1), (3, .int x3), (5, .int x5), (6, .int x6), (9, .int i268_9)], [.int (tgf f cp pa (f2 f ((x3 + 2) + (2 * i268_9))))], M) _
                  refine ml_st (S' := (296, [(0, .ref m0), (1, .int x1), (3, .int x3), (5, .int x5), (6, .int x6), (9, .int i268_9)], [.int 7, .int (tgf f cp pa (f2 f ((x3 + 2) + (2 * i268_9))))], M)) rfl rfl rfl ?_
                  refine ml_if2 (S1 := (323, [(0, .ref m0), (1, .int x1), (3, .int x3), (5, .int x5), (6, .int x6), (9, .int i268_9)], [], M)) (S2 := (299, [(0, .ref m0), (1, .int x1), (3, .int x3), (5, .int x5), (6, .int x6), (9, .int i268_9)], [], M)) rfl rfl rfl (fun c_296 => ?_) (fun c_296 => ?_)
                  · have c_296 : (tgf f cp pa (f2 f ((x3 + 2) + (2 * i268_9)))) = 7 := of_decide_eq_true c_296
                    refine ml_st (S' := (326, [(9, .int (i268_9 + 1)), (0, .ref m0), (1, .int x1), (3, .int x3), (5, .int x5), (6, .int x6)], [], M)) rfl rfl rfl ?_
                    refine ml_st (S' := (268, [(0, .ref m0), (1, .int x1), (3, .int x3), (5, .int x5), (6, .int x6), (9, .int (i268_9 + 1))], [], M)) rfl rfl rfl ?_
                    exact ih_268 (i268_9 + 1) (loop_inc (Int32.not_le.mp c_275) hn_268) (by rw [inc_lt (Int32.not_le.mp c_275)]; omega)
                  · have c_296 : ¬ ((tgf f cp pa (f2 f ((x3 + 2) + (2 * i268_9)))) = 7) := of_decide_eq_false c_296
                    refine ml_blk 2 (S' := (301, [(0, .ref m0), (1, .int x1), (3, .int x3), (5, .int x5), (6, .int x6), (9, .int i268_9)], [.int 2, .int x1], M)) rfl ?_
                    refine ml_if2 (S1 := (309, [(0, .ref m0), (1, .int x1), (3, .int x3), (5, .int x5), (6, .int x6), (9, .int i268_9)], [], M)) (S2 := (304, [(0, .ref m0), (1, .int x1), (3, .int x3), (5, .int x5), (6, .int x6), (9, .int i268_9)], [], M)) rfl rfl rfl (fun c_301 => ?_) (fun c_301 => ?_)
                    rotate_left
                    · exact absurd ((show ¬ x1 = 2 from fun h => by have q := hw.1; rw [h] at q; exact absurd q (by decide))) (of_decide_eq_false c_301)
                    refine ml_blk 2 (S' := (312, [(0, .ref m0), (1, .int x1), (3, .int x3), (5, .int x5), (6, .int x6), (9, .int i268_9)], [.int 7, .int x1], M)) rfl ?_
                    refine ml_if2 (S1 := (320, [(0, .ref m0), (1, .int x1), (3, .int x3), (5, .int x5), (6, .int x6), (9, .int i268_9)], [], M)) (S2 := (315, [(0, .ref m0), (1, .int x1), (3, .int x3), (5, .int x5), (6, .int x6), (9, .int i268_9)], [], M)) rfl rfl rfl (fun c_312 => ?_) (fun c_312 => ?_)
                    · have c_312 : ¬ x1 = 7 := of_decide_eq_true c_312
                      refine ml_st (S' := (322, [], [.int 36], M)) rfl rfl rfl ?_
                      exact ml_ret rfl (rfl) (⟨_, _, _, rfl, hR, eqI.rf, eqR.rf, hN⟩)
                    · have c_312 : ¬ (¬ x1 = 7) := of_decide_eq_false c_312
                      refine ml_st (S' := (317, [(0, .ref m0), (1, .int x1), (3, .int x3), (5, .int x5), (6, .int x6), (9, .int i268_9)], [.int 35], M)) rfl rfl rfl ?_
                      refine ml_st (S' := (322, [], [.int 35], M)) rfl rfl rfl ?_
                      exact ml_ret rfl (rfl) (⟨_, _, _, rfl, hR, eqI.rf, eqR.rf, hN⟩)
            exact L_268 _ 0 (Nat.le_refl _) (by decide)
          · have c_259 : ¬ ((nf &&& 16) = 0) := of_decide_eq_false c_259
            refine ml_st (S' := (264, [(0, .ref m0), (1, .int x1), (2, .int x2), (3, .int x3), (4, .int x4), (5, .int x5), (6, .int x6)], [.int 36], M)) rfl rfl rfl ?_
            exact ml_ret rfl (rfl) (⟨_, _, _, rfl, hR, eqI.rf, eqR.rf, hN⟩)
      · have c_240 : ¬ ((x4 - x3) = (2 + (2 * (f2 f x3)))) := of_decide_eq_false c_240
        refine ml_st (S' := (245, [], [.int 30], M)) rfl rfl rfl ?_
        exact ml_ret rfl (rfl) (⟨_, _, _, rfl, hR, eqI.rf, eqR.rf, hN⟩)
  · show ml _ _ _ (398, [(0, .ref m0), (1, .int x1), (2, .int x2), (3, .int x3), (4, .int x4), (5, .int x5), (6, .int x6)], [], M) _
    exfalso
    rcases w49 hw with h | h | h | h | h | h <;> (rw [h] at kt_1; exact absurd kt_1 (by decide))
  · show ml _ _ _ (400, [(0, .ref m0), (1, .int x1), (2, .int x2), (3, .int x3), (4, .int x4), (5, .int x5), (6, .int x6)], [], M) _
    refine ml_blk 3 (S' := (404, [(0, .ref m0), (1, .int x1), (2, .int x2), (3, .int x3), (4, .int x4), (5, .int x5), (6, .int x6)], [.int (x4 - x3)], M)) rfl ?_
    refine ml_st (S' := (405, [(0, .ref m0), (1, .int x1), (2, .int x2), (3, .int x3), (4, .int x4), (5, .int x5), (6, .int x6)], [.int 2, .int (x4 - x3)], M)) rfl rfl rfl ?_
    refine ml_if2 (S1 := (425, [], [], M)) (S2 := (408, [(0, .ref m0), (1, .int x1), (2, .int x2), (3, .int x3), (4, .int x4), (5, .int x5), (6, .int x6)], [], M)) rfl rfl rfl (fun c_405 => ?_) (fun c_405 => ?_)
    · have c_405 : (x4 - x3) < 2 := of_decide_eq_true c_405
      refine ml_st (S' := (427, [], [.int 30], M)) rfl rfl rfl ?_
      exact ml_ret rfl (rfl) (⟨_, _, _, rfl, hR, eqI.rf, eqR.rf, hN⟩)
    · have c_405 : ¬ ((x4 - x3) < 2) := of_decide_eq_false c_405
      have hd2 := i_nlt c_405
      rw [i_sub (by omega) (by omega)] at hd2
      have i2_ : (2 : Int32).toInt = 2 := rfl
      have hc0 := f2_pos (f := f) (x := x3)
      have hc1 := f2_le (f := f) (x := x3)
      refine ml_blk 3 (S' := (412, [(0, .ref m0), (1, .int x1), (2, .int x2), (3, .int x3), (4, .int x4), (5, .int x5), (6, .int x6)], [.int (x4 - x3)], M)) rfl ?_
      refine ml_blk 3 (S' := (416, [(0, .ref m0), (1, .int x1), (2, .int x2), (3, .int x3), (4, .int x4), (5, .int x5), (6, .int x6)], [.ref m0, .int 8, .int 2, .int (x4 - x3)], M)) rfl ?_
      refine ml_st (S' := (417, [(0, .ref m0), (1, .int x1), (2, .int x2), (3, .int x3), (4, .int x4), (5, .int x5), (6, .int x6)], [.int x3, .ref m0, .int 8, .int 2, .int (x4 - x3)], M)) rfl rfl rfl ?_
      refine ml_call (a := [.ref m0, .int x3]) (rest := [.int 8, .int 2, .int (x4 - x3)]) rfl (hR.okc rfl rfl rfl) rfl rfl (rm_u2 hR hF (h0) (by omega) (by omega)) (fun v132 M133 h134 => ?_)
      obtain ⟨rfl, h134⟩ := h134
      rw [h134]
      show ml _ _ _ (420, [(0, .ref m0), (1, .int x1), (2, .int x2), (3, .int x3), (4, .int x4), (5, .int x5), (6, .int x6)], [.int (f2 f x3), .int 8, .int 2, .int (x4 - x3)], M) _
      refine ml_blk 2 (S' := (422, [(0, .ref m0), (1, .int x1), (2, .int x2), (3, .int x3), (4, .int x4), (5, .int x5), (6, .int x6)], [.int (2 + (8 * (f2 f x3))), .int (x4 - x3)], M)) rfl ?_
      refine ml_if2 (S1 := (428, [(0, .ref m0), (1, .int x1), (2, .int x2), (3, .int x3), (4, .int x4), (5, .int x5), (6, .int x6)], [], M)) (S2 := (425, [], [], M)) rfl rfl rfl (fun c_422 => ?_) (fun c_422 => ?_)
      · have c_422 : (x4 - x3) = (2 + (8 * (f2 f x3))) := of_decide_eq_true c_422
        have hde : (x4 - x3).toInt = (2 + 8 * f2 f x3).toInt := congrArg Int32.toInt c_422
        rw [i_sub (by omega) (by omega), i_add (by rw [eight_k hc0 (by omega)]; omega) (by rw [eight_k hc0 (by omega)]; omega), eight_k hc0 (by omega)] at hde
        refine ml_st (S' := (429, [(0, .ref m0), (1, .int x1), (2, .int x2), (3, .int x3), (4, .int x4), (5, .int x5), (6, .int x6)], [.int 0], M)) rfl rfl rfl ?_
        refine ml_st (S' := (431, [(0, .ref m0), (3, .int x3), (9, .int 0)], [], M)) rfl rfl rfl ?_
        have L_431 : ∀ (n_431 : Nat) (i431_9 : Int32), (2147483648 - i431_9.toInt).toNat ≤ n_431 → 0 ≤ i431_9.toInt → ml (mT g) d (mb_177 g).2 (431, [(0, .ref m0), (3, .int x3), (9, .int i431_9)], [], M) (fun v M' => ∃ (x : Int32) (I' : rI) (R' : rR), v = some (.int x) ∧ RS g m0 q z I' R' M' ∧ eqI [47, 48, 65, 67, 68, 69, 70, 71, 72] I I' ∧ eqR [] R R' ∧ NW f n I') := by
          intro n_431
          induction n_431 with
          | zero => intro i431_9 hn; exact (loop_zero hn).elim
          | succ n_431 ih_431 =>
            intro i431_9 hn_431 hi_431
            refine ml_blk 3 (S' := (435, [(0, .ref m0), (3, .int x3), (9, .int i431_9)], [.int x3, .ref m0, .int i431_9], M)) rfl ?_
            refine ml_call (a := [.ref m0, .int x3]) (rest := [.int i431_9]) rfl (hR.okc rfl rfl rfl) rfl rfl (rm_u2 hR hF (h0) (by omega) (by omega)) (fun v135 M136 h137 => ?_)
            obtain ⟨rfl, h137⟩ := h137
            rw [h137]
            show ml _ _ _ (438, [(0, .ref m0), (3, .int x3), (9, .int i431_9)], [.int (f2 f x3), .int i431_9], M) _
            refine ml_if2 (S1 := (531, [(0, .ref m0), (3, .int x3), (9, .int i431_9)], [], M)) (S2 := (441, [(0, .ref m0), (3, .int x3), (9, .int i431_9)], [], M)) rfl rfl rfl (fun c_438 => ?_) (fun c_438 => ?_)
            · have c_438 : (f2 f x3) ≤ i431_9 := of_decide_eq_true c_438
              refine ml_blk 3 (S' := (534, [(0, .ref m0), (3, .int x3), (9, .int i431_9)], [.int x3, .ref m0, .ref m0], M)) rfl ?_
              refine ml_call (a := [.ref m0, .int x3]) (rest := [.ref m0]) rfl (hR.okc rfl rfl rfl) rfl rfl (rm_u2 hR hF (h0) (by omega) (by omega)) (fun v138 M139 h140 => ?_)
              obtain ⟨rfl, h140⟩ := h140
              rw [h140]
              show ml _ _ _ (537, [(0, .ref m0), (3, .int x3), (9, .int i431_9)], [.int (f2 f x3), .ref m0], M) _
              refine rp_int rfl hR rfl (fun M141 I142 hR143 e144 f145 => ?_)
              show ml _ _ _ (540, [(0, .ref m0), (3, .int x3), (9, .int i431_9)], [], M141) _
              refine ml_st (S' := (541, [(0, .ref m0), (3, .int x3), (9, .int i431_9)], [.int 0], M141)) rfl rfl rfl ?_
              exact ml_ret rfl (rfl) (⟨_, _, _, rfl, hR143, (eqI.rf.put f145 (by decide)), eqR.rf, (hN.put (by decide) e144 f145)⟩)
            · have c_438 : ¬ ((f2 f x3) ≤ i431_9) := of_decide_eq_false c_438
              have hjl := i_nle c_438
              have hjk : (x3 + 2 + 8 * i431_9).toInt = x3.toInt + 2 + 8 * i431_9.toInt := by have d2 : (x3 + 2).toInt = x3.toInt + 2 := (by rw [i_add (by omega) (by omega), i2_]); rw [i_add (by rw [eight_k hi_431 (by omega)]; omega) (by rw [eight_k hi_431 (by omega)]; omega), eight_k hi_431 (by omega), d2]
              have hk2 : ((x3 + 2 + 8 * i431_9) + 2).toInt = (x3 + 2 + 8 * i431_9).toInt + 2 := i_add (by have : (2 : Int32).toInt = 2 := rfl; omega) (by have : (2 : Int32).toInt = 2 := rfl; omega)
              have hk4 : ((x3 + 2 + 8 * i431_9) + 4).toInt = (x3 + 2 + 8 * i431_9).toInt + 4 := i_add (by have : (4 : Int32).toInt = 4 := rfl; omega) (by have : (4 : Int32).toInt = 4 := rfl; omega)
              refine ml_blk 3 (S' := (444, [(0, .ref m0), (3, .int x3), (9, .int i431_9)], [.int (x3 + 2)], M)) rfl ?_
              refine ml_blk 3 (S' := (449, [(0, .ref m0), (3, .int x3), (9, .int i431_9)], [.int (8 * i431_9), .int (x3 + 2)], M)) rfl ?_
              refine ml_st (S' := (450, [(0, .ref m0), (3, .int x3), (9, .int i431_9)], [.int ((x3 + 2) + (8 * i431_9))], M)) rfl rfl rfl ?_
              refine ml_st (S' := (452, [(10, .int ((x3 + 2) + (8 * i431_9))), (0, .ref m0), (3, .int x3), (9, .int i431_9)], [], M)) rfl rfl rfl ?_
              refine ml_blk 3 (S' := (456, [(10, .int ((x3 + 2) + (8 * i431_9))), (0, .ref m0), (3, .int x3), (9, .int i431_9)], [.int ((x3 + 2) + (8 * i431_9)), .ref m0, .ref m0], M)) rfl ?_
              refine ml_call (a := [.ref m0, .int ((x3 + 2) + (8 * i431_9))]) (rest := [.ref m0]) rfl (hR.okc rfl rfl rfl) rfl rfl (rm_u2 hR hF (by omega) (by omega) (by omega)) (fun v146 M147 h148 => ?_)
              obtain ⟨rfl, h148⟩ := h148
              rw [h148]
              show ml _ _ _ (459, [(10, .int ((x3 + 2) + (8 * i431_9))), (0, .ref m0), (3, .int x3), (9, .int i431_9)], [.int (f2 f ((x3 + 2) + (8 * i431_9))), .ref m0], M) _
              refine ml_call (a := [.ref m0, .int (f2 f ((x3 + 2) + (8 * i431_9)))]) (rest := []) rfl (hR.okc rfl rfl rfl) rfl rfl (rm_tag hR hF hP (by omega)) (fun v149 M150 h151 => ?_)
              obtain ⟨rfl, h151⟩ := h151
              rw [h151]
              show ml _ _ _ (462, [(10, .int ((x3 + 2) + (8 * i431_9))), (0, .ref m0), (3, .int x3), (9, .int i431_9)], [.int (tgf f cp pa (f2 f ((x3 + 2) + (8 * i431_9))))], M) _
              refine ml_st (S' := (464, [(10, .int ((x3 + 2) + (8 * i431_9))), (0, .ref m0), (3, .int x3), (9, .int i431_9)], [.int 7, .int (tgf f cp pa (f2 f ((x3 + 2) + (8 * i431_9))))], M)) rfl rfl rfl ?_
              refine ml_if2 (S1 := (522, [], [], M)) (S2 := (467, [(10, .int ((x3 + 2) + (8 * i431_9))), (0, .ref m0), (3, .int x3), (9, .int i431_9)], [], M)) rfl rfl rfl (fun c_464 => ?_) (fun c_464 => ?_)
              · have c_464 : ¬ (tgf f cp pa (f2 f ((x3 + 2) + (8 * i431_9)))) = 7 := of_decide_eq_true c_464
                refine ml_st (S' := (524, [], [.int 33], M)) rfl rfl rfl ?_
                exact ml_ret rfl (rfl) (⟨_, _, _, rfl, hR, eqI.rf, eqR.rf, hN⟩)
              · have c_464 : ¬ (¬ (tgf f cp pa (f2 f ((x3 + 2) + (8 * i431_9)))) = 7) := of_decide_eq_false c_464
                refine ml_blk 3 (S' := (471, [(10, .int ((x3 + 2) + (8 * i431_9))), (0, .ref m0), (3, .int x3), (9, .int i431_9)], [.int 2, .int ((x3 + 2) + (8 * i431_9)), .ref m0], M)) rfl ?_
                refine ml_st (S' := (472, [(10, .int ((x3 + 2) + (8 * i431_9))), (0, .ref m0), (3, .int x3), (9, .int i431_9)], [.int (((x3 + 2) + (8 * i431_9)) + 2), .ref m0], M)) rfl rfl rfl ?_
                refine ml_call (a := [.ref m0, .int (((x3 + 2) + (8 * i431_9)) + 2)]) (rest := []) rfl (hR.okc rfl rfl rfl) rfl rfl (rm_u2 hR hF (by omega) (by omega) (by omega)) (fun v152 M153 h154 => ?_)
                obtain ⟨rfl, h154⟩ := h154
                rw [h154]
                show ml _ _ _ (475, [(10, .int ((x3 + 2) + (8 * i431_9))), (0, .ref m0), (3, .int x3), (9, .int i431_9)], [.int (f2 f (((x3 + 2) + (8 * i431_9)) + 2))], M) _
                have J_495 : ml (mT g) d (mb_177 g).2 (495, [(0, .ref m0), (3, .int x3), (9, .int i431_9), (10, .int ((x3 + 2) + (8 * i431_9)))], [], M) (fun v M' => ∃ (x : Int32) (I' : rI) (R' : rR), v = some (.int x) ∧ RS g m0 q z I' R' M' ∧ eqI [47, 48, 65, 67, 68, 69, 70, 71, 72] I I' ∧ eqR [] R R' ∧ NW f n I') := by
                  refine ml_blk 3 (S' := (499, [(0, .ref m0), (3, .int x3), (9, .int i431_9), (10, .int ((x3 + 2) + (8 * i431_9)))], [.int 4, .int ((x3 + 2) + (8 * i431_9)), .ref m0], M)) rfl ?_
                  refine ml_st (S' := (500, [(0, .ref m0), (3, .int x3), (9, .int i431_9), (10, .int ((x3 + 2) + (8 * i431_9)))], [.int (((x3 + 2) + (8 * i431_9)) + 4), .ref m0], M)) rfl rfl rfl ?_
                  refine ml_call (a := [.ref m0, .int (((x3 + 2) + (8 * i431_9)) + 4)]) (rest := []) rfl (hR.okc rfl rfl rfl) rfl rfl (rm_u2 hR hF (by omega) (by omega) (by omega)) (fun v155 M156 h157 => ?_)
                  obtain ⟨rfl, h157⟩ := h157
                  rw [h157]
                  show ml _ _ _ (503, [(0, .ref m0), (3, .int x3), (9, .int i431_9), (10, .int ((x3 + 2) + (8 * i431_9)))], [.int (f2 f (((x3 + 2) + (8 * i431_9)) + 4))], M) _
                  refine ml_if (S1 := (525, [(0, .ref m0), (3, .int x3), (9, .int i431_9)], [], M)) (S2 := (506, [(0, .ref m0), (3, .int x3), (9, .int i431_9), (10, .int ((x3 + 2) + (8 * i431_9)))], [], M)) rfl rfl rfl (fun c_503 => ?_) (fun c_503 => ?_)
                  · have c_503 : (f2 f (((x3 + 2) + (8 * i431_9)) + 4)) = 0 := of_decide_eq_true c_503
                    refine ml_st (S' := (528, [(9, .int (i431_9 + 1)), (0, .ref m0), (3, .int x3)], [], M)) rfl rfl rfl ?_
                    refine ml_st (S' := (431, [(0, .ref m0), (3, .int x3), (9, .int (i431_9 + 1))], [], M)) rfl rfl rfl ?_
                    exact ih_431 (i431_9 + 1) (loop_inc (Int32.not_le.mp c_438) hn_431) (by rw [inc_lt (Int32.not_le.mp c_438)]; omega)
                  · have c_503 : ¬ ((f2 f (((x3 + 2) + (8 * i431_9)) + 4)) = 0) := of_decide_eq_false c_503
                    refine ml_blk 3 (S' := (510, [(0, .ref m0), (3, .int x3), (9, .int i431_9), (10, .int ((x3 + 2) + (8 * i431_9)))], [.int ((x3 + 2) + (8 * i431_9)), .ref m0, .ref m0], M)) rfl ?_
                    refine ml_blk 2 (S' := (512, [(0, .ref m0), (3, .int x3), (9, .int i431_9), (10, .int ((x3 + 2) + (8 * i431_9)))], [.int (((x3 + 2) + (8 * i431_9)) + 4), .ref m0, .ref m0], M)) rfl ?_
                    refine ml_call (a := [.ref m0, .int (((x3 + 2) + (8 * i431_9)) + 4)]) (rest := [.ref m0]) rfl (hR.okc rfl rfl rfl) rfl rfl (rm_u2 hR hF (by omega) (by omega) (by omega)) (fun v158 M159 h160 => ?_)
                    obtain ⟨rfl, h160⟩ := h160
                    rw [h160]
                    show ml _ _ _ (515, [(0, .ref m0), (3, .int x3), (9, .int i431_9), (10, .int ((x3 + 2) + (8 * i431_9)))], [.int (f2 f (((x3 + 2) + (8 * i431_9)) + 4)), .ref m0], M) _
                    refine ml_call (a := [.ref m0, .int (f2 f (((x3 + 2) + (8 * i431_9)) + 4))]) (rest := []) rfl (hR.okc rfl rfl rfl) rfl rfl (rm_tag hR hF hP (by omega)) (fun v161 M162 h163 => ?_)
                    obtain ⟨rfl, h163⟩ := h163
                    rw [h163]
                    show ml _ _ _ (518, [(0, .ref m0), (3, .int x3), (9, .int i431_9), (10, .int ((x3 + 2) + (8 * i431_9)))], [.int (tgf f cp pa (f2 f (((x3 + 2) + (8 * i431_9)) + 4)))], M) _
                    refine ml_st (S' := (519, [(0, .ref m0), (3, .int x3), (9, .int i431_9), (10, .int ((x3 + 2) + (8 * i431_9)))], [.int 1, .int (tgf f cp pa (f2 f (((x3 + 2) + (8 * i431_9)) + 4)))], M)) rfl rfl rfl ?_
                    refine ml_if2 (S1 := (525, [(0, .ref m0), (3, .int x3), (9, .int i431_9)], [], M)) (S2 := (522, [], [], M)) rfl rfl rfl (fun c_519 => ?_) (fun c_519 => ?_)
                    · have c_519 : (tgf f cp pa (f2 f (((x3 + 2) + (8 * i431_9)) + 4))) = 1 := of_decide_eq_true c_519
                      refine ml_st (S' := (528, [(9, .int (i431_9 + 1)), (0, .ref m0), (3, .int x3)], [], M)) rfl rfl rfl ?_
                      refine ml_st (S' := (431, [(0, .ref m0), (3, .int x3), (9, .int (i431_9 + 1))], [], M)) rfl rfl rfl ?_
                      exact ih_431 (i431_9 + 1) (loop_inc (Int32.not_le.mp c_438) hn_431) (by rw [inc_lt (Int32.not_le.mp c_438)]; omega)
                    · have c_519 : ¬ ((tgf f cp pa (f2 f (((x3 + 2) + (8 * i431_9)) + 4))) = 1) := of_decide_eq_false c_519
                      refine ml_st (S' := (524, [], [.int 33], M)) rfl rfl rfl ?_
                      exact ml_ret rfl (rfl) (⟨_, _, _, rfl, hR, eqI.rf, eqR.rf, hN⟩)
                refine ml_if (S1 := (495, [(0, .ref m0), (3, .int x3), (9, .int i431_9), (10, .int ((x3 + 2) + (8 * i431_9)))], [], M)) (S2 := (478, [(10, .int ((x3 + 2) + (8 * i431_9))), (0, .ref m0), (3, .int x3), (9, .int i431_9)], [], M)) rfl rfl rfl (fun c_475 => ?_) (fun c_475 => ?_)
                · have c_475 : (f2 f (((x3 + 2) + (8 * i431_9)) + 2)) = 0 := of_decide_eq_true c_475
                  exact J_495 
                · have c_475 : ¬ ((f2 f (((x3 + 2) + (8 * i431_9)) + 2)) = 0) := of_decide_eq_false c_475
                  refine ml_blk 3 (S' := (482, [(10, .int ((x3 + 2) + (8 * i431_9))), (0, .ref m0), (3, .int x3), (9, .int i431_9)], [.int ((x3 + 2) + (8 * i431_9)), .ref m0, .ref m0], M)) rfl ?_
                  refine ml_blk 2 (S' := (484, [(10, .int ((x3 + 2) + (8 * i431_9))), (0, .ref m0), (3, .int x3), (9, .int i431_9)], [.int (((x3 + 2) + (8 * i431_9)) + 2), .ref m0, .ref m0], M)) rfl ?_
                  refine ml_call (a := [.ref m0, .int (((x3 + 2) + (8 * i431_9)) + 2)]) (rest := [.ref m0]) rfl (hR.okc rfl rfl rfl) rfl rfl (rm_u2 hR hF (by omega) (by omega) (by omega)) (fun v164 M165 h166 => ?_)
                  obtain ⟨rfl, h166⟩ := h166
                  rw [h166]
                  show ml _ _ _ (487, [(10, .int ((x3 + 2) + (8 * i431_9))), (0, .ref m0), (3, .int x3), (9, .int i431_9)], [.int (f2 f (((x3 + 2) + (8 * i431_9)) + 2)), .ref m0], M) _
                  refine ml_call (a := [.ref m0, .int (f2 f (((x3 + 2) + (8 * i431_9)) + 2))]) (rest := []) rfl (hR.okc rfl rfl rfl) rfl rfl (rm_tag hR hF hP (by omega)) (fun v167 M168 h169 => ?_)
                  obtain ⟨rfl, h169⟩ := h169
                  rw [h169]
                  show ml _ _ _ (490, [(10, .int ((x3 + 2) + (8 * i431_9))), (0, .ref m0), (3, .int x3), (9, .int i431_9)], [.int (tgf f cp pa (f2 f (((x3 + 2) + (8 * i431_9)) + 2)))], M) _
                  refine ml_st (S' := (492, [(10, .int ((x3 + 2) + (8 * i431_9))), (0, .ref m0), (3, .int x3), (9, .int i431_9)], [.int 7, .int (tgf f cp pa (f2 f (((x3 + 2) + (8 * i431_9)) + 2)))], M)) rfl rfl rfl ?_
                  refine ml_if2 (S1 := (522, [], [], M)) (S2 := (495, [(0, .ref m0), (3, .int x3), (9, .int i431_9), (10, .int ((x3 + 2) + (8 * i431_9)))], [], M)) rfl rfl rfl (fun c_492 => ?_) (fun c_492 => ?_)
                  · have c_492 : ¬ (tgf f cp pa (f2 f (((x3 + 2) + (8 * i431_9)) + 2))) = 7 := of_decide_eq_true c_492
                    refine ml_st (S' := (524, [], [.int 33], M)) rfl rfl rfl ?_
                    exact ml_ret rfl (rfl) (⟨_, _, _, rfl, hR, eqI.rf, eqR.rf, hN⟩)
                  · have c_492 : ¬ (¬ (tgf f cp pa (f2 f (((x3 + 2) + (8 * i431_9)) + 2))) = 7) := of_decide_eq_false c_492
                    exact J_495 
        exact L_431 _ 0 (Nat.le_refl _) (by decide)
      · have c_422 : ¬ ((x4 - x3) = (2 + (8 * (f2 f x3)))) := of_decide_eq_false c_422
        refine ml_st (S' := (427, [], [.int 30], M)) rfl rfl rfl ?_
        exact ml_ret rfl (rfl) (⟨_, _, _, rfl, hR, eqI.rf, eqR.rf, hN⟩)
  · show ml _ _ _ (542, [(0, .ref m0), (1, .int x1), (2, .int x2), (3, .int x3), (4, .int x4), (5, .int x5), (6, .int x6)], [], M) _
    refine ml_blk 3 (S' := (546, [(0, .ref m0), (1, .int x1), (2, .int x2), (3, .int x3), (4, .int x4), (5, .int x5), (6, .int x6)], [.int x4, .int x3, .ref m0], M)) rfl ?_
    refine ml_call (a := [.ref m0, .int x3, .int x4]) (rest := []) rfl (hR.okc rfl rfl rfl) rfl rfl (rm_bootstraps hR hF hP (h0) (h1) (h2) (by omega)) (fun v170 M171 h172 => ?_)
    obtain ⟨u178, I173, R174, rfl, hR175, hI176, hV177, w179⟩ := h172
    show ml _ _ _ (549, [(0, .ref m0), (1, .int x1), (2, .int x2), (3, .int x3), (4, .int x4), (5, .int x5), (6, .int x6)], [.int u178], M171) _
    exact ml_ret rfl (rfl) (⟨_, _, _, rfl, hR175, (eqI.rf.tr hI176 (by decide)), (eqR.rf.tr hV177 (by decide)), (nw_boot hN hI176 w179)⟩)
  · show ml _ _ _ (550, [(0, .ref m0), (1, .int x1), (2, .int x2), (3, .int x3), (4, .int x4), (5, .int x5), (6, .int x6)], [], M) _
    refine ml_blk 3 (S' := (554, [(0, .ref m0), (1, .int x1), (2, .int x2), (3, .int x3), (4, .int x4), (5, .int x5), (6, .int x6)], [.int (x4 - x3)], M)) rfl ?_
    refine ml_st (S' := (555, [(0, .ref m0), (1, .int x1), (2, .int x2), (3, .int x3), (4, .int x4), (5, .int x5), (6, .int x6)], [.int 2, .int (x4 - x3)], M)) rfl rfl rfl ?_
    refine ml_if2 (S1 := (561, [(0, .ref m0), (1, .int x1), (2, .int x2), (3, .int x3), (4, .int x4), (5, .int x5), (6, .int x6)], [], M)) (S2 := (558, [(0, .ref m0), (1, .int x1), (2, .int x2), (3, .int x3), (4, .int x4), (5, .int x5), (6, .int x6)], [], M)) rfl rfl rfl (fun c_555 => ?_) (fun c_555 => ?_)
    · have c_555 : (x4 - x3) = 2 := of_decide_eq_true c_555
      have hd2 : (x4 - x3).toInt = 2 := by rw [c_555]; rfl
      rw [i_sub (by omega) (by omega)] at hd2
      refine ml_blk 3 (S' := (564, [(0, .ref m0), (1, .int x1), (2, .int x2), (3, .int x3), (4, .int x4), (5, .int x5), (6, .int x6)], [.int x3, .ref m0, .ref m0], M)) rfl ?_
      refine ml_call (a := [.ref m0, .int x3]) (rest := [.ref m0]) rfl (hR.okc rfl rfl rfl) rfl rfl (rm_u2 hR hF (h0) (by omega) (by omega)) (fun v180 M181 h182 => ?_)
      obtain ⟨rfl, h182⟩ := h182
      rw [h182]
      show ml _ _ _ (567, [(0, .ref m0), (1, .int x1), (2, .int x2), (3, .int x3), (4, .int x4), (5, .int x5), (6, .int x6)], [.int (f2 f x3), .ref m0], M) _
      refine ml_call (a := [.ref m0, .int (f2 f x3)]) (rest := []) rfl (hR.okc rfl rfl rfl) rfl rfl (rm_tag hR hF hP (by omega)) (fun v183 M184 h185 => ?_)
      obtain ⟨rfl, h185⟩ := h185
      rw [h185]
      show ml _ _ _ (570, [(0, .ref m0), (1, .int x1), (2, .int x2), (3, .int x3), (4, .int x4), (5, .int x5), (6, .int x6)], [.int (tgf f cp pa (f2 f x3))], M) _
      refine ml_st (S' := (572, [(0, .ref m0), (1, .int x1), (2, .int x2), (3, .int x3), (4, .int x4), (5, .int x5), (6, .int x6)], [.int 7, .int (tgf f cp pa (f2 f x3))], M)) rfl rfl rfl ?_
      refine ml_if2 (S1 := (586, [], [], M)) (S2 := (575, [(0, .ref m0), (1, .int x1), (2, .int x2), (3, .int x3), (4, .int x4), (5, .int x5), (6, .int x6)], [], M)) rfl rfl rfl (fun c_572 => ?_) (fun c_572 => ?_)
      · have c_572 : ¬ (tgf f cp pa (f2 f x3)) = 7 := of_decide_eq_true c_572
        refine ml_st (S' := (588, [], [.int 34], M)) rfl rfl rfl ?_
        exact ml_ret rfl (rfl) (⟨_, _, _, rfl, hR, eqI.rf, eqR.rf, hN⟩)
      · have c_572 : ¬ (¬ (tgf f cp pa (f2 f x3)) = 7) := of_decide_eq_false c_572
        refine ml_blk 3 (S' := (580, [(0, .ref m0), (1, .int x1), (2, .int x2), (3, .int x3), (4, .int x4), (5, .int x5), (6, .int x6)], [.int (x6 >>> (7 &&& 31))], M)) rfl ?_
        refine ml_blk 3 (S' := (583, [(0, .ref m0), (1, .int x1), (2, .int x2), (3, .int x3), (4, .int x4), (5, .int x5), (6, .int x6)], [.int 1, .int ((x6 >>> (7 &&& 31)) &&& 1)], M)) rfl ?_
        refine ml_if2 (S1 := (589, [(0, .ref m0), (1, .int x1), (2, .int x2), (3, .int x3), (4, .int x4), (5, .int x5), (6, .int x6)], [], M)) (S2 := (586, [], [], M)) rfl rfl rfl (fun c_583 => ?_) (fun c_583 => ?_)
        · have c_583 : ¬ ((x6 >>> (7 &&& 31)) &&& 1) = 1 := of_decide_eq_true c_583
          refine ml_blk 3 (S' := (592, [(0, .ref m0), (1, .int x1), (2, .int x2), (3, .int x3), (4, .int x4), (5, .int x5), (6, .int x6)], [.int x3, .ref m0, .ref m0], M)) rfl ?_
          refine ml_call (a := [.ref m0, .int x3]) (rest := [.ref m0]) rfl (hR.okc rfl rfl rfl) rfl rfl (rm_u2 hR hF (h0) (by omega) (by omega)) (fun v186 M187 h188 => ?_)
          obtain ⟨rfl, h188⟩ := h188
          rw [h188]
          show ml _ _ _ (595, [(0, .ref m0), (1, .int x1), (2, .int x2), (3, .int x3), (4, .int x4), (5, .int x5), (6, .int x6)], [.int (f2 f x3), .ref m0], M) _
          refine rp_int rfl hR rfl (fun M189 I190 hR191 e192 f193 => ?_)
          show ml _ _ _ (598, [(0, .ref m0), (1, .int x1), (2, .int x2), (3, .int x3), (4, .int x4), (5, .int x5), (6, .int x6)], [], M189) _
          refine ml_st (S' := (599, [(0, .ref m0), (1, .int x1), (2, .int x2), (3, .int x3), (4, .int x4), (5, .int x5), (6, .int x6)], [.int 0], M189)) rfl rfl rfl ?_
          exact ml_ret rfl (rfl) (⟨_, _, _, rfl, hR191, (eqI.rf.put f193 (by decide)), eqR.rf, (hN.put (by decide) e192 f193)⟩)
        · have c_583 : ¬ (¬ ((x6 >>> (7 &&& 31)) &&& 1) = 1) := of_decide_eq_false c_583
          refine ml_st (S' := (588, [], [.int 34], M)) rfl rfl rfl ?_
          exact ml_ret rfl (rfl) (⟨_, _, _, rfl, hR, eqI.rf, eqR.rf, hN⟩)
    · have c_555 : ¬ ((x4 - x3) = 2) := of_decide_eq_false c_555
      refine ml_st (S' := (560, [(0, .ref m0), (1, .int x1), (2, .int x2), (3, .int x3), (4, .int x4), (5, .int x5), (6, .int x6)], [.int 30], M)) rfl rfl rfl ?_
      exact ml_ret rfl (rfl) (⟨_, _, _, rfl, hR, eqI.rf, eqR.rf, hN⟩)
  · show ml _ _ _ (600, [(0, .ref m0), (1, .int x1), (2, .int x2), (3, .int x3), (4, .int x4), (5, .int x5), (6, .int x6)], [], M) _
    refine ml_blk 3 (S' := (604, [(0, .ref m0), (1, .int x1), (2, .int x2), (3, .int x3), (4, .int x4), (5, .int x5), (6, .int x6)], [.int x4, .int x3, .ref m0], M)) rfl ?_
    refine ml_call (a := [.ref m0, .int x3, .int x4]) (rest := []) rfl (hR.okc rfl rfl rfl) rfl rfl (rm_components hR hF hY hP (h0) (h1) (h2) (by omega)) (fun v194 M195 h196 => ?_)
    obtain ⟨u202, I197, R198, rfl, hR199, hI200, hV201, w203⟩ := h196
    show ml _ _ _ (607, [(0, .ref m0), (1, .int x1), (2, .int x2), (3, .int x3), (4, .int x4), (5, .int x5), (6, .int x6)], [.int u202], M195) _
    exact ml_ret rfl (rfl) (⟨_, _, _, rfl, hR199, (eqI.rf.tr hI200 (by decide)), (eqR.rf.tr hV201 (by decide)), (nw_comp hN hI200 w203)⟩)
set_option maxHeartbeats 2000000 in
theorem rm_checkAttributes4 {g : xe_G}  {m0 : Nat} {q : Nat → Nat} {z : Nat × Nat} {I : rI} {R : rR} {M : mi_H} {x1 x2 x3 nf : Int32} {n : Nat} {f : Nat → Int32} {S cN : Nat} {sa sl ch : Nat → Int32} {cp mj : Int32} {pa py : Nat → Int32} {e : Int32}  (hR : RS g m0 q z I R M) (hk58 : I 58 = some nf) (hF : FK n f I R) (hY : SK S cN sa sl ch I R) (hP : PK n f S cp mj pa py I R) (hK : KW I R) (hw : x2 = 4) (hat : AT f n x1 e) (hN : NW f n I) {d : Nat} (hd : 7 ≤ d) : mt (mT g) d 187 [.ref m0, .int x1, .int x2, .int x3] M (fun v M' => ∃ (x : Int32) (I' : rI) (R' : rR), v = some (.int x) ∧ RS g m0 q z I' R' M' ∧ eqI [47, 48, 65, 66, 67, 68, 69, 70, 71, 72] I I' ∧ eqR [] R R' ∧ (x.toInt < 0 ∨ x = e) ∧ NW f n I') := by
  obtain ⟨d, rfl⟩ : ∃ e, d = e + 1 := ⟨d - 1, by omega⟩
  refine mt_in (b := mb_187 g) rfl rfl ?_
  show ml (mT g) d (mb_187 g).2 (0, [(0, .ref m0), (1, .int x1), (2, .int x2), (3, .int x3)], [], M) _
  have hn := hF.1
  refine ml_blk 2 (S' := (2, [(0, .ref m0), (1, .int x1), (2, .int x2), (3, .int x3)], [.int x1, .ref m0], M)) rfl ?_
  refine ml_call (a := [.ref m0, .int x1]) (rest := []) rfl (hR.okc rfl rfl rfl) rfl rfl (rm_u2 hR hF (hat.1) (hat.2.1) (by omega)) (fun v11 M12 h13 => ?_)
  obtain ⟨rfl, h13⟩ := h13
  rw [h13]
  show ml _ _ _ (5, [(0, .ref m0), (1, .int x1), (2, .int x2), (3, .int x3)], [.int (f2 f x1)], M) _
  refine ml_st (S' := (7, [(4, .int (f2 f x1)), (0, .ref m0), (1, .int x1), (2, .int x2), (3, .int x3)], [], M)) rfl rfl rfl ?_
  refine ml_blk 3 (S' := (10, [(4, .int (f2 f x1)), (0, .ref m0), (1, .int x1), (2, .int x2), (3, .int x3)], [.int (x1 + 2)], M)) rfl ?_
  refine ml_st (S' := (12, [(5, .int (x1 + 2)), (4, .int (f2 f x1)), (0, .ref m0), (1, .int x1), (2, .int x2), (3, .int x3)], [], M)) rfl rfl rfl ?_
  refine ml_st (S' := (13, [(5, .int (x1 + 2)), (4, .int (f2 f x1)), (0, .ref m0), (1, .int x1), (2, .int x2), (3, .int x3)], [.int 0], M)) rfl rfl rfl ?_
  refine ml_st (S' := (15, [(6, .int 0), (5, .int (x1 + 2)), (4, .int (f2 f x1)), (0, .ref m0), (1, .int x1), (2, .int x2), (3, .int x3)], [], M)) rfl rfl rfl ?_
  refine ml_st (S' := (16, [(6, .int 0), (5, .int (x1 + 2)), (4, .int (f2 f x1)), (0, .ref m0), (1, .int x1), (2, .int x2), (3, .int x3)], [.int 0], M)) rfl rfl rfl ?_
  refine ml_st (S' := (18, [(0, .ref m0), (2, .int x2), (3, .int x3), (4, .int (f2 f x1)), (5, .int (x1 + 2)), (6, .int 0), (7, .int 0)], [], M)) rfl rfl rfl ?_
  have L_18 : ∀ (n_18 : Nat) (i18_5 : Int32) (i18_6 : Int32) (i18_7 : Int32) (M_18 : mi_H) (I_18 : rI) (R_18 : rR), (2147483648 - i18_7.toInt).toNat ≤ n_18 → RS g m0 q z I_18 R_18 M_18 → eqI [47, 48, 65, 66, 67, 68, 69, 70, 71, 72] I I_18 → eqR [] R R_18 → (0 ≤ i18_7.toInt ∧ i18_7.toInt ≤ (f2 f x1).toInt ∧ itr (RA1 f n) ((f2 f x1).toInt - i18_7.toInt).toNat i18_5 e ∧ NW f n I_18) → ml (mT g) d (mb_187 g).2 (18, [(0, .ref m0), (2, .int x2), (3, .int x3), (4, .int (f2 f x1)), (5, .int i18_5), (6, .int i18_6), (7, .int i18_7)], [], M_18) (fun v M' => ∃ (x : Int32) (I' : rI) (R' : rR), v = some (.int x) ∧ RS g m0 q z I' R' M' ∧ eqI [47, 48, 65, 66, 67, 68, 69, 70, 71, 72] I I' ∧ eqR [] R R' ∧ (x.toInt < 0 ∨ x = e) ∧ NW f n I') := by
    intro n_18
    induction n_18 with
    | zero => intro i18_5 i18_6 i18_7 M_18 I_18 R_18 hn; exact (loop_zero hn).elim
    | succ n_18 ih_18 =>
      intro i18_5 i18_6 i18_7 M_18 I_18 R_18 hn_18 hR_18 hI_18 hV_18 hi_18
      obtain ⟨hk0, hk1, hit, hnw18⟩ := hi_18
      refine ml_blk 2 (S' := (22, [(0, .ref m0), (2, .int x2), (3, .int x3), (4, .int (f2 f x1)), (5, .int i18_5), (6, .int i18_6), (7, .int i18_7)], [.int (f2 f x1), .int i18_7], M_18)) rfl ?_
      refine ml_if2 (S1 := (284, [(0, .ref m0), (2, .int x2), (3, .int x3), (4, .int (f2 f x1)), (5, .int i18_5), (6, .int i18_6), (7, .int i18_7)], [], M_18)) (S2 := (25, [(0, .ref m0), (2, .int x2), (3, .int x3), (4, .int (f2 f x1)), (5, .int i18_5), (6, .int i18_6), (7, .int i18_7)], [], M_18)) rfl rfl rfl (fun c_22 => ?_) (fun c_22 => ?_)
      · have c_22 : (f2 f x1) ≤ i18_7 := of_decide_eq_true c_22
        refine ml_st (S' := (286, [(0, .ref m0), (2, .int x2), (3, .int x3), (4, .int (f2 f x1)), (5, .int i18_5), (6, .int i18_6), (7, .int i18_7)], [.int i18_5], M_18)) rfl rfl rfl ?_
        exact ml_ret rfl (rfl) (⟨_, _, _, rfl, hR_18, (eqI.rf.tr hI_18 (by decide)), (eqR.rf.tr hV_18 (by decide)), ⟨Or.inr (itr_one hit (by have := i_le c_22; omega)).symm, hnw18⟩⟩)
      · have c_22 : ¬ ((f2 f x1) ≤ i18_7) := of_decide_eq_false c_22
        obtain ⟨b1, hb1, hnx⟩ := itr_next hit c_22
        have hb2 := hb1
        obtain ⟨g0, g1, g2, g3⟩ := hb2
        have ep2 : (i18_5 + 2).toInt = i18_5.toInt + 2 := i_add (by have : (2 : Int32).toInt = 2 := rfl; omega) (by have : (2 : Int32).toInt = 2 := rfl; omega)
        have ep6 : (i18_5 + 6).toInt = i18_5.toInt + 6 := i_add (by have : (6 : Int32).toInt = 6 := rfl; omega) (by have : (6 : Int32).toInt = 6 := rfl; omega)
        have hra := ra_of (f := f) hn g0 g2
        have hl0 := f4_pos (f := f) (x := i18_5 + 2)
        have hle : (i18_5 + 6 + Int64.toInt32 (f4 f (i18_5 + 2))).toInt = i18_5.toInt + 6 + (f4 f (i18_5 + 2)).toInt := by have di : (Int64.toInt32 (f4 f (i18_5 + 2))).toInt = (f4 f (i18_5 + 2)).toInt := i_of (by omega) (by omega); rw [i_add (by omega) (by omega), di, ep6]
        refine ml_blk 3 (S' := (29, [(0, .ref m0), (2, .int x2), (3, .int x3), (4, .int (f2 f x1)), (5, .int i18_5), (6, .int i18_6), (7, .int i18_7)], [.int 2, .int i18_5, .ref m0], M_18)) rfl ?_
        refine ml_st (S' := (30, [(0, .ref m0), (2, .int x2), (3, .int x3), (4, .int (f2 f x1)), (5, .int i18_5), (6, .int i18_6), (7, .int i18_7)], [.int (i18_5 + 2), .ref m0], M_18)) rfl rfl rfl ?_
        have hF14 : FK n f I_18 R_18 := (hF.mono (cIx hI_18 (by decide)) (cRx hV_18 (by decide)))
        refine ml_call (a := [.ref m0, .int (i18_5 + 2)]) (rest := []) rfl (hR_18.okc rfl rfl rfl) rfl rfl (rm_u4 hR_18 hF14 (by omega) (by omega) (by omega)) (fun v15 M16 h17 => ?_)
        obtain ⟨rfl, h17⟩ := h17
        rw [h17]
        show ml _ _ _ (33, [(0, .ref m0), (2, .int x2), (3, .int x3), (4, .int (f2 f x1)), (5, .int i18_5), (6, .int i18_6), (7, .int i18_7)], [.long (f4 f (i18_5 + 2))], M_18) _
        refine ml_st (S' := (34, [(0, .ref m0), (2, .int x2), (3, .int x3), (4, .int (f2 f x1)), (5, .int i18_5), (6, .int i18_6), (7, .int i18_7)], [.int (Int64.toInt32 (f4 f (i18_5 + 2)))], M_18)) rfl rfl rfl ?_
        refine ml_st (S' := (36, [(8, .int (Int64.toInt32 (f4 f (i18_5 + 2)))), (0, .ref m0), (2, .int x2), (3, .int x3), (4, .int (f2 f x1)), (5, .int i18_5), (6, .int i18_6), (7, .int i18_7)], [], M_18)) rfl rfl rfl ?_
        refine ml_blk 3 (S' := (40, [(8, .int (Int64.toInt32 (f4 f (i18_5 + 2)))), (0, .ref m0), (2, .int x2), (3, .int x3), (4, .int (f2 f x1)), (5, .int i18_5), (6, .int i18_6), (7, .int i18_7)], [.int i18_5, .ref m0, .ref m0], M_18)) rfl ?_
        refine ml_call (a := [.ref m0, .int i18_5]) (rest := [.ref m0]) rfl (hR_18.okc rfl rfl rfl) rfl rfl (rm_u2 hR_18 hF14 (g0) (by omega) (by omega)) (fun v18 M19 h20 => ?_)
        obtain ⟨rfl, h20⟩ := h20
        rw [h20]
        show ml _ _ _ (43, [(8, .int (Int64.toInt32 (f4 f (i18_5 + 2)))), (0, .ref m0), (2, .int x2), (3, .int x3), (4, .int (f2 f x1)), (5, .int i18_5), (6, .int i18_6), (7, .int i18_7)], [.int (f2 f i18_5), .ref m0], M_18) _
        have hP21 : PK n f S cp mj pa py I_18 R_18 := (hP.mono (cIx hI_18 (by decide)) (cRx hV_18 (by decide)))
        refine ml_call (a := [.ref m0, .int (f2 f i18_5)]) (rest := []) rfl (hR_18.okc rfl rfl rfl) rfl rfl (rm_tag hR_18 hF14 hP21 (by omega)) (fun v22 M23 h24 => ?_)
        obtain ⟨rfl, h24⟩ := h24
        rw [h24]
        show ml _ _ _ (46, [(8, .int (Int64.toInt32 (f4 f (i18_5 + 2)))), (0, .ref m0), (2, .int x2), (3, .int x3), (4, .int (f2 f x1)), (5, .int i18_5), (6, .int i18_6), (7, .int i18_7)], [.int (tgf f cp pa (f2 f i18_5))], M_18) _
        refine ml_st (S' := (47, [(8, .int (Int64.toInt32 (f4 f (i18_5 + 2)))), (0, .ref m0), (2, .int x2), (3, .int x3), (4, .int (f2 f x1)), (5, .int i18_5), (6, .int i18_6), (7, .int i18_7)], [.int 1, .int (tgf f cp pa (f2 f i18_5))], M_18)) rfl rfl rfl ?_
        refine ml_if2 (S1 := (61, [(8, .int (Int64.toInt32 (f4 f (i18_5 + 2)))), (0, .ref m0), (2, .int x2), (3, .int x3), (4, .int (f2 f x1)), (5, .int i18_5), (6, .int i18_6), (7, .int i18_7)], [], M_18)) (S2 := (50, [(8, .int (Int64.toInt32 (f4 f (i18_5 + 2)))), (0, .ref m0), (2, .int x2), (3, .int x3), (4, .int (f2 f x1)), (5, .int i18_5), (6, .int i18_6), (7, .int i18_7)], [], M_18)) rfl rfl rfl (fun c_47 => ?_) (fun c_47 => ?_)
        · have c_47 : (tgf f cp pa (f2 f i18_5)) = 1 := of_decide_eq_true c_47
          refine ml_blk 3 (S' := (65, [(8, .int (Int64.toInt32 (f4 f (i18_5 + 2)))), (0, .ref m0), (2, .int x2), (3, .int x3), (4, .int (f2 f x1)), (5, .int i18_5), (6, .int i18_6), (7, .int i18_7)], [.int i18_5, .ref m0, .ref m0], M_18)) rfl ?_
          refine ml_call (a := [.ref m0, .int i18_5]) (rest := [.ref m0]) rfl (hR_18.okc rfl rfl rfl) rfl rfl (rm_u2 hR_18 hF14 (g0) (by omega) (by omega)) (fun v25 M26 h27 => ?_)
          obtain ⟨rfl, h27⟩ := h27
          rw [h27]
          show ml _ _ _ (68, [(8, .int (Int64.toInt32 (f4 f (i18_5 + 2)))), (0, .ref m0), (2, .int x2), (3, .int x3), (4, .int (f2 f x1)), (5, .int i18_5), (6, .int i18_6), (7, .int i18_7)], [.int (f2 f i18_5), .ref m0], M_18) _
          refine ml_call (a := [.ref m0, .int (f2 f i18_5)]) (rest := []) rfl (hR_18.okc rfl rfl rfl) rfl rfl (rm_symOf hR_18 hP21 (c_47) (by omega)) (fun v28 M29 h30 => ?_)
          obtain ⟨rfl, h30⟩ := h30
          rw [h30]
          show ml _ _ _ (71, [(8, .int (Int64.toInt32 (f4 f (i18_5 + 2)))), (0, .ref m0), (2, .int x2), (3, .int x3), (4, .int (f2 f x1)), (5, .int i18_5), (6, .int i18_6), (7, .int i18_7)], [.int (pyf py (f2 f i18_5))], M_18) _
          refine ml_st (S' := (73, [(9, .int (pyf py (f2 f i18_5))), (8, .int (Int64.toInt32 (f4 f (i18_5 + 2)))), (0, .ref m0), (2, .int x2), (3, .int x3), (4, .int (f2 f x1)), (5, .int i18_5), (6, .int i18_6), (7, .int i18_7)], [], M_18)) rfl rfl rfl ?_
          have hy9 := hP.y (show tgf f cp pa (f2 f i18_5) = 1 from c_47)
          refine ml_st (S' := (74, [(9, .int (pyf py (f2 f i18_5))), (8, .int (Int64.toInt32 (f4 f (i18_5 + 2)))), (0, .ref m0), (2, .int x2), (3, .int x3), (4, .int (f2 f x1)), (5, .int i18_5), (6, .int i18_6), (7, .int i18_7)], [.int (-1)], M_18)) rfl rfl rfl ?_
          refine ml_st (S' := (76, [(10, .int (-1)), (9, .int (pyf py (f2 f i18_5))), (8, .int (Int64.toInt32 (f4 f (i18_5 + 2)))), (0, .ref m0), (2, .int x2), (3, .int x3), (4, .int (f2 f x1)), (5, .int i18_5), (6, .int i18_6), (7, .int i18_7)], [], M_18)) rfl rfl rfl ?_
          refine ml_st (S' := (77, [(10, .int (-1)), (9, .int (pyf py (f2 f i18_5))), (8, .int (Int64.toInt32 (f4 f (i18_5 + 2)))), (0, .ref m0), (2, .int x2), (3, .int x3), (4, .int (f2 f x1)), (5, .int i18_5), (6, .int i18_6), (7, .int i18_7)], [.int 0], M_18)) rfl rfl rfl ?_
          refine ml_st (S' := (79, [(0, .ref m0), (2, .int x2), (3, .int x3), (4, .int (f2 f x1)), (5, .int i18_5), (6, .int i18_6), (7, .int i18_7), (8, .int (Int64.toInt32 (f4 f (i18_5 + 2)))), (9, .int (pyf py (f2 f i18_5))), (10, .int (-1)), (11, .int 0)], [], M_18)) rfl rfl rfl ?_
          have L_79 : ∀ (n_79 : Nat) (i79_10 : Int32) (i79_11 : Int32), (2147483648 - i79_11.toInt).toNat ≤ n_79 → (0 ≤ i79_11.toInt ∧ (i79_10 < 0 ∨ (0 ≤ i79_10.toInt ∧ i79_10.toInt < 10 ∧ kin i79_10 = x2))) → ml (mT g) d (mb_187 g).2 (79, [(0, .ref m0), (2, .int x2), (3, .int x3), (4, .int (f2 f x1)), (5, .int i18_5), (6, .int i18_6), (7, .int i18_7), (8, .int (Int64.toInt32 (f4 f (i18_5 + 2)))), (9, .int (pyf py (f2 f i18_5))), (10, .int i79_10), (11, .int i79_11)], [], M_18) (fun v M' => ∃ (x : Int32) (I' : rI) (R' : rR), v = some (.int x) ∧ RS g m0 q z I' R' M' ∧ eqI [47, 48, 65, 66, 67, 68, 69, 70, 71, 72] I I' ∧ eqR [] R R' ∧ (x.toInt < 0 ∨ x = e) ∧ NW f n I') := by
            intro n_79
            induction n_79 with
            | zero => intro i79_10 i79_11 hn; exact (loop_zero hn).elim
            | succ n_79 ih_79 =>
              intro i79_10 i79_11 hn_79 hi_79
              obtain ⟨hj0, hjw⟩ := hi_79
              refine ml_blk 2 (S' := (82, [(0, .ref m0), (2, .int x2), (3, .int x3), (4, .int (f2 f x1)), (5, .int i18_5), (6, .int i18_6), (7, .int i18_7), (8, .int (Int64.toInt32 (f4 f (i18_5 + 2)))), (9, .int (pyf py (f2 f i18_5))), (10, .int i79_10), (11, .int i79_11)], [.ref m0, .int i79_11], M_18)) rfl ?_
              refine rg_ref (S' := (85, [(0, .ref m0), (2, .int x2), (3, .int x3), (4, .int (f2 f x1)), (5, .int i18_5), (6, .int i18_6), (7, .int i18_7), (8, .int (Int64.toInt32 (f4 f (i18_5 + 2)))), (9, .int (pyf py (f2 f i18_5))), (10, .int i79_10), (11, .int i79_11)], [.ref (q 62), .int i79_11], M_18)) rfl hR_18 rfl rfl ?_
              refine rl_kn (S' := (86, [(0, .ref m0), (2, .int x2), (3, .int x3), (4, .int (f2 f x1)), (5, .int i18_5), (6, .int i18_6), (7, .int i18_7), (8, .int (Int64.toInt32 (f4 f (i18_5 + 2)))), (9, .int (pyf py (f2 f i18_5))), (10, .int i79_10), (11, .int i79_11)], [.int (nI 10), .int i79_11], M_18)) rfl hR_18 rfl ?_
              refine ml_if2 (S1 := (140, [(0, .ref m0), (2, .int x2), (3, .int x3), (4, .int (f2 f x1)), (5, .int i18_5), (6, .int i18_6), (7, .int i18_7), (8, .int (Int64.toInt32 (f4 f (i18_5 + 2)))), (9, .int (pyf py (f2 f i18_5))), (10, .int i79_10), (11, .int i79_11)], [], M_18)) (S2 := (89, [(0, .ref m0), (2, .int x2), (3, .int x3), (4, .int (f2 f x1)), (5, .int i18_5), (6, .int i18_6), (7, .int i18_7), (8, .int (Int64.toInt32 (f4 f (i18_5 + 2)))), (9, .int (pyf py (f2 f i18_5))), (10, .int i79_10), (11, .int i79_11)], [], M_18)) rfl rfl rfl (fun c_86 => ?_) (fun c_86 => ?_)
              · have c_86 : (nI 10) ≤ i79_11 := of_decide_eq_true c_86
                refine ml_st (S' := (142, [(0, .ref m0), (2, .int x2), (3, .int x3), (4, .int (f2 f x1)), (5, .int i18_5), (6, .int i18_6), (7, .int i18_7), (8, .int (Int64.toInt32 (f4 f (i18_5 + 2)))), (9, .int (pyf py (f2 f i18_5))), (10, .int i79_10), (11, .int i79_11)], [.int i79_10], M_18)) rfl rfl rfl ?_
                refine ml_if (S1 := (268, [(0, .ref m0), (2, .int x2), (3, .int x3), (4, .int (f2 f x1)), (5, .int i18_5), (6, .int i18_6), (7, .int i18_7), (8, .int (Int64.toInt32 (f4 f (i18_5 + 2))))], [], M_18)) (S2 := (145, [(0, .ref m0), (2, .int x2), (3, .int x3), (4, .int (f2 f x1)), (5, .int i18_5), (6, .int i18_6), (7, .int i18_7), (8, .int (Int64.toInt32 (f4 f (i18_5 + 2)))), (9, .int (pyf py (f2 f i18_5))), (10, .int i79_10), (11, .int i79_11)], [], M_18)) rfl rfl rfl (fun c_142 => ?_) (fun c_142 => ?_)
                · have c_142 : i79_10 < 0 := of_decide_eq_true c_142
                  refine ml_blk 3 (S' := (274, [(0, .ref m0), (2, .int x2), (3, .int x3), (4, .int (f2 f x1)), (5, .int i18_5), (6, .int i18_6), (7, .int i18_7), (8, .int (Int64.toInt32 (f4 f (i18_5 + 2))))], [.int (Int64.toInt32 (f4 f (i18_5 + 2))), .int 6, .int i18_5], M_18)) rfl ?_
                  refine ml_blk 2 (S' := (276, [(0, .ref m0), (2, .int x2), (3, .int x3), (4, .int (f2 f x1)), (5, .int i18_5), (6, .int i18_6), (7, .int i18_7), (8, .int (Int64.toInt32 (f4 f (i18_5 + 2))))], [.int (i18_5 + (6 + (Int64.toInt32 (f4 f (i18_5 + 2)))))], M_18)) rfl ?_
                  refine ml_st (S' := (278, [(5, .int (i18_5 + (6 + (Int64.toInt32 (f4 f (i18_5 + 2)))))), (0, .ref m0), (2, .int x2), (3, .int x3), (4, .int (f2 f x1)), (6, .int i18_6), (7, .int i18_7), (8, .int (Int64.toInt32 (f4 f (i18_5 + 2))))], [], M_18)) rfl rfl rfl ?_
                  refine ml_st (S' := (281, [(7, .int (i18_7 + 1)), (5, .int (i18_5 + (6 + (Int64.toInt32 (f4 f (i18_5 + 2)))))), (0, .ref m0), (2, .int x2), (3, .int x3), (4, .int (f2 f x1)), (6, .int i18_6), (8, .int (Int64.toInt32 (f4 f (i18_5 + 2))))], [], M_18)) rfl rfl rfl ?_
                  refine ml_st (S' := (18, [(0, .ref m0), (2, .int x2), (3, .int x3), (4, .int (f2 f x1)), (5, .int (i18_5 + (6 + (Int64.toInt32 (f4 f (i18_5 + 2)))))), (6, .int i18_6), (7, .int (i18_7 + 1))], [], M_18)) rfl rfl rfl ?_
                  exact ih_18 (i18_5 + (6 + (Int64.toInt32 (f4 f (i18_5 + 2))))) i18_6 (i18_7 + 1) _ _ _ (loop_inc (Int32.not_le.mp c_22) hn_18) hR_18 (eqI.rf.tr hI_18 (by decide)) (eqR.rf.tr hV_18 (by decide)) (⟨by rw [inc_lt (Int32.not_le.mp c_22)]; omega, by rw [inc_lt (Int32.not_le.mp c_22)]; have := i_nle c_22; omega, hb1.eq hra ▸ hnx, hnw18⟩)
                · have c_142 : ¬ (i79_10 < 0) := of_decide_eq_false c_142
                  have hwn := hjw.resolve_left c_142
                  refine ml_blk 2 (S' := (147, [(0, .ref m0), (2, .int x2), (3, .int x3), (4, .int (f2 f x1)), (5, .int i18_5), (6, .int i18_6), (7, .int i18_7), (8, .int (Int64.toInt32 (f4 f (i18_5 + 2)))), (9, .int (pyf py (f2 f i18_5))), (10, .int i79_10), (11, .int i79_11)], [.int 1, .int x2], M_18)) rfl ?_
                  refine ml_if2 (S1 := (160, [(0, .ref m0), (2, .int x2), (3, .int x3), (4, .int (f2 f x1)), (5, .int i18_5), (6, .int i18_6), (7, .int i18_7), (8, .int (Int64.toInt32 (f4 f (i18_5 + 2)))), (10, .int i79_10)], [], M_18)) (S2 := (150, [(0, .ref m0), (2, .int x2), (3, .int x3), (4, .int (f2 f x1)), (5, .int i18_5), (6, .int i18_6), (7, .int i18_7), (8, .int (Int64.toInt32 (f4 f (i18_5 + 2)))), (9, .int (pyf py (f2 f i18_5))), (10, .int i79_10), (11, .int i79_11)], [], M_18)) rfl rfl rfl (fun c_147 => ?_) (fun c_147 => ?_)
                  rotate_left
                  · exact absurd ((by rw [hw]; decide : ¬ x2 = 1)) (of_decide_eq_false c_147)
                  refine ml_blk 2 (S' := (162, [(0, .ref m0), (2, .int x2), (3, .int x3), (4, .int (f2 f x1)), (5, .int i18_5), (6, .int i18_6), (7, .int i18_7), (8, .int (Int64.toInt32 (f4 f (i18_5 + 2)))), (10, .int i79_10)], [.int 2, .int x2], M_18)) rfl ?_
                  refine ml_if2 (S1 := (175, [(0, .ref m0), (2, .int x2), (3, .int x3), (4, .int (f2 f x1)), (5, .int i18_5), (6, .int i18_6), (7, .int i18_7), (8, .int (Int64.toInt32 (f4 f (i18_5 + 2)))), (10, .int i79_10)], [], M_18)) (S2 := (165, [(0, .ref m0), (2, .int x2), (3, .int x3), (4, .int (f2 f x1)), (5, .int i18_5), (6, .int i18_6), (7, .int i18_7), (8, .int (Int64.toInt32 (f4 f (i18_5 + 2)))), (10, .int i79_10)], [], M_18)) rfl rfl rfl (fun c_162 => ?_) (fun c_162 => ?_)
                  rotate_left
                  · exact absurd ((by rw [hw]; decide : ¬ x2 = 2)) (of_decide_eq_false c_162)
                  refine ml_blk 2 (S' := (177, [(0, .ref m0), (2, .int x2), (3, .int x3), (4, .int (f2 f x1)), (5, .int i18_5), (6, .int i18_6), (7, .int i18_7), (8, .int (Int64.toInt32 (f4 f (i18_5 + 2)))), (10, .int i79_10)], [.int 4, .int x2], M_18)) rfl ?_
                  refine ml_if2 (S1 := (190, [(0, .ref m0), (2, .int x2), (3, .int x3), (4, .int (f2 f x1)), (5, .int i18_5), (6, .int i18_6), (7, .int i18_7), (8, .int (Int64.toInt32 (f4 f (i18_5 + 2)))), (10, .int i79_10)], [], M_18)) (S2 := (180, [(0, .ref m0), (2, .int x2), (3, .int x3), (4, .int (f2 f x1)), (5, .int i18_5), (6, .int i18_6), (7, .int i18_7), (8, .int (Int64.toInt32 (f4 f (i18_5 + 2)))), (10, .int i79_10)], [], M_18)) rfl rfl rfl (fun c_177 => ?_) (fun c_177 => ?_)
                  · exact absurd (of_decide_eq_true c_177) ((fun h => h hw))
                  obtain ⟨v66, hv66⟩ := hnw18.1 66 (by decide)
                  refine ml_blk 2 (S' := (182, [(0, .ref m0), (2, .int x2), (3, .int x3), (4, .int (f2 f x1)), (5, .int i18_5), (6, .int i18_6), (7, .int i18_7), (8, .int (Int64.toInt32 (f4 f (i18_5 + 2)))), (10, .int i79_10)], [.ref m0, .ref m0], M_18)) rfl ?_
                  refine rg_int (S' := (185, [(0, .ref m0), (2, .int x2), (3, .int x3), (4, .int (f2 f x1)), (5, .int i18_5), (6, .int i18_6), (7, .int i18_7), (8, .int (Int64.toInt32 (f4 f (i18_5 + 2)))), (10, .int i79_10)], [.int v66, .ref m0], M_18)) rfl hR_18 rfl (hv66) rfl ?_
                  refine ml_blk 2 (S' := (187, [(0, .ref m0), (2, .int x2), (3, .int x3), (4, .int (f2 f x1)), (5, .int i18_5), (6, .int i18_6), (7, .int i18_7), (8, .int (Int64.toInt32 (f4 f (i18_5 + 2)))), (10, .int i79_10)], [.int (v66 + 1), .ref m0], M_18)) rfl ?_
                  refine rp_int rfl hR_18 rfl (fun M31 I32 hR33 e34 f35 => ?_)
                  show ml _ _ _ (190, [(0, .ref m0), (2, .int x2), (3, .int x3), (4, .int (f2 f x1)), (5, .int i18_5), (6, .int i18_6), (7, .int i18_7), (8, .int (Int64.toInt32 (f4 f (i18_5 + 2)))), (10, .int i79_10)], [], M31) _
                  refine ml_blk 3 (S' := (195, [(0, .ref m0), (2, .int x2), (3, .int x3), (4, .int (f2 f x1)), (5, .int i18_5), (6, .int i18_6), (7, .int i18_7), (8, .int (Int64.toInt32 (f4 f (i18_5 + 2)))), (10, .int i79_10)], [.int (i18_6 >>> (i79_10 &&& 31))], M31)) rfl ?_
                  refine ml_blk 3 (S' := (198, [(0, .ref m0), (2, .int x2), (3, .int x3), (4, .int (f2 f x1)), (5, .int i18_5), (6, .int i18_6), (7, .int i18_7), (8, .int (Int64.toInt32 (f4 f (i18_5 + 2)))), (10, .int i79_10)], [.int 1, .int ((i18_6 >>> (i79_10 &&& 31)) &&& 1)], M31)) rfl ?_
                  refine ml_if2 (S1 := (212, [(0, .ref m0), (2, .int x2), (3, .int x3), (4, .int (f2 f x1)), (5, .int i18_5), (6, .int i18_6), (7, .int i18_7), (8, .int (Int64.toInt32 (f4 f (i18_5 + 2)))), (10, .int i79_10)], [], M31)) (S2 := (201, [(0, .ref m0), (2, .int x2), (3, .int x3), (4, .int (f2 f x1)), (5, .int i18_5), (6, .int i18_6), (7, .int i18_7), (8, .int (Int64.toInt32 (f4 f (i18_5 + 2)))), (10, .int i79_10)], [], M31)) rfl rfl rfl (fun c_198 => ?_) (fun c_198 => ?_)
                  · have c_198 : ¬ ((i18_6 >>> (i79_10 &&& 31)) &&& 1) = 1 := of_decide_eq_true c_198
                    refine ml_blk 3 (S' := (217, [(0, .ref m0), (2, .int x2), (3, .int x3), (4, .int (f2 f x1)), (5, .int i18_5), (6, .int i18_6), (7, .int i18_7), (8, .int (Int64.toInt32 (f4 f (i18_5 + 2)))), (10, .int i79_10)], [.int i18_5, .int i79_10, .ref m0], M31)) rfl ?_
                    refine ml_blk 3 (S' := (222, [(0, .ref m0), (2, .int x2), (3, .int x3), (4, .int (f2 f x1)), (5, .int i18_5), (6, .int i18_6), (7, .int i18_7), (8, .int (Int64.toInt32 (f4 f (i18_5 + 2)))), (10, .int i79_10)], [.int (i18_5 + 6), .int i18_5, .int i79_10, .ref m0], M31)) rfl ?_
                    refine ml_blk 3 (S' := (227, [(0, .ref m0), (2, .int x2), (3, .int x3), (4, .int (f2 f x1)), (5, .int i18_5), (6, .int i18_6), (7, .int i18_7), (8, .int (Int64.toInt32 (f4 f (i18_5 + 2)))), (10, .int i79_10)], [.int (i18_5 + 6), .int (i18_5 + 6), .int i18_5, .int i79_10, .ref m0], M31)) rfl ?_
                    refine ml_blk 3 (S' := (231, [(0, .ref m0), (2, .int x2), (3, .int x3), (4, .int (f2 f x1)), (5, .int i18_5), (6, .int i18_6), (7, .int i18_7), (8, .int (Int64.toInt32 (f4 f (i18_5 + 2)))), (10, .int i79_10)], [.int x3, .int ((i18_5 + 6) + (Int64.toInt32 (f4 f (i18_5 + 2)))), .int (i18_5 + 6), .int i18_5, .int i79_10, .ref m0], M31)) rfl ?_
                    refine ml_st (S' := (233, [(0, .ref m0), (2, .int x2), (3, .int x3), (4, .int (f2 f x1)), (5, .int i18_5), (6, .int i18_6), (7, .int i18_7), (8, .int (Int64.toInt32 (f4 f (i18_5 + 2)))), (10, .int i79_10)], [.int i18_6, .int x3, .int ((i18_5 + 6) + (Int64.toInt32 (f4 f (i18_5 + 2)))), .int (i18_5 + 6), .int i18_5, .int i79_10, .ref m0], M31)) rfl rfl rfl ?_
                    have hF36 : FK n f I32 R_18 := (hF14.mono (pIx f35 (by decide)) (fun _ _ => rfl))
                    have hY37 : SK S cN sa sl ch I32 R_18 := ((hY.mono (cIx hI_18 (by decide)) (cRx hV_18 (by decide))).mono (pIx f35 (by decide)) (fun _ _ => rfl))
                    have hP38 : PK n f S cp mj pa py I32 R_18 := (hP21.mono (pIx f35 (by decide)) (fun _ _ => rfl))
                    refine ml_call (a := [.ref m0, .int i79_10, .int i18_5, .int (i18_5 + 6), .int ((i18_5 + 6) + (Int64.toInt32 (f4 f (i18_5 + 2)))), .int x3, .int i18_6]) (rest := []) rfl (hR33.okc rfl rfl rfl) rfl rfl (rm_attr4 hR33 ((f35 58 (by decide)).trans ((hI_18 58 (by decide)).trans (hk58))) hF36 hY37 hP38 (kin_4 hwn.1 hwn.2.1 (hwn.2.2.trans hw)) (by omega) (by rw [hle]; omega) (by rw [hle]; omega) ((hnw18.put (by decide) e34 f35)) (by omega)) (fun v39 M40 h41 => ?_)
                    obtain ⟨u47, I42, R43, rfl, hR44, hI45, hV46, w48⟩ := h41
                    show ml _ _ _ (236, [(0, .ref m0), (2, .int x2), (3, .int x3), (4, .int (f2 f x1)), (5, .int i18_5), (6, .int i18_6), (7, .int i18_7), (8, .int (Int64.toInt32 (f4 f (i18_5 + 2)))), (10, .int i79_10)], [.int u47], M40) _
                    refine ml_st (S' := (238, [(11, .int u47), (0, .ref m0), (2, .int x2), (3, .int x3), (4, .int (f2 f x1)), (5, .int i18_5), (6, .int i18_6), (7, .int i18_7), (8, .int (Int64.toInt32 (f4 f (i18_5 + 2)))), (10, .int i79_10)], [], M40)) rfl rfl rfl ?_
                    refine ml_blk 3 (S' := (243, [(11, .int u47), (0, .ref m0), (2, .int x2), (3, .int x3), (4, .int (f2 f x1)), (5, .int i18_5), (6, .int i18_6), (7, .int i18_7), (8, .int (Int64.toInt32 (f4 f (i18_5 + 2)))), (10, .int i79_10)], [.int i79_10, .int 1, .int i18_6], M40)) rfl ?_
                    refine ml_blk 2 (S' := (245, [(11, .int u47), (0, .ref m0), (2, .int x2), (3, .int x3), (4, .int (f2 f x1)), (5, .int i18_5), (6, .int i18_6), (7, .int i18_7), (8, .int (Int64.toInt32 (f4 f (i18_5 + 2)))), (10, .int i79_10)], [.int (i18_6 ||| (1 <<< (i79_10 &&& 31)))], M40)) rfl ?_
                    refine ml_st (S' := (247, [(6, .int (i18_6 ||| (1 <<< (i79_10 &&& 31)))), (11, .int u47), (0, .ref m0), (2, .int x2), (3, .int x3), (4, .int (f2 f x1)), (5, .int i18_5), (7, .int i18_7), (8, .int (Int64.toInt32 (f4 f (i18_5 + 2)))), (10, .int i79_10)], [], M40)) rfl rfl rfl ?_
                    refine ml_st (S' := (249, [(6, .int (i18_6 ||| (1 <<< (i79_10 &&& 31)))), (11, .int u47), (0, .ref m0), (2, .int x2), (3, .int x3), (4, .int (f2 f x1)), (5, .int i18_5), (7, .int i18_7), (8, .int (Int64.toInt32 (f4 f (i18_5 + 2)))), (10, .int i79_10)], [.int u47], M40)) rfl rfl rfl ?_
                    refine ml_if (S1 := (261, [(0, .ref m0), (2, .int x2), (3, .int x3), (4, .int (f2 f x1)), (5, .int i18_5), (6, .int (i18_6 ||| (1 <<< (i79_10 &&& 31)))), (7, .int i18_7), (8, .int (Int64.toInt32 (f4 f (i18_5 + 2)))), (11, .int u47)], [], M40)) (S2 := (252, [(6, .int (i18_6 ||| (1 <<< (i79_10 &&& 31)))), (11, .int u47), (0, .ref m0), (2, .int x2), (3, .int x3), (4, .int (f2 f x1)), (5, .int i18_5), (7, .int i18_7), (8, .int (Int64.toInt32 (f4 f (i18_5 + 2)))), (10, .int i79_10)], [], M40)) rfl rfl rfl (fun c_249 => ?_) (fun c_249 => ?_)
                    · have c_249 : u47 ≤ 0 := of_decide_eq_true c_249
                      refine ml_st (S' := (263, [(0, .ref m0), (2, .int x2), (3, .int x3), (4, .int (f2 f x1)), (5, .int i18_5), (6, .int (i18_6 ||| (1 <<< (i79_10 &&& 31)))), (7, .int i18_7), (8, .int (Int64.toInt32 (f4 f (i18_5 + 2)))), (11, .int u47)], [.int u47], M40)) rfl rfl rfl ?_
                      refine ml_if (S1 := (268, [(0, .ref m0), (2, .int x2), (3, .int x3), (4, .int (f2 f x1)), (5, .int i18_5), (6, .int (i18_6 ||| (1 <<< (i79_10 &&& 31)))), (7, .int i18_7), (8, .int (Int64.toInt32 (f4 f (i18_5 + 2))))], [], M40)) (S2 := (266, [(0, .ref m0), (2, .int x2), (3, .int x3), (4, .int (f2 f x1)), (5, .int i18_5), (6, .int (i18_6 ||| (1 <<< (i79_10 &&& 31)))), (7, .int i18_7), (8, .int (Int64.toInt32 (f4 f (i18_5 + 2)))), (11, .int u47)], [], M40)) rfl rfl rfl (fun c_263 => ?_) (fun c_263 => ?_)
                      · have c_263 : u47 = 0 := of_decide_eq_true c_263
                        refine ml_blk 3 (S' := (274, [(0, .ref m0), (2, .int x2), (3, .int x3), (4, .int (f2 f x1)), (5, .int i18_5), (6, .int (i18_6 ||| (1 <<< (i79_10 &&& 31)))), (7, .int i18_7), (8, .int (Int64.toInt32 (f4 f (i18_5 + 2))))], [.int (Int64.toInt32 (f4 f (i18_5 + 2))), .int 6, .int i18_5], M40)) rfl ?_
                        refine ml_blk 2 (S' := (276, [(0, .ref m0), (2, .int x2), (3, .int x3), (4, .int (f2 f x1)), (5, .int i18_5), (6, .int (i18_6 ||| (1 <<< (i79_10 &&& 31)))), (7, .int i18_7), (8, .int (Int64.toInt32 (f4 f (i18_5 + 2))))], [.int (i18_5 + (6 + (Int64.toInt32 (f4 f (i18_5 + 2)))))], M40)) rfl ?_
                        refine ml_st (S' := (278, [(5, .int (i18_5 + (6 + (Int64.toInt32 (f4 f (i18_5 + 2)))))), (0, .ref m0), (2, .int x2), (3, .int x3), (4, .int (f2 f x1)), (6, .int (i18_6 ||| (1 <<< (i79_10 &&& 31)))), (7, .int i18_7), (8, .int (Int64.toInt32 (f4 f (i18_5 + 2))))], [], M40)) rfl rfl rfl ?_
                        refine ml_st (S' := (281, [(7, .int (i18_7 + 1)), (5, .int (i18_5 + (6 + (Int64.toInt32 (f4 f (i18_5 + 2)))))), (0, .ref m0), (2, .int x2), (3, .int x3), (4, .int (f2 f x1)), (6, .int (i18_6 ||| (1 <<< (i79_10 &&& 31)))), (8, .int (Int64.toInt32 (f4 f (i18_5 + 2))))], [], M40)) rfl rfl rfl ?_
                        refine ml_st (S' := (18, [(0, .ref m0), (2, .int x2), (3, .int x3), (4, .int (f2 f x1)), (5, .int (i18_5 + (6 + (Int64.toInt32 (f4 f (i18_5 + 2)))))), (6, .int (i18_6 ||| (1 <<< (i79_10 &&& 31)))), (7, .int (i18_7 + 1))], [], M40)) rfl rfl rfl ?_
                        exact ih_18 (i18_5 + (6 + (Int64.toInt32 (f4 f (i18_5 + 2))))) (i18_6 ||| (1 <<< (i79_10 &&& 31))) (i18_7 + 1) _ _ _ (loop_inc (Int32.not_le.mp c_22) hn_18) hR44 (((eqI.rf.tr hI_18 (by decide)).put f35 (by decide)).tr hI45 (by decide)) ((eqR.rf.tr hV_18 (by decide)).tr hV46 (by decide)) (⟨by rw [inc_lt (Int32.not_le.mp c_22)]; omega, by rw [inc_lt (Int32.not_le.mp c_22)]; have := i_nle c_22; omega, hb1.eq hra ▸ hnx, w48⟩)
                      · have c_263 : ¬ (u47 = 0) := of_decide_eq_false c_263
                        refine ml_st (S' := (267, [(0, .ref m0), (2, .int x2), (3, .int x3), (4, .int (f2 f x1)), (5, .int i18_5), (6, .int (i18_6 ||| (1 <<< (i79_10 &&& 31)))), (7, .int i18_7), (8, .int (Int64.toInt32 (f4 f (i18_5 + 2)))), (11, .int u47)], [.int (-1)], M40)) rfl rfl rfl ?_
                        exact ml_ret rfl (rfl) (⟨_, _, _, rfl, hR44, (((eqI.rf.tr hI_18 (by decide)).put f35 (by decide)).tr hI45 (by decide)), ((eqR.rf.tr hV_18 (by decide)).tr hV46 (by decide)), ⟨Or.inl (by decide), w48⟩⟩)
                    · have c_249 : ¬ (u47 ≤ 0) := of_decide_eq_false c_249
                      refine ml_blk 3 (S' := (257, [(6, .int (i18_6 ||| (1 <<< (i79_10 &&& 31)))), (11, .int u47), (0, .ref m0), (2, .int x2), (3, .int x3), (4, .int (f2 f x1)), (5, .int i18_5), (7, .int i18_7), (8, .int (Int64.toInt32 (f4 f (i18_5 + 2)))), (10, .int i79_10)], [.int i18_5, .int u47, .ref m0], M40)) rfl ?_
                      refine ml_call (a := [.ref m0, .int u47, .int i18_5]) (rest := []) rfl (hR44.okc rfl rfl rfl) rfl rfl (rm_wrong hR44 (by omega)) (fun v49 M50 h51 => ?_)
                      obtain ⟨u57, I52, R53, rfl, hR54, hI55, hV56, z58, w59⟩ := h51
                      show ml _ _ _ (260, [(6, .int (i18_6 ||| (1 <<< (i79_10 &&& 31)))), (11, .int u47), (0, .ref m0), (2, .int x2), (3, .int x3), (4, .int (f2 f x1)), (5, .int i18_5), (7, .int i18_7), (8, .int (Int64.toInt32 (f4 f (i18_5 + 2)))), (10, .int i79_10)], [.int u57], M50) _
                      refine ml_st (S' := (261, [(0, .ref m0), (2, .int x2), (3, .int x3), (4, .int (f2 f x1)), (5, .int i18_5), (6, .int (i18_6 ||| (1 <<< (i79_10 &&& 31)))), (7, .int i18_7), (8, .int (Int64.toInt32 (f4 f (i18_5 + 2)))), (11, .int u47)], [], M50)) rfl rfl rfl ?_
                      refine ml_st (S' := (263, [(0, .ref m0), (2, .int x2), (3, .int x3), (4, .int (f2 f x1)), (5, .int i18_5), (6, .int (i18_6 ||| (1 <<< (i79_10 &&& 31)))), (7, .int i18_7), (8, .int (Int64.toInt32 (f4 f (i18_5 + 2)))), (11, .int u47)], [.int u47], M50)) rfl rfl rfl ?_
                      refine ml_if (S1 := (268, [(0, .ref m0), (2, .int x2), (3, .int x3), (4, .int (f2 f x1)), (5, .int i18_5), (6, .int (i18_6 ||| (1 <<< (i79_10 &&& 31)))), (7, .int i18_7), (8, .int (Int64.toInt32 (f4 f (i18_5 + 2))))], [], M50)) (S2 := (266, [(0, .ref m0), (2, .int x2), (3, .int x3), (4, .int (f2 f x1)), (5, .int i18_5), (6, .int (i18_6 ||| (1 <<< (i79_10 &&& 31)))), (7, .int i18_7), (8, .int (Int64.toInt32 (f4 f (i18_5 + 2)))), (11, .int u47)], [], M50)) rfl rfl rfl (fun c_263 => ?_) (fun c_263 => ?_)
                      · have c_263 : u47 = 0 := of_decide_eq_true c_263
                        refine ml_blk 3 (S' := (274, [(0, .ref m0), (2, .int x2), (3, .int x3), (4, .int (f2 f x1)), (5, .int i18_5), (6, .int (i18_6 ||| (1 <<< (i79_10 &&& 31)))), (7, .int i18_7), (8, .int (Int64.toInt32 (f4 f (i18_5 + 2))))], [.int (Int64.toInt32 (f4 f (i18_5 + 2))), .int 6, .int i18_5], M50)) rfl ?_
                        refine ml_blk 2 (S' := (276, [(0, .ref m0), (2, .int x2), (3, .int x3), (4, .int (f2 f x1)), (5, .int i18_5), (6, .int (i18_6 ||| (1 <<< (i79_10 &&& 31)))), (7, .int i18_7), (8, .int (Int64.toInt32 (f4 f (i18_5 + 2))))], [.int (i18_5 + (6 + (Int64.toInt32 (f4 f (i18_5 + 2)))))], M50)) rfl ?_
                        refine ml_st (S' := (278, [(5, .int (i18_5 + (6 + (Int64.toInt32 (f4 f (i18_5 + 2)))))), (0, .ref m0), (2, .int x2), (3, .int x3), (4, .int (f2 f x1)), (6, .int (i18_6 ||| (1 <<< (i79_10 &&& 31)))), (7, .int i18_7), (8, .int (Int64.toInt32 (f4 f (i18_5 + 2))))], [], M50)) rfl rfl rfl ?_
                        refine ml_st (S' := (281, [(7, .int (i18_7 + 1)), (5, .int (i18_5 + (6 + (Int64.toInt32 (f4 f (i18_5 + 2)))))), (0, .ref m0), (2, .int x2), (3, .int x3), (4, .int (f2 f x1)), (6, .int (i18_6 ||| (1 <<< (i79_10 &&& 31)))), (8, .int (Int64.toInt32 (f4 f (i18_5 + 2))))], [], M50)) rfl rfl rfl ?_
                        refine ml_st (S' := (18, [(0, .ref m0), (2, .int x2), (3, .int x3), (4, .int (f2 f x1)), (5, .int (i18_5 + (6 + (Int64.toInt32 (f4 f (i18_5 + 2)))))), (6, .int (i18_6 ||| (1 <<< (i79_10 &&& 31)))), (7, .int (i18_7 + 1))], [], M50)) rfl rfl rfl ?_
                        exact ih_18 (i18_5 + (6 + (Int64.toInt32 (f4 f (i18_5 + 2))))) (i18_6 ||| (1 <<< (i79_10 &&& 31))) (i18_7 + 1) _ _ _ (loop_inc (Int32.not_le.mp c_22) hn_18) hR54 ((((eqI.rf.tr hI_18 (by decide)).put f35 (by decide)).tr hI45 (by decide)).tr hI55 (by decide)) (((eqR.rf.tr hV_18 (by decide)).tr hV46 (by decide)).tr hV56 (by decide)) (⟨by rw [inc_lt (Int32.not_le.mp c_22)]; omega, by rw [inc_lt (Int32.not_le.mp c_22)]; have := i_nle c_22; omega, hb1.eq hra ▸ hnx, (w48.fr (cIx hI55 (by decide)))⟩)
                      · have c_263 : ¬ (u47 = 0) := of_decide_eq_false c_263
                        refine ml_st (S' := (267, [(0, .ref m0), (2, .int x2), (3, .int x3), (4, .int (f2 f x1)), (5, .int i18_5), (6, .int (i18_6 ||| (1 <<< (i79_10 &&& 31)))), (7, .int i18_7), (8, .int (Int64.toInt32 (f4 f (i18_5 + 2)))), (11, .int u47)], [.int (-1)], M50)) rfl rfl rfl ?_
                        exact ml_ret rfl (rfl) (⟨_, _, _, rfl, hR54, ((((eqI.rf.tr hI_18 (by decide)).put f35 (by decide)).tr hI45 (by decide)).tr hI55 (by decide)), (((eqR.rf.tr hV_18 (by decide)).tr hV46 (by decide)).tr hV56 (by decide)), ⟨Or.inl (by decide), (w48.fr (cIx hI55 (by decide)))⟩⟩)
                  · have c_198 : ¬ (¬ ((i18_6 >>> (i79_10 &&& 31)) &&& 1) = 1) := of_decide_eq_false c_198
                    refine ml_blk 3 (S' := (206, [(0, .ref m0), (2, .int x2), (3, .int x3), (4, .int (f2 f x1)), (5, .int i18_5), (6, .int i18_6), (7, .int i18_7), (8, .int (Int64.toInt32 (f4 f (i18_5 + 2)))), (10, .int i79_10)], [.int i18_5, .int 29, .ref m0], M31)) rfl ?_
                    refine ml_call (a := [.ref m0, .int 29, .int i18_5]) (rest := []) rfl (hR33.okc rfl rfl rfl) rfl rfl (rm_wrong hR33 (by omega)) (fun v60 M61 h62 => ?_)
                    obtain ⟨u68, I63, R64, rfl, hR65, hI66, hV67, z69, w70⟩ := h62
                    show ml _ _ _ (209, [(0, .ref m0), (2, .int x2), (3, .int x3), (4, .int (f2 f x1)), (5, .int i18_5), (6, .int i18_6), (7, .int i18_7), (8, .int (Int64.toInt32 (f4 f (i18_5 + 2)))), (10, .int i79_10)], [.int u68], M61) _
                    refine ml_blk 2 (S' := (211, [(0, .ref m0), (2, .int x2), (3, .int x3), (4, .int (f2 f x1)), (5, .int i18_5), (6, .int i18_6), (7, .int i18_7), (8, .int (Int64.toInt32 (f4 f (i18_5 + 2)))), (10, .int i79_10)], [.int (-1)], M61)) rfl ?_
                    exact ml_ret rfl (rfl) (⟨_, _, _, rfl, hR65, (((eqI.rf.tr hI_18 (by decide)).put f35 (by decide)).tr hI66 (by decide)), ((eqR.rf.tr hV_18 (by decide)).tr hV67 (by decide)), ⟨Or.inl (by decide), ((hnw18.put (by decide) e34 f35).fr (cIx hI66 (by decide)))⟩⟩)
              · have c_86 : ¬ ((nI 10) ≤ i79_11) := of_decide_eq_false c_86
                have hjl : i79_11.toInt < 10 := by have q := i_nle c_86; rw [nI_val (by decide)] at q; omega
                refine ml_st (S' := (90, [(0, .ref m0), (2, .int x2), (3, .int x3), (4, .int (f2 f x1)), (5, .int i18_5), (6, .int i18_6), (7, .int i18_7), (8, .int (Int64.toInt32 (f4 f (i18_5 + 2)))), (9, .int (pyf py (f2 f i18_5))), (10, .int i79_10), (11, .int i79_11)], [.ref m0], M_18)) rfl rfl rfl ?_
                refine rg_ref (S' := (93, [(0, .ref m0), (2, .int x2), (3, .int x3), (4, .int (f2 f x1)), (5, .int i18_5), (6, .int i18_6), (7, .int i18_7), (8, .int (Int64.toInt32 (f4 f (i18_5 + 2)))), (9, .int (pyf py (f2 f i18_5))), (10, .int i79_10), (11, .int i79_11)], [.ref (q 63)], M_18)) rfl hR_18 rfl rfl ?_
                refine ml_st (S' := (95, [(0, .ref m0), (2, .int x2), (3, .int x3), (4, .int (f2 f x1)), (5, .int i18_5), (6, .int i18_6), (7, .int i18_7), (8, .int (Int64.toInt32 (f4 f (i18_5 + 2)))), (9, .int (pyf py (f2 f i18_5))), (10, .int i79_10), (11, .int i79_11)], [.int i79_11, .ref (q 63)], M_18)) rfl rfl rfl ?_
                have hK71 : KW I_18 R_18 := (hK.mono (cIx hI_18 (by decide)) (cRx hV_18 (by decide)))
                refine ra_ld (k := 63) (S' := (96, [(0, .ref m0), (2, .int x2), (3, .int x3), (4, .int (f2 f x1)), (5, .int i18_5), (6, .int i18_6), (7, .int i18_7), (8, .int (Int64.toInt32 (f4 f (i18_5 + 2)))), (9, .int (pyf py (f2 f i18_5))), (10, .int i79_10), (11, .int i79_11)], [.int (kin i79_11)], M_18)) rfl hR_18 rfl (vin_lt hj0 (by omega)) (hK71.1 i79_11 hj0 hjl) rfl ?_
                refine ml_st (S' := (97, [(0, .ref m0), (2, .int x2), (3, .int x3), (4, .int (f2 f x1)), (5, .int i18_5), (6, .int i18_6), (7, .int i18_7), (8, .int (Int64.toInt32 (f4 f (i18_5 + 2)))), (9, .int (pyf py (f2 f i18_5))), (10, .int i79_10), (11, .int i79_11)], [.int x2, .int (kin i79_11)], M_18)) rfl rfl rfl ?_
                refine ml_if2 (S1 := (134, [(0, .ref m0), (2, .int x2), (3, .int x3), (4, .int (f2 f x1)), (5, .int i18_5), (6, .int i18_6), (7, .int i18_7), (8, .int (Int64.toInt32 (f4 f (i18_5 + 2)))), (9, .int (pyf py (f2 f i18_5))), (10, .int i79_10), (11, .int i79_11)], [], M_18)) (S2 := (100, [(0, .ref m0), (2, .int x2), (3, .int x3), (4, .int (f2 f x1)), (5, .int i18_5), (6, .int i18_6), (7, .int i18_7), (8, .int (Int64.toInt32 (f4 f (i18_5 + 2)))), (9, .int (pyf py (f2 f i18_5))), (10, .int i79_10), (11, .int i79_11)], [], M_18)) rfl rfl rfl (fun c_97 => ?_) (fun c_97 => ?_)
                · have c_97 : ¬ (kin i79_11) = x2 := of_decide_eq_true c_97
                  refine ml_st (S' := (137, [(11, .int (i79_11 + 1)), (0, .ref m0), (2, .int x2), (3, .int x3), (4, .int (f2 f x1)), (5, .int i18_5), (6, .int i18_6), (7, .int i18_7), (8, .int (Int64.toInt32 (f4 f (i18_5 + 2)))), (9, .int (pyf py (f2 f i18_5))), (10, .int i79_10)], [], M_18)) rfl rfl rfl ?_
                  refine ml_st (S' := (79, [(0, .ref m0), (2, .int x2), (3, .int x3), (4, .int (f2 f x1)), (5, .int i18_5), (6, .int i18_6), (7, .int i18_7), (8, .int (Int64.toInt32 (f4 f (i18_5 + 2)))), (9, .int (pyf py (f2 f i18_5))), (10, .int i79_10), (11, .int (i79_11 + 1))], [], M_18)) rfl rfl rfl ?_
                  exact ih_79 i79_10 (i79_11 + 1) (loop_inc (Int32.not_le.mp c_86) hn_79) (⟨by rw [inc_lt (Int32.not_le.mp c_86)]; omega, hjw⟩)
                · have c_97 : ¬ (¬ (kin i79_11) = x2) := of_decide_eq_false c_97
                  refine ml_st (S' := (101, [(0, .ref m0), (2, .int x2), (3, .int x3), (4, .int (f2 f x1)), (5, .int i18_5), (6, .int i18_6), (7, .int i18_7), (8, .int (Int64.toInt32 (f4 f (i18_5 + 2)))), (9, .int (pyf py (f2 f i18_5))), (10, .int i79_10), (11, .int i79_11)], [.ref m0], M_18)) rfl rfl rfl ?_
                  refine rg_int (S' := (104, [(0, .ref m0), (2, .int x2), (3, .int x3), (4, .int (f2 f x1)), (5, .int i18_5), (6, .int i18_6), (7, .int i18_7), (8, .int (Int64.toInt32 (f4 f (i18_5 + 2)))), (9, .int (pyf py (f2 f i18_5))), (10, .int i79_10), (11, .int i79_11)], [.int mj], M_18)) rfl hR_18 rfl ((hI_18 53 (by decide)).trans (hP.2.2.1)) rfl ?_
                  refine ml_st (S' := (105, [(0, .ref m0), (2, .int x2), (3, .int x3), (4, .int (f2 f x1)), (5, .int i18_5), (6, .int i18_6), (7, .int i18_7), (8, .int (Int64.toInt32 (f4 f (i18_5 + 2)))), (9, .int (pyf py (f2 f i18_5))), (10, .int i79_10), (11, .int i79_11)], [.ref m0, .int mj], M_18)) rfl rfl rfl ?_
                  refine rg_ref (S' := (108, [(0, .ref m0), (2, .int x2), (3, .int x3), (4, .int (f2 f x1)), (5, .int i18_5), (6, .int i18_6), (7, .int i18_7), (8, .int (Int64.toInt32 (f4 f (i18_5 + 2)))), (9, .int (pyf py (f2 f i18_5))), (10, .int i79_10), (11, .int i79_11)], [.ref (q 64), .int mj], M_18)) rfl hR_18 rfl rfl ?_
                  refine ml_st (S' := (110, [(0, .ref m0), (2, .int x2), (3, .int x3), (4, .int (f2 f x1)), (5, .int i18_5), (6, .int i18_6), (7, .int i18_7), (8, .int (Int64.toInt32 (f4 f (i18_5 + 2)))), (9, .int (pyf py (f2 f i18_5))), (10, .int i79_10), (11, .int i79_11)], [.int i79_11, .ref (q 64), .int mj], M_18)) rfl rfl rfl ?_
                  obtain ⟨v110, hv110⟩ := hK71.2 i79_11 hj0 hjl
                  refine ra_ld (k := 64) (S' := (111, [(0, .ref m0), (2, .int x2), (3, .int x3), (4, .int (f2 f x1)), (5, .int i18_5), (6, .int i18_6), (7, .int i18_7), (8, .int (Int64.toInt32 (f4 f (i18_5 + 2)))), (9, .int (pyf py (f2 f i18_5))), (10, .int i79_10), (11, .int i79_11)], [.int v110, .int mj], M_18)) rfl hR_18 rfl (vin_lt hj0 (by omega)) (hv110) rfl ?_
                  refine ml_if2 (S1 := (134, [(0, .ref m0), (2, .int x2), (3, .int x3), (4, .int (f2 f x1)), (5, .int i18_5), (6, .int i18_6), (7, .int i18_7), (8, .int (Int64.toInt32 (f4 f (i18_5 + 2)))), (9, .int (pyf py (f2 f i18_5))), (10, .int i79_10), (11, .int i79_11)], [], M_18)) (S2 := (114, [(0, .ref m0), (2, .int x2), (3, .int x3), (4, .int (f2 f x1)), (5, .int i18_5), (6, .int i18_6), (7, .int i18_7), (8, .int (Int64.toInt32 (f4 f (i18_5 + 2)))), (9, .int (pyf py (f2 f i18_5))), (10, .int i79_10), (11, .int i79_11)], [], M_18)) rfl rfl rfl (fun c_111 => ?_) (fun c_111 => ?_)
                  · have c_111 : mj < v110 := of_decide_eq_true c_111
                    refine ml_st (S' := (137, [(11, .int (i79_11 + 1)), (0, .ref m0), (2, .int x2), (3, .int x3), (4, .int (f2 f x1)), (5, .int i18_5), (6, .int i18_6), (7, .int i18_7), (8, .int (Int64.toInt32 (f4 f (i18_5 + 2)))), (9, .int (pyf py (f2 f i18_5))), (10, .int i79_10)], [], M_18)) rfl rfl rfl ?_
                    refine ml_st (S' := (79, [(0, .ref m0), (2, .int x2), (3, .int x3), (4, .int (f2 f x1)), (5, .int i18_5), (6, .int i18_6), (7, .int i18_7), (8, .int (Int64.toInt32 (f4 f (i18_5 + 2)))), (9, .int (pyf py (f2 f i18_5))), (10, .int i79_10), (11, .int (i79_11 + 1))], [], M_18)) rfl rfl rfl ?_
                    exact ih_79 i79_10 (i79_11 + 1) (loop_inc (Int32.not_le.mp c_86) hn_79) (⟨by rw [inc_lt (Int32.not_le.mp c_86)]; omega, hjw⟩)
                  · have c_111 : ¬ (mj < v110) := of_decide_eq_false c_111
                    refine ml_blk 3 (S' := (118, [(0, .ref m0), (2, .int x2), (3, .int x3), (4, .int (f2 f x1)), (5, .int i18_5), (6, .int i18_6), (7, .int i18_7), (8, .int (Int64.toInt32 (f4 f (i18_5 + 2)))), (9, .int (pyf py (f2 f i18_5))), (10, .int i79_10), (11, .int i79_11)], [.ref m0, .int (pyf py (f2 f i18_5)), .ref m0], M_18)) rfl ?_
                    refine rg_ref (S' := (121, [(0, .ref m0), (2, .int x2), (3, .int x3), (4, .int (f2 f x1)), (5, .int i18_5), (6, .int i18_6), (7, .int i18_7), (8, .int (Int64.toInt32 (f4 f (i18_5 + 2)))), (9, .int (pyf py (f2 f i18_5))), (10, .int i79_10), (11, .int i79_11)], [.ref (q 62), .int (pyf py (f2 f i18_5)), .ref m0], M_18)) rfl hR_18 rfl rfl ?_
                    refine ml_st (S' := (123, [(0, .ref m0), (2, .int x2), (3, .int x3), (4, .int (f2 f x1)), (5, .int i18_5), (6, .int i18_6), (7, .int i18_7), (8, .int (Int64.toInt32 (f4 f (i18_5 + 2)))), (9, .int (pyf py (f2 f i18_5))), (10, .int i79_10), (11, .int i79_11)], [.int i79_11, .ref (q 62), .int (pyf py (f2 f i18_5)), .ref m0], M_18)) rfl rfl rfl ?_
                    refine ra_kn (S' := (124, [(0, .ref m0), (2, .int x2), (3, .int x3), (4, .int (f2 f x1)), (5, .int i18_5), (6, .int i18_6), (7, .int i18_7), (8, .int (Int64.toInt32 (f4 f (i18_5 + 2)))), (9, .int (pyf py (f2 f i18_5))), (10, .int i79_10), (11, .int i79_11)], [.ref (g.2.1 (15 + Int32.toNatClampNeg i79_11)), .int (pyf py (f2 f i18_5)), .ref m0], M_18)) rfl hR_18 hj0 hjl rfl ?_
                    have hY72 : SK S cN sa sl ch I_18 R_18 := (hY.mono (cIx hI_18 (by decide)) (cRx hV_18 (by decide)))
                    refine ml_call (a := [.ref m0, .int (pyf py (f2 f i18_5)), .ref (g.2.1 (15 + Int32.toNatClampNeg i79_11))]) (rest := []) rfl (hR_18.okc rfl rfl rfl) rfl rfl (rm_is hR_18 hY72 (hy9.2.2.1) (hy9.2.2.2) (by show 15 ≤ 15 + i79_11.toInt.toNat ∧ 15 + i79_11.toInt.toNat < 30; omega) (by omega)) (fun v73 M74 h75 => ?_)
                    obtain ⟨⟨u76, rfl, z77⟩, h75⟩ := h75
                    rw [h75]
                    show ml _ _ _ (127, [(0, .ref m0), (2, .int x2), (3, .int x3), (4, .int (f2 f x1)), (5, .int i18_5), (6, .int i18_6), (7, .int i18_7), (8, .int (Int64.toInt32 (f4 f (i18_5 + 2)))), (9, .int (pyf py (f2 f i18_5))), (10, .int i79_10), (11, .int i79_11)], [.int u76], M_18) _
                    refine ml_if (S1 := (134, [(0, .ref m0), (2, .int x2), (3, .int x3), (4, .int (f2 f x1)), (5, .int i18_5), (6, .int i18_6), (7, .int i18_7), (8, .int (Int64.toInt32 (f4 f (i18_5 + 2)))), (9, .int (pyf py (f2 f i18_5))), (10, .int i79_10), (11, .int i79_11)], [], M_18)) (S2 := (130, [(0, .ref m0), (2, .int x2), (3, .int x3), (4, .int (f2 f x1)), (5, .int i18_5), (6, .int i18_6), (7, .int i18_7), (8, .int (Int64.toInt32 (f4 f (i18_5 + 2)))), (9, .int (pyf py (f2 f i18_5))), (10, .int i79_10), (11, .int i79_11)], [], M_18)) rfl rfl rfl (fun c_127 => ?_) (fun c_127 => ?_)
                    · have c_127 : u76 = 0 := of_decide_eq_true c_127
                      refine ml_st (S' := (137, [(11, .int (i79_11 + 1)), (0, .ref m0), (2, .int x2), (3, .int x3), (4, .int (f2 f x1)), (5, .int i18_5), (6, .int i18_6), (7, .int i18_7), (8, .int (Int64.toInt32 (f4 f (i18_5 + 2)))), (9, .int (pyf py (f2 f i18_5))), (10, .int i79_10)], [], M_18)) rfl rfl rfl ?_
                      refine ml_st (S' := (79, [(0, .ref m0), (2, .int x2), (3, .int x3), (4, .int (f2 f x1)), (5, .int i18_5), (6, .int i18_6), (7, .int i18_7), (8, .int (Int64.toInt32 (f4 f (i18_5 + 2)))), (9, .int (pyf py (f2 f i18_5))), (10, .int i79_10), (11, .int (i79_11 + 1))], [], M_18)) rfl rfl rfl ?_
                      exact ih_79 i79_10 (i79_11 + 1) (loop_inc (Int32.not_le.mp c_86) hn_79) (⟨by rw [inc_lt (Int32.not_le.mp c_86)]; omega, hjw⟩)
                    · have c_127 : ¬ (u76 = 0) := of_decide_eq_false c_127
                      refine ml_st (S' := (132, [(0, .ref m0), (2, .int x2), (3, .int x3), (4, .int (f2 f x1)), (5, .int i18_5), (6, .int i18_6), (7, .int i18_7), (8, .int (Int64.toInt32 (f4 f (i18_5 + 2)))), (9, .int (pyf py (f2 f i18_5))), (10, .int i79_10), (11, .int i79_11)], [.int i79_11], M_18)) rfl rfl rfl ?_
                      refine ml_st (S' := (134, [(0, .ref m0), (2, .int x2), (3, .int x3), (4, .int (f2 f x1)), (5, .int i18_5), (6, .int i18_6), (7, .int i18_7), (8, .int (Int64.toInt32 (f4 f (i18_5 + 2)))), (9, .int (pyf py (f2 f i18_5))), (10, .int i79_11), (11, .int i79_11)], [], M_18)) rfl rfl rfl ?_
                      refine ml_st (S' := (137, [(11, .int (i79_11 + 1)), (0, .ref m0), (2, .int x2), (3, .int x3), (4, .int (f2 f x1)), (5, .int i18_5), (6, .int i18_6), (7, .int i18_7), (8, .int (Int64.toInt32 (f4 f (i18_5 + 2)))), (9, .int (pyf py (f2 f i18_5))), (10, .int i79_11)], [], M_18)) rfl rfl rfl ?_
                      refine ml_st (S' := (79, [(0, .ref m0), (2, .int x2), (3, .int x3), (4, .int (f2 f x1)), (5, .int i18_5), (6, .int i18_6), (7, .int i18_7), (8, .int (Int64.toInt32 (f4 f (i18_5 + 2)))), (9, .int (pyf py (f2 f i18_5))), (10, .int i79_11), (11, .int (i79_11 + 1))], [], M_18)) rfl rfl rfl ?_
                      exact ih_79 i79_11 (i79_11 + 1) (loop_inc (Int32.not_le.mp c_86) hn_79) (⟨by rw [inc_lt (Int32.not_le.mp c_86)]; omega, Or.inr ⟨hj0, hjl, Decidable.not_not.mp c_97⟩⟩)
          exact L_79 _ (-1) 0 (Nat.le_refl _) (⟨by decide, Or.inl (by decide)⟩)
        · have c_47 : ¬ ((tgf f cp pa (f2 f i18_5)) = 1) := of_decide_eq_false c_47
          refine ml_blk 3 (S' := (55, [(8, .int (Int64.toInt32 (f4 f (i18_5 + 2)))), (0, .ref m0), (2, .int x2), (3, .int x3), (4, .int (f2 f x1)), (5, .int i18_5), (6, .int i18_6), (7, .int i18_7)], [.int i18_5, .int 28, .ref m0], M_18)) rfl ?_
          refine ml_call (a := [.ref m0, .int 28, .int i18_5]) (rest := []) rfl (hR_18.okc rfl rfl rfl) rfl rfl (rm_wrong hR_18 (by omega)) (fun v78 M79 h80 => ?_)
          obtain ⟨u86, I81, R82, rfl, hR83, hI84, hV85, z87, w88⟩ := h80
          show ml _ _ _ (58, [(8, .int (Int64.toInt32 (f4 f (i18_5 + 2)))), (0, .ref m0), (2, .int x2), (3, .int x3), (4, .int (f2 f x1)), (5, .int i18_5), (6, .int i18_6), (7, .int i18_7)], [.int u86], M79) _
          refine ml_blk 2 (S' := (60, [(8, .int (Int64.toInt32 (f4 f (i18_5 + 2)))), (0, .ref m0), (2, .int x2), (3, .int x3), (4, .int (f2 f x1)), (5, .int i18_5), (6, .int i18_6), (7, .int i18_7)], [.int (-1)], M79)) rfl ?_
          exact ml_ret rfl (rfl) (⟨_, _, _, rfl, hR83, ((eqI.rf.tr hI_18 (by decide)).tr hI84 (by decide)), ((eqR.rf.tr hV_18 (by decide)).tr hV85 (by decide)), ⟨Or.inl (by decide), (hnw18.fr (cIx hI84 (by decide)))⟩⟩)
  exact L_18 _ (x1 + 2) 0 0 _ _ _ (Nat.le_refl _) hR eqI.rf eqR.rf (⟨by decide, by show (0 : Int) ≤ _; exact f2_pos, by rw [show ((f2 f x1).toInt - (0 : Int32).toInt).toNat = (f2 f x1).toInt.toNat by have : (0 : Int32).toInt = 0 := rfl; omega]; exact hat.2.2.1, hN⟩)
end
section
/-! the reference: members (my own text) -/
section MIE
def FKN (k : Nat) (R : rR) : Prop := ∀ x, x < k → kn [27, 28, 29, 30, 31, 32, 33] x R
theorem FKN.step {k : Nat} {R R' : rR} (h : FKN k R) (hp : pw k R R') (hk : kn [27, 28, 29, 30, 31, 32, 33] k R') : FKN (k + 1) R' := by
  intro x hx
  by_cases e : x = k
  · subst e
    exact hk
  · intro a ha
    rw [hp a x e]
    exact h x (by omega) a ha
theorem FKN.eq {k : Nat} {V : List Nat} {R R' : rR} (h : FKN k R) (h' : eqR V R R') (hd : ∀ a, a ∈ [27, 28, 29, 30, 31, 32, 33] → a ∉ V) : FKN k R' := fun x hx => (h x hx).eq h' hd
variable {f : Nat → Int32} {n S : Nat} {sa sl ch : Nat → Int32}
def MK1 (f : Nat → Int32) (n S : Nat) (sa sl ch : Nat → Int32) (x : Nat) (R : rR) : Prop := kn [34, 35, 37, 38, 39, 40, 42, 43, 44, 45, 46] x R ∧ MCD f n x R ∧ ∃ ds : Int32, R 36 x = some ds ∧ 0 ≤ ds.toInt ∧ ds.toInt < S ∧ MTX sa sl ch ds
def MKN (f : Nat → Int32) (n S : Nat) (sa sl ch : Nat → Int32) (k : Nat) (R : rR) : Prop := ∀ x, x < k → MK1 f n S sa sl ch x R
theorem MK1.fr {x : Nat} {R R' : rR} (h : MK1 f n S sa sl ch x R) (h' : ∀ k, R' k x = R k x) : MK1 f n S sa sl ch x R' := by
  obtain ⟨h1, h2, ds, h3, h4⟩ := h
  refine ⟨fun k hk => by rw [h' k]; exact h1 k hk, h2.fr (fun k _ => h' k), ds, by rw [h' 36]; exact h3, h4⟩
theorem MKN.step {k : Nat} {R R' : rR} (h : MKN f n S sa sl ch k R) (hp : pw k R R') (hk : MK1 f n S sa sl ch k R') : MKN f n S sa sl ch (k + 1) R' := by
  intro x hx
  by_cases e : x = k
  · subst e
    exact hk
  · exact (h x (by omega)).fr (fun a => hp a x e)
theorem MKN.eq {k : Nat} {R R' : rR} (h : MKN f n S sa sl ch k R) (h' : eqR [] R R') : MKN f n S sa sl ch k R' := fun x hx => (h x hx).fr (fun a => congrFun (h' a (by simp)) x)
end MIE
end
section
/-! the reference: members (laid by wip/p2/c70.py) -/
set_option maxHeartbeats 2000000 in
theorem rm_several {g : xe_G}  {m0 : Nat} {q : Nat → Nat} {z : Nat × Nat} {I : rI} {R : rR} {M : mi_H} {x1 x2 x3 x4 : Int32}  (hR : RS g m0 q z I R M) {d : Nat} (hd : 1 ≤ d) : mt (mT g) d 242 [.int x1, .int x2, .int x3, .int x4] M (fun v M' => (∃ x : Int32, v = some (.int x) ∧ (x = 0 ∨ x = 1)) ∧ M' = M) := by
  obtain ⟨d, rfl⟩ : ∃ e, d = e + 1 := ⟨d - 1, by omega⟩
  refine mt_in (b := mb_242 g) rfl rfl ?_
  show ml (mT g) d (mb_242 g).2 (0, [(0, .int x1), (1, .int x2), (2, .int x3), (3, .int x4)], [], M) _
  refine ml_blk 3 (S' := (3, [(0, .int x1), (1, .int x2), (2, .int x3), (3, .int x4)], [.int (x1 &&& x2)], M)) rfl ?_
  refine ml_if (S1 := (10, [(0, .int x1), (1, .int x2), (2, .int x3), (3, .int x4)], [], M)) (S2 := (6, [(0, .int x1), (1, .int x2), (2, .int x3), (3, .int x4)], [], M)) rfl rfl rfl (fun c_3 => ?_) (fun c_3 => ?_)
  · have c_3 : (x1 &&& x2) = 0 := of_decide_eq_true c_3
    refine ml_st (S' := (11, [(0, .int x1), (2, .int x3), (3, .int x4)], [.int 0], M)) rfl rfl rfl ?_
    refine ml_blk 3 (S' := (14, [(0, .int x1), (2, .int x3), (3, .int x4)], [.int (x1 &&& x3), .int 0], M)) rfl ?_
    refine ml_if (S1 := (21, [(0, .int x1), (2, .int x3), (3, .int x4)], [.int 0], M)) (S2 := (17, [(0, .int x1), (2, .int x3), (3, .int x4)], [.int 0], M)) rfl rfl rfl (fun c_14 => ?_) (fun c_14 => ?_)
    · have c_14 : (x1 &&& x3) = 0 := of_decide_eq_true c_14
      refine ml_st (S' := (22, [(0, .int x1), (3, .int x4)], [.int 0, .int 0], M)) rfl rfl rfl ?_
      refine ml_blk 3 (S' := (25, [(0, .int x1), (3, .int x4)], [.int x4, .int x1, .int (0 + 0)], M)) rfl ?_
      refine ml_st (S' := (26, [(0, .int x1), (3, .int x4)], [.int (x1 &&& x4), .int (0 + 0)], M)) rfl rfl rfl ?_
      refine ml_if (S1 := (33, [(0, .int x1), (3, .int x4)], [.int (0 + 0)], M)) (S2 := (29, [(0, .int x1), (3, .int x4)], [.int (0 + 0)], M)) rfl rfl rfl (fun c_26 => ?_) (fun c_26 => ?_)
      · have c_26 : (x1 &&& x4) = 0 := of_decide_eq_true c_26
        refine ml_st (S' := (34, [], [.int 0, .int (0 + 0)], M)) rfl rfl rfl ?_
        refine ml_blk 2 (S' := (36, [], [.int 1, .int ((0 + 0) + 0)], M)) rfl ?_
        refine ml_if2 (S1 := (43, [], [], M)) (S2 := (39, [], [], M)) rfl rfl rfl (fun c_36 => ?_) (fun c_36 => ?_)
        · have c_36 : ((0 + 0) + 0) ≤ 1 := of_decide_eq_true c_36
          refine ml_st (S' := (44, [], [.int 0], M)) rfl rfl rfl ?_
          exact ml_ret rfl (r_z (Or.inl rfl)) (⟨⟨_, rfl, Or.inl rfl⟩, rfl⟩)
        · have c_36 : ¬ (((0 + 0) + 0) ≤ 1) := of_decide_eq_false c_36
          refine ml_st (S' := (40, [], [.int 1], M)) rfl rfl rfl ?_
          refine ml_st (S' := (44, [], [.int 1], M)) rfl rfl rfl ?_
          exact ml_ret rfl (r_z (Or.inr rfl)) (⟨⟨_, rfl, Or.inr rfl⟩, rfl⟩)
      · have c_26 : ¬ ((x1 &&& x4) = 0) := of_decide_eq_false c_26
        refine ml_st (S' := (30, [(0, .int x1), (3, .int x4)], [.int 1, .int (0 + 0)], M)) rfl rfl rfl ?_
        refine ml_st (S' := (34, [], [.int 1, .int (0 + 0)], M)) rfl rfl rfl ?_
        refine ml_blk 2 (S' := (36, [], [.int 1, .int ((0 + 0) + 1)], M)) rfl ?_
        refine ml_if2 (S1 := (43, [], [], M)) (S2 := (39, [], [], M)) rfl rfl rfl (fun c_36 => ?_) (fun c_36 => ?_)
        · have c_36 : ((0 + 0) + 1) ≤ 1 := of_decide_eq_true c_36
          refine ml_st (S' := (44, [], [.int 0], M)) rfl rfl rfl ?_
          exact ml_ret rfl (r_z (Or.inl rfl)) (⟨⟨_, rfl, Or.inl rfl⟩, rfl⟩)
        · have c_36 : ¬ (((0 + 0) + 1) ≤ 1) := of_decide_eq_false c_36
          refine ml_st (S' := (40, [], [.int 1], M)) rfl rfl rfl ?_
          refine ml_st (S' := (44, [], [.int 1], M)) rfl rfl rfl ?_
          exact ml_ret rfl (r_z (Or.inr rfl)) (⟨⟨_, rfl, Or.inr rfl⟩, rfl⟩)
    · have c_14 : ¬ ((x1 &&& x3) = 0) := of_decide_eq_false c_14
      refine ml_st (S' := (18, [(0, .int x1), (2, .int x3), (3, .int x4)], [.int 1, .int 0], M)) rfl rfl rfl ?_
      refine ml_st (S' := (22, [(0, .int x1), (3, .int x4)], [.int 1, .int 0], M)) rfl rfl rfl ?_
      refine ml_blk 3 (S' := (25, [(0, .int x1), (3, .int x4)], [.int x4, .int x1, .int (0 + 1)], M)) rfl ?_
      refine ml_st (S' := (26, [(0, .int x1), (3, .int x4)], [.int (x1 &&& x4), .int (0 + 1)], M)) rfl rfl rfl ?_
      refine ml_if (S1 := (33, [(0, .int x1), (3, .int x4)], [.int (0 + 1)], M)) (S2 := (29, [(0, .int x1), (3, .int x4)], [.int (0 + 1)], M)) rfl rfl rfl (fun c_26 => ?_) (fun c_26 => ?_)
      · have c_26 : (x1 &&& x4) = 0 := of_decide_eq_true c_26
        refine ml_st (S' := (34, [], [.int 0, .int (0 + 1)], M)) rfl rfl rfl ?_
        refine ml_blk 2 (S' := (36, [], [.int 1, .int ((0 + 1) + 0)], M)) rfl ?_
        refine ml_if2 (S1 := (43, [], [], M)) (S2 := (39, [], [], M)) rfl rfl rfl (fun c_36 => ?_) (fun c_36 => ?_)
        · have c_36 : ((0 + 1) + 0) ≤ 1 := of_decide_eq_true c_36
          refine ml_st (S' := (44, [], [.int 0], M)) rfl rfl rfl ?_
          exact ml_ret rfl (r_z (Or.inl rfl)) (⟨⟨_, rfl, Or.inl rfl⟩, rfl⟩)
        · have c_36 : ¬ (((0 + 1) + 0) ≤ 1) := of_decide_eq_false c_36
          refine ml_st (S' := (40, [], [.int 1], M)) rfl rfl rfl ?_
          refine ml_st (S' := (44, [], [.int 1], M)) rfl rfl rfl ?_
          exact ml_ret rfl (r_z (Or.inr rfl)) (⟨⟨_, rfl, Or.inr rfl⟩, rfl⟩)
      · have c_26 : ¬ ((x1 &&& x4) = 0) := of_decide_eq_false c_26
        refine ml_st (S' := (30, [(0, .int x1), (3, .int x4)], [.int 1, .int (0 + 1)], M)) rfl rfl rfl ?_
        refine ml_st (S' := (34, [], [.int 1, .int (0 + 1)], M)) rfl rfl rfl ?_
        refine ml_blk 2 (S' := (36, [], [.int 1, .int ((0 + 1) + 1)], M)) rfl ?_
        refine ml_if2 (S1 := (43, [], [], M)) (S2 := (39, [], [], M)) rfl rfl rfl (fun c_36 => ?_) (fun c_36 => ?_)
        · have c_36 : ((0 + 1) + 1) ≤ 1 := of_decide_eq_true c_36
          refine ml_st (S' := (44, [], [.int 0], M)) rfl rfl rfl ?_
          exact ml_ret rfl (r_z (Or.inl rfl)) (⟨⟨_, rfl, Or.inl rfl⟩, rfl⟩)
        · have c_36 : ¬ (((0 + 1) + 1) ≤ 1) := of_decide_eq_false c_36
          refine ml_st (S' := (40, [], [.int 1], M)) rfl rfl rfl ?_
          refine ml_st (S' := (44, [], [.int 1], M)) rfl rfl rfl ?_
          exact ml_ret rfl (r_z (Or.inr rfl)) (⟨⟨_, rfl, Or.inr rfl⟩, rfl⟩)
  · have c_3 : ¬ ((x1 &&& x2) = 0) := of_decide_eq_false c_3
    refine ml_st (S' := (7, [(0, .int x1), (1, .int x2), (2, .int x3), (3, .int x4)], [.int 1], M)) rfl rfl rfl ?_
    refine ml_st (S' := (11, [(0, .int x1), (2, .int x3), (3, .int x4)], [.int 1], M)) rfl rfl rfl ?_
    refine ml_blk 3 (S' := (14, [(0, .int x1), (2, .int x3), (3, .int x4)], [.int (x1 &&& x3), .int 1], M)) rfl ?_
    refine ml_if (S1 := (21, [(0, .int x1), (2, .int x3), (3, .int x4)], [.int 1], M)) (S2 := (17, [(0, .int x1), (2, .int x3), (3, .int x4)], [.int 1], M)) rfl rfl rfl (fun c_14 => ?_) (fun c_14 => ?_)
    · have c_14 : (x1 &&& x3) = 0 := of_decide_eq_true c_14
      refine ml_st (S' := (22, [(0, .int x1), (3, .int x4)], [.int 0, .int 1], M)) rfl rfl rfl ?_
      refine ml_blk 3 (S' := (25, [(0, .int x1), (3, .int x4)], [.int x4, .int x1, .int (1 + 0)], M)) rfl ?_
      refine ml_st (S' := (26, [(0, .int x1), (3, .int x4)], [.int (x1 &&& x4), .int (1 + 0)], M)) rfl rfl rfl ?_
      refine ml_if (S1 := (33, [(0, .int x1), (3, .int x4)], [.int (1 + 0)], M)) (S2 := (29, [(0, .int x1), (3, .int x4)], [.int (1 + 0)], M)) rfl rfl rfl (fun c_26 => ?_) (fun c_26 => ?_)
      · have c_26 : (x1 &&& x4) = 0 := of_decide_eq_true c_26
        refine ml_st (S' := (34, [], [.int 0, .int (1 + 0)], M)) rfl rfl rfl ?_
        refine ml_blk 2 (S' := (36, [], [.int 1, .int ((1 + 0) + 0)], M)) rfl ?_
        refine ml_if2 (S1 := (43, [], [], M)) (S2 := (39, [], [], M)) rfl rfl rfl (fun c_36 => ?_) (fun c_36 => ?_)
        · have c_36 : ((1 + 0) + 0) ≤ 1 := of_decide_eq_true c_36
          refine ml_st (S' := (44, [], [.int 0], M)) rfl rfl rfl ?_
          exact ml_ret rfl (r_z (Or.inl rfl)) (⟨⟨_, rfl, Or.inl rfl⟩, rfl⟩)
        · have c_36 : ¬ (((1 + 0) + 0) ≤ 1) := of_decide_eq_false c_36
          refine ml_st (S' := (40, [], [.int 1], M)) rfl rfl rfl ?_
          refine ml_st (S' := (44, [], [.int 1], M)) rfl rfl rfl ?_
          exact ml_ret rfl (r_z (Or.inr rfl)) (⟨⟨_, rfl, Or.inr rfl⟩, rfl⟩)
      · have c_26 : ¬ ((x1 &&& x4) = 0) := of_decide_eq_false c_26
        refine ml_st (S' := (30, [(0, .int x1), (3, .int x4)], [.int 1, .int (1 + 0)], M)) rfl rfl rfl ?_
        refine ml_st (S' := (34, [], [.int 1, .int (1 + 0)], M)) rfl rfl rfl ?_
        refine ml_blk 2 (S' := (36, [], [.int 1, .int ((1 + 0) + 1)], M)) rfl ?_
        refine ml_if2 (S1 := (43, [], [], M)) (S2 := (39, [], [], M)) rfl rfl rfl (fun c_36 => ?_) (fun c_36 => ?_)
        · have c_36 : ((1 + 0) + 1) ≤ 1 := of_decide_eq_true c_36
          refine ml_st (S' := (44, [], [.int 0], M)) rfl rfl rfl ?_
          exact ml_ret rfl (r_z (Or.inl rfl)) (⟨⟨_, rfl, Or.inl rfl⟩, rfl⟩)
        · have c_36 : ¬ (((1 + 0) + 1) ≤ 1) := of_decide_eq_false c_36
          refine ml_st (S' := (40, [], [.int 1], M)) rfl rfl rfl ?_
          refine ml_st (S' := (44, [], [.int 1], M)) rfl rfl rfl ?_
          exact ml_ret rfl (r_z (Or.inr rfl)) (⟨⟨_, rfl, Or.inr rfl⟩, rfl⟩)
    · have c_14 : ¬ ((x1 &&& x3) = 0) := of_decide_eq_false c_14
      refine ml_st (S' := (18, [(0, .int x1), (2, .int x3), (3, .int x4)], [.int 1, .int 1], M)) rfl rfl rfl ?_
      refine ml_st (S' := (22, [(0, .int x1), (3, .int x4)], [.int 1, .int 1], M)) rfl rfl rfl ?_
      refine ml_blk 3 (S' := (25, [(0, .int x1), (3, .int x4)], [.int x4, .int x1, .int (1 + 1)], M)) rfl ?_
      refine ml_st (S' := (26, [(0, .int x1), (3, .int x4)], [.int (x1 &&& x4), .int (1 + 1)], M)) rfl rfl rfl ?_
      refine ml_if (S1 := (33, [(0, .int x1), (3, .int x4)], [.int (1 + 1)], M)) (S2 := (29, [(0, .int x1), (3, .int x4)], [.int (1 + 1)], M)) rfl rfl rfl (fun c_26 => ?_) (fun c_26 => ?_)
      · have c_26 : (x1 &&& x4) = 0 := of_decide_eq_true c_26
        refine ml_st (S' := (34, [], [.int 0, .int (1 + 1)], M)) rfl rfl rfl ?_
        refine ml_blk 2 (S' := (36, [], [.int 1, .int ((1 + 1) + 0)], M)) rfl ?_
        refine ml_if2 (S1 := (43, [], [], M)) (S2 := (39, [], [], M)) rfl rfl rfl (fun c_36 => ?_) (fun c_36 => ?_)
        · have c_36 : ((1 + 1) + 0) ≤ 1 := of_decide_eq_true c_36
          refine ml_st (S' := (44, [], [.int 0], M)) rfl rfl rfl ?_
          exact ml_ret rfl (r_z (Or.inl rfl)) (⟨⟨_, rfl, Or.inl rfl⟩, rfl⟩)
        · have c_36 : ¬ (((1 + 1) + 0) ≤ 1) := of_decide_eq_false c_36
          refine ml_st (S' := (40, [], [.int 1], M)) rfl rfl rfl ?_
          refine ml_st (S' := (44, [], [.int 1], M)) rfl rfl rfl ?_
          exact ml_ret rfl (r_z (Or.inr rfl)) (⟨⟨_, rfl, Or.inr rfl⟩, rfl⟩)
      · have c_26 : ¬ ((x1 &&& x4) = 0) := of_decide_eq_false c_26
        refine ml_st (S' := (30, [(0, .int x1), (3, .int x4)], [.int 1, .int (1 + 1)], M)) rfl rfl rfl ?_
        refine ml_st (S' := (34, [], [.int 1, .int (1 + 1)], M)) rfl rfl rfl ?_
        refine ml_blk 2 (S' := (36, [], [.int 1, .int ((1 + 1) + 1)], M)) rfl ?_
        refine ml_if2 (S1 := (43, [], [], M)) (S2 := (39, [], [], M)) rfl rfl rfl (fun c_36 => ?_) (fun c_36 => ?_)
        · have c_36 : ((1 + 1) + 1) ≤ 1 := of_decide_eq_true c_36
          refine ml_st (S' := (44, [], [.int 0], M)) rfl rfl rfl ?_
          exact ml_ret rfl (r_z (Or.inl rfl)) (⟨⟨_, rfl, Or.inl rfl⟩, rfl⟩)
        · have c_36 : ¬ (((1 + 1) + 1) ≤ 1) := of_decide_eq_false c_36
          refine ml_st (S' := (40, [], [.int 1], M)) rfl rfl rfl ?_
          refine ml_st (S' := (44, [], [.int 1], M)) rfl rfl rfl ?_
          exact ml_ret rfl (r_z (Or.inr rfl)) (⟨⟨_, rfl, Or.inr rfl⟩, rfl⟩)
set_option maxHeartbeats 2000000 in
theorem rm_flagsFit {g : xe_G}  {m0 : Nat} {q : Nat → Nat} {z : Nat × Nat} {I : rI} {R : rR} {M : mi_H} {x1 x2 x3 mj : Int32}  (hR : RS g m0 q z I R M) (hk53 : I 53 = some mj) {d : Nat} (hd : 2 ≤ d) : mt (mT g) d 209 [.ref m0, .int x1, .int x2, .int x3] M (fun v M' => (∃ x : Int32, v = some (.int x) ∧ (x = 0 ∨ x = 1)) ∧ M' = M) := by
  obtain ⟨d, rfl⟩ : ∃ e, d = e + 1 := ⟨d - 1, by omega⟩
  refine mt_in (b := mb_209 g) rfl rfl ?_
  show ml (mT g) d (mb_209 g).2 (0, [(0, .ref m0), (1, .int x1), (2, .int x2), (3, .int x3)], [], M) _
  refine ml_st (S' := (1, [(0, .ref m0), (1, .int x1), (2, .int x2), (3, .int x3)], [.int x2], M)) rfl rfl rfl ?_
  refine ml_if (S1 := (28, [(0, .ref m0), (1, .int x1), (2, .int x2), (3, .int x3)], [], M)) (S2 := (4, [(0, .ref m0), (1, .int x1), (2, .int x2), (3, .int x3)], [], M)) rfl rfl rfl (fun c_1 => ?_) (fun c_1 => ?_)
  · have c_1 : x2 = 0 := of_decide_eq_true c_1
    refine ml_blk 3 (S' := (33, [(0, .ref m0), (1, .int x1), (2, .int x2), (3, .int x3)], [.int (x1 &&& 1024)], M)) rfl ?_
    have J_75 : ∀ (s75_0 : Int32), ml (mT g) d (mb_209 g).2 (75, [(0, .ref m0), (1, .int x1), (3, .int x3)], [.int s75_0], M) (fun v M' => (∃ x : Int32, v = some (.int x) ∧ (x = 0 ∨ x = 1)) ∧ M' = M) := by
      intro s75_0
      refine ml_st (S' := (77, [(4, .int s75_0), (0, .ref m0), (1, .int x1), (3, .int x3)], [], M)) rfl rfl rfl ?_
      refine ml_st (S' := (78, [(4, .int s75_0), (0, .ref m0), (1, .int x1), (3, .int x3)], [.int x3], M)) rfl rfl rfl ?_
      refine ml_if (S1 := (102, [(4, .int s75_0), (0, .ref m0), (1, .int x1), (3, .int x3)], [], M)) (S2 := (81, [(4, .int s75_0), (0, .ref m0), (1, .int x1), (3, .int x3)], [], M)) rfl rfl rfl (fun c_78 => ?_) (fun c_78 => ?_)
      · have c_78 : ¬ x3 = 0 := of_decide_eq_true c_78
        refine ml_blk 3 (S' := (107, [(4, .int s75_0), (0, .ref m0), (1, .int x1), (3, .int x3)], [.int (x1 &&& 308)], M)) rfl ?_
        refine ml_if (S1 := (112, [(4, .int s75_0), (0, .ref m0), (1, .int x1), (3, .int x3)], [], M)) (S2 := (110, [(4, .int s75_0), (0, .ref m0), (1, .int x1), (3, .int x3)], [], M)) rfl rfl rfl (fun c_107 => ?_) (fun c_107 => ?_)
        · have c_107 : (x1 &&& 308) = 0 := of_decide_eq_true c_107
          refine ml_st (S' := (113, [(4, .int s75_0), (0, .ref m0), (1, .int x1), (3, .int x3)], [.ref m0], M)) rfl rfl rfl ?_
          refine rg_int (S' := (116, [(4, .int s75_0), (0, .ref m0), (1, .int x1), (3, .int x3)], [.int mj], M)) rfl hR rfl (hk53) rfl ?_
          refine ml_st (S' := (118, [(4, .int s75_0), (0, .ref m0), (1, .int x1), (3, .int x3)], [.int 52, .int mj], M)) rfl rfl rfl ?_
          have J_172 : ml (mT g) d (mb_209 g).2 (172, [(4, .int s75_0)], [], M) (fun v M' => (∃ x : Int32, v = some (.int x) ∧ (x = 0 ∨ x = 1)) ∧ M' = M) := by
            refine ml_st (S' := (174, [(4, .int s75_0)], [.int s75_0], M)) rfl rfl rfl ?_
            refine ml_if (S1 := (181, [(4, .int s75_0)], [], M)) (S2 := (177, [(4, .int s75_0)], [], M)) rfl rfl rfl (fun c_174 => ?_) (fun c_174 => ?_)
            · have c_174 : ¬ s75_0 = 0 := of_decide_eq_true c_174
              refine ml_st (S' := (182, [], [.int 0], M)) rfl rfl rfl ?_
              exact ml_ret rfl (r_z (Or.inl rfl)) (⟨⟨_, rfl, Or.inl rfl⟩, rfl⟩)
            · have c_174 : ¬ (¬ s75_0 = 0) := of_decide_eq_false c_174
              refine ml_st (S' := (178, [(4, .int s75_0)], [.int 1], M)) rfl rfl rfl ?_
              refine ml_st (S' := (182, [], [.int 1], M)) rfl rfl rfl ?_
              exact ml_ret rfl (r_z (Or.inr rfl)) (⟨⟨_, rfl, Or.inr rfl⟩, rfl⟩)
          have J_170 : ml (mT g) d (mb_209 g).2 (170, [], [], M) (fun v M' => (∃ x : Int32, v = some (.int x) ∧ (x = 0 ∨ x = 1)) ∧ M' = M) := by
            refine ml_st (S' := (171, [], [.int 0], M)) rfl rfl rfl ?_
            exact ml_ret rfl (r_z (Or.inl rfl)) (⟨⟨_, rfl, Or.inl rfl⟩, rfl⟩)
          refine ml_if2 (S1 := (145, [(4, .int s75_0), (0, .ref m0), (1, .int x1), (3, .int x3)], [], M)) (S2 := (121, [(4, .int s75_0), (0, .ref m0), (1, .int x1), (3, .int x3)], [], M)) rfl rfl rfl (fun c_118 => ?_) (fun c_118 => ?_)
          · have c_118 : 52 ≤ mj := of_decide_eq_true c_118
            refine ml_blk 3 (S' := (148, [(4, .int s75_0), (0, .ref m0), (1, .int x1), (3, .int x3)], [.int (x1 &&& 1)], M)) rfl ?_
            have J_156 : ∀ (s156_0 : Int32), ml (mT g) d (mb_209 g).2 (156, [(1, .int x1), (4, .int s75_0)], [.int s156_0], M) (fun v M' => (∃ x : Int32, v = some (.int x) ∧ (x = 0 ∨ x = 1)) ∧ M' = M) := by
              intro s156_0
              refine ml_blk 3 (S' := (159, [(1, .int x1), (4, .int s75_0)], [.int (x1 &&& 2), .int s156_0], M)) rfl ?_
              have J_167 : ∀ (s167_0 : Int32), ml (mT g) d (mb_209 g).2 (167, [(4, .int s75_0)], [.int s167_0, .int s156_0], M) (fun v M' => (∃ x : Int32, v = some (.int x) ∧ (x = 0 ∨ x = 1)) ∧ M' = M) := by
                intro s167_0
                refine ml_if2 (S1 := (172, [(4, .int s75_0)], [], M)) (S2 := (170, [], [], M)) rfl rfl rfl (fun c_167 => ?_) (fun c_167 => ?_)
                · have c_167 : ¬ s156_0 = s167_0 := of_decide_eq_true c_167
                  exact J_172 
                · have c_167 : ¬ (¬ s156_0 = s167_0) := of_decide_eq_false c_167
                  exact J_170 
              refine ml_if (S1 := (166, [(1, .int x1), (4, .int s75_0)], [.int s156_0], M)) (S2 := (162, [(1, .int x1), (4, .int s75_0)], [.int s156_0], M)) rfl rfl rfl (fun c_159 => ?_) (fun c_159 => ?_)
              · have c_159 : (x1 &&& 2) = 0 := of_decide_eq_true c_159
                refine ml_st (S' := (167, [(4, .int s75_0)], [.int 0, .int s156_0], M)) rfl rfl rfl ?_
                exact J_167 0
              · have c_159 : ¬ ((x1 &&& 2) = 0) := of_decide_eq_false c_159
                refine ml_st (S' := (163, [(1, .int x1), (4, .int s75_0)], [.int 1, .int s156_0], M)) rfl rfl rfl ?_
                refine ml_st (S' := (167, [(4, .int s75_0)], [.int 1, .int s156_0], M)) rfl rfl rfl ?_
                exact J_167 1
            refine ml_if (S1 := (155, [(4, .int s75_0), (0, .ref m0), (1, .int x1), (3, .int x3)], [], M)) (S2 := (151, [(4, .int s75_0), (0, .ref m0), (1, .int x1), (3, .int x3)], [], M)) rfl rfl rfl (fun c_148 => ?_) (fun c_148 => ?_)
            · have c_148 : (x1 &&& 1) = 0 := of_decide_eq_true c_148
              refine ml_st (S' := (156, [(1, .int x1), (4, .int s75_0)], [.int 0], M)) rfl rfl rfl ?_
              exact J_156 0
            · have c_148 : ¬ ((x1 &&& 1) = 0) := of_decide_eq_false c_148
              refine ml_st (S' := (152, [(4, .int s75_0), (0, .ref m0), (1, .int x1), (3, .int x3)], [.int 1], M)) rfl rfl rfl ?_
              refine ml_st (S' := (156, [(1, .int x1), (4, .int s75_0)], [.int 1], M)) rfl rfl rfl ?_
              exact J_156 1
          · have c_118 : ¬ (52 ≤ mj) := of_decide_eq_false c_118
            refine ml_blk 3 (S' := (124, [(4, .int s75_0), (0, .ref m0), (1, .int x1), (3, .int x3)], [.int (x1 &&& 1)], M)) rfl ?_
            refine ml_if (S1 := (170, [], [], M)) (S2 := (127, [(4, .int s75_0), (0, .ref m0), (1, .int x1), (3, .int x3)], [], M)) rfl rfl rfl (fun c_124 => ?_) (fun c_124 => ?_)
            · have c_124 : (x1 &&& 1) = 0 := of_decide_eq_true c_124
              exact J_170 
            · have c_124 : ¬ ((x1 &&& 1) = 0) := of_decide_eq_false c_124
              refine ml_blk 3 (S' := (132, [(4, .int s75_0), (0, .ref m0), (1, .int x1), (3, .int x3)], [.int (x1 &&& 1024)], M)) rfl ?_
              refine ml_if (S1 := (170, [], [], M)) (S2 := (135, [(4, .int s75_0), (0, .ref m0), (1, .int x1), (3, .int x3)], [], M)) rfl rfl rfl (fun c_132 => ?_) (fun c_132 => ?_)
              · have c_132 : (x1 &&& 1024) = 0 := of_decide_eq_true c_132
                exact J_170 
              · have c_132 : ¬ ((x1 &&& 1024) = 0) := of_decide_eq_false c_132
                refine ml_blk 3 (S' := (139, [(4, .int s75_0), (0, .ref m0), (1, .int x1), (3, .int x3)], [.int (x1 &&& 8)], M)) rfl ?_
                refine ml_if (S1 := (172, [(4, .int s75_0)], [], M)) (S2 := (142, [(4, .int s75_0), (0, .ref m0), (1, .int x1), (3, .int x3)], [], M)) rfl rfl rfl (fun c_139 => ?_) (fun c_139 => ?_)
                · have c_139 : (x1 &&& 8) = 0 := of_decide_eq_true c_139
                  exact J_172 
                · have c_139 : ¬ ((x1 &&& 8) = 0) := of_decide_eq_false c_139
                  refine ml_st (S' := (170, [], [], M)) rfl rfl rfl ?_
                  exact J_170 
        · have c_107 : ¬ ((x1 &&& 308) = 0) := of_decide_eq_false c_107
          refine ml_st (S' := (111, [(4, .int s75_0), (0, .ref m0), (1, .int x1), (3, .int x3)], [.int 0], M)) rfl rfl rfl ?_
          exact ml_ret rfl (r_z (Or.inl rfl)) (⟨⟨_, rfl, Or.inl rfl⟩, rfl⟩)
      · have c_78 : ¬ (¬ x3 = 0) := of_decide_eq_false c_78
        refine ml_blk 3 (S' := (84, [(4, .int s75_0), (0, .ref m0), (1, .int x1), (3, .int x3)], [.int 2, .int 1, .int x1], M)) rfl ?_
        refine ml_st (S' := (85, [(4, .int s75_0), (0, .ref m0), (1, .int x1), (3, .int x3)], [.int 4, .int 2, .int 1, .int x1], M)) rfl rfl rfl ?_
        refine ml_call (a := [.int x1, .int 1, .int 2, .int 4]) (rest := []) rfl (rfl) rfl rfl (rm_several hR (by omega)) (fun v11 M12 h13 => ?_)
        obtain ⟨⟨u14, rfl, z15⟩, h13⟩ := h13
        rw [h13]
        show ml _ _ _ (88, [(4, .int s75_0), (0, .ref m0), (1, .int x1), (3, .int x3)], [.int u14], M) _
        refine ml_if (S1 := (100, [], [], M)) (S2 := (91, [(4, .int s75_0), (0, .ref m0), (1, .int x1), (3, .int x3)], [], M)) rfl rfl rfl (fun c_88 => ?_) (fun c_88 => ?_)
        · have c_88 : ¬ u14 = 0 := of_decide_eq_true c_88
          refine ml_st (S' := (101, [], [.int 0], M)) rfl rfl rfl ?_
          exact ml_ret rfl (r_z (Or.inl rfl)) (⟨⟨_, rfl, Or.inl rfl⟩, rfl⟩)
        · have c_88 : ¬ (¬ u14 = 0) := of_decide_eq_false c_88
          refine ml_st (S' := (93, [(4, .int s75_0), (0, .ref m0), (1, .int x1), (3, .int x3)], [.int s75_0], M)) rfl rfl rfl ?_
          refine ml_if (S1 := (100, [], [], M)) (S2 := (96, [(4, .int s75_0), (0, .ref m0), (1, .int x1), (3, .int x3)], [], M)) rfl rfl rfl (fun c_93 => ?_) (fun c_93 => ?_)
          · have c_93 : ¬ s75_0 = 0 := of_decide_eq_true c_93
            refine ml_st (S' := (101, [], [.int 0], M)) rfl rfl rfl ?_
            exact ml_ret rfl (r_z (Or.inl rfl)) (⟨⟨_, rfl, Or.inl rfl⟩, rfl⟩)
          · have c_93 : ¬ (¬ s75_0 = 0) := of_decide_eq_false c_93
            refine ml_st (S' := (97, [(4, .int s75_0), (0, .ref m0), (1, .int x1), (3, .int x3)], [.int 1], M)) rfl rfl rfl ?_
            refine ml_st (S' := (101, [], [.int 1], M)) rfl rfl rfl ?_
            exact ml_ret rfl (r_z (Or.inr rfl)) (⟨⟨_, rfl, Or.inr rfl⟩, rfl⟩)
    refine ml_if (S1 := (74, [(0, .ref m0), (1, .int x1), (3, .int x3)], [], M)) (S2 := (36, [(0, .ref m0), (1, .int x1), (2, .int x2), (3, .int x3)], [], M)) rfl rfl rfl (fun c_33 => ?_) (fun c_33 => ?_)
    · have c_33 : (x1 &&& 1024) = 0 := of_decide_eq_true c_33
      refine ml_st (S' := (75, [(0, .ref m0), (1, .int x1), (3, .int x3)], [.int 0], M)) rfl rfl rfl ?_
      exact J_75 0
    · have c_33 : ¬ ((x1 &&& 1024) = 0) := of_decide_eq_false c_33
      refine ml_blk 3 (S' := (41, [(0, .ref m0), (1, .int x1), (2, .int x2), (3, .int x3)], [.int (x1 &&& 314)], M)) rfl ?_
      refine ml_if (S1 := (70, [(0, .ref m0), (1, .int x1), (3, .int x3)], [], M)) (S2 := (44, [(0, .ref m0), (1, .int x1), (2, .int x2), (3, .int x3)], [], M)) rfl rfl rfl (fun c_41 => ?_) (fun c_41 => ?_)
      · have c_41 : ¬ (x1 &&& 314) = 0 := of_decide_eq_true c_41
        refine ml_st (S' := (71, [(0, .ref m0), (1, .int x1), (3, .int x3)], [.int 1], M)) rfl rfl rfl ?_
        refine ml_st (S' := (75, [(0, .ref m0), (1, .int x1), (3, .int x3)], [.int 1], M)) rfl rfl rfl ?_
        exact J_75 1
      · have c_41 : ¬ (¬ (x1 &&& 314) = 0) := of_decide_eq_false c_41
        refine ml_st (S' := (45, [(0, .ref m0), (1, .int x1), (2, .int x2), (3, .int x3)], [.ref m0], M)) rfl rfl rfl ?_
        refine rg_int (S' := (48, [(0, .ref m0), (1, .int x1), (2, .int x2), (3, .int x3)], [.int mj], M)) rfl hR rfl (hk53) rfl ?_
        refine ml_st (S' := (50, [(0, .ref m0), (1, .int x1), (2, .int x2), (3, .int x3)], [.int 46, .int mj], M)) rfl rfl rfl ?_
        refine ml_if2 (S1 := (74, [(0, .ref m0), (1, .int x1), (3, .int x3)], [], M)) (S2 := (53, [(0, .ref m0), (1, .int x1), (2, .int x2), (3, .int x3)], [], M)) rfl rfl rfl (fun c_50 => ?_) (fun c_50 => ?_)
        · have c_50 : mj < 46 := of_decide_eq_true c_50
          refine ml_st (S' := (75, [(0, .ref m0), (1, .int x1), (3, .int x3)], [.int 0], M)) rfl rfl rfl ?_
          exact J_75 0
        · have c_50 : ¬ (mj < 46) := of_decide_eq_false c_50
          refine ml_st (S' := (54, [(0, .ref m0), (1, .int x1), (2, .int x2), (3, .int x3)], [.ref m0], M)) rfl rfl rfl ?_
          refine rg_int (S' := (57, [(0, .ref m0), (1, .int x1), (2, .int x2), (3, .int x3)], [.int mj], M)) rfl hR rfl (hk53) rfl ?_
          refine ml_st (S' := (59, [(0, .ref m0), (1, .int x1), (2, .int x2), (3, .int x3)], [.int 60, .int mj], M)) rfl rfl rfl ?_
          refine ml_if2 (S1 := (74, [(0, .ref m0), (1, .int x1), (3, .int x3)], [], M)) (S2 := (62, [(0, .ref m0), (1, .int x1), (2, .int x2), (3, .int x3)], [], M)) rfl rfl rfl (fun c_59 => ?_) (fun c_59 => ?_)
          · have c_59 : 60 < mj := of_decide_eq_true c_59
            refine ml_st (S' := (75, [(0, .ref m0), (1, .int x1), (3, .int x3)], [.int 0], M)) rfl rfl rfl ?_
            exact J_75 0
          · have c_59 : ¬ (60 < mj) := of_decide_eq_false c_59
            refine ml_blk 3 (S' := (67, [(0, .ref m0), (1, .int x1), (2, .int x2), (3, .int x3)], [.int (x1 &&& 2048)], M)) rfl ?_
            refine ml_if (S1 := (74, [(0, .ref m0), (1, .int x1), (3, .int x3)], [], M)) (S2 := (70, [(0, .ref m0), (1, .int x1), (3, .int x3)], [], M)) rfl rfl rfl (fun c_67 => ?_) (fun c_67 => ?_)
            · have c_67 : (x1 &&& 2048) = 0 := of_decide_eq_true c_67
              refine ml_st (S' := (75, [(0, .ref m0), (1, .int x1), (3, .int x3)], [.int 0], M)) rfl rfl rfl ?_
              exact J_75 0
            · have c_67 : ¬ ((x1 &&& 2048) = 0) := of_decide_eq_false c_67
              refine ml_st (S' := (71, [(0, .ref m0), (1, .int x1), (3, .int x3)], [.int 1], M)) rfl rfl rfl ?_
              refine ml_st (S' := (75, [(0, .ref m0), (1, .int x1), (3, .int x3)], [.int 1], M)) rfl rfl rfl ?_
              exact J_75 1
  · have c_1 : ¬ (x2 = 0) := of_decide_eq_false c_1
    refine ml_blk 3 (S' := (7, [(0, .ref m0), (1, .int x1), (2, .int x2), (3, .int x3)], [.int 2, .int 1, .int x1], M)) rfl ?_
    refine ml_st (S' := (8, [(0, .ref m0), (1, .int x1), (2, .int x2), (3, .int x3)], [.int 4, .int 2, .int 1, .int x1], M)) rfl rfl rfl ?_
    refine ml_call (a := [.int x1, .int 1, .int 2, .int 4]) (rest := []) rfl (rfl) rfl rfl (rm_several hR (by omega)) (fun v16 M17 h18 => ?_)
    obtain ⟨⟨u19, rfl, z20⟩, h18⟩ := h18
    rw [h18]
    show ml _ _ _ (11, [(0, .ref m0), (1, .int x1), (2, .int x2), (3, .int x3)], [.int u19], M) _
    refine ml_if (S1 := (26, [], [], M)) (S2 := (14, [(0, .ref m0), (1, .int x1), (2, .int x2), (3, .int x3)], [], M)) rfl rfl rfl (fun c_11 => ?_) (fun c_11 => ?_)
    · have c_11 : ¬ u19 = 0 := of_decide_eq_true c_11
      refine ml_st (S' := (27, [], [.int 0], M)) rfl rfl rfl ?_
      exact ml_ret rfl (r_z (Or.inl rfl)) (⟨⟨_, rfl, Or.inl rfl⟩, rfl⟩)
    · have c_11 : ¬ (¬ u19 = 0) := of_decide_eq_false c_11
      refine ml_blk 3 (S' := (19, [(0, .ref m0), (1, .int x1), (2, .int x2), (3, .int x3)], [.int (x1 &&& 1400)], M)) rfl ?_
      refine ml_if (S1 := (26, [], [], M)) (S2 := (22, [(0, .ref m0), (1, .int x1), (2, .int x2), (3, .int x3)], [], M)) rfl rfl rfl (fun c_19 => ?_) (fun c_19 => ?_)
      · have c_19 : ¬ (x1 &&& 1400) = 0 := of_decide_eq_true c_19
        refine ml_st (S' := (27, [], [.int 0], M)) rfl rfl rfl ?_
        exact ml_ret rfl (r_z (Or.inl rfl)) (⟨⟨_, rfl, Or.inl rfl⟩, rfl⟩)
      · have c_19 : ¬ (¬ (x1 &&& 1400) = 0) := of_decide_eq_false c_19
        refine ml_st (S' := (23, [(0, .ref m0), (1, .int x1), (2, .int x2), (3, .int x3)], [.int 1], M)) rfl rfl rfl ?_
        refine ml_st (S' := (27, [], [.int 1], M)) rfl rfl rfl ?_
        exact ml_ret rfl (r_z (Or.inr rfl)) (⟨⟨_, rfl, Or.inr rfl⟩, rfl⟩)
theorem nI_back {k : Int32} (h : 0 ≤ k.toInt) (h1 : k.toInt ≤ 65535) : nI k.toInt.toNat = k := by
  apply Int32.toInt_inj.mp
  rw [nI_val (by omega)]
  omega
end
section
set_option maxHeartbeats 2000000 in
theorem rm_checkFields {g : xe_G}  {m0 : Nat} {q : Nat → Nat} {z : Nat × Nat} {I : rI} {R : rR} {M : mi_H} {fA nf : Int32} {n : Nat} {f : Nat → Int32} {S cN : Nat} {sa sl ch : Nat → Int32} {cp mj : Int32} {pa py : Nat → Int32} {mA : Int32}  (hR : RS g m0 q z I R M) (hk55 : I 55 = some fA) (hk25 : I 25 = some 0) (hk58 : I 58 = some nf) (hF : FK n f I R) (hY : SK S cN sa sl ch I R) (hP : PK n f S cp mj pa py I R) (hK : KW I R) (hmb : MB f n fA mA) {d : Nat} (hd : 8 ≤ d) : mt (mT g) d 189 [.ref m0] M (fun v M' => ∃ (x : Int32) (I' : rI) (R' : rR), v = some (.int x) ∧ RS g m0 q z I' R' M' ∧ eqI [25, 47, 48] I I' ∧ eqR [27, 28, 29, 30, 31, 32, 33] R R' ∧ (x = 0 ∨ x = 1) ∧ (x = 0 ∨ ∃ k : Nat, k ≤ 8192 ∧ I' 25 = some (nI k) ∧ FKN k R')) := by
  obtain ⟨d, rfl⟩ : ∃ e, d = e + 1 := ⟨d - 1, by omega⟩
  refine mt_in (b := mb_189 g) rfl rfl ?_
  show ml (mT g) d (mb_189 g).2 (0, [(0, .ref m0)], [], M) _
  have hn := hF.1
  have hA0 := hmb.1
  have hA1 := hmb.2.1
  have eA2 : (fA + 2).toInt = fA.toInt + 2 := i_add (by have : (2 : Int32).toInt = 2 := rfl; omega) (by have : (2 : Int32).toInt = 2 := rfl; omega)
  refine ml_st (S' := (1, [(0, .ref m0)], [.ref m0], M)) rfl rfl rfl ?_
  refine rg_int (S' := (4, [(0, .ref m0)], [.int fA], M)) rfl hR rfl (hk55) rfl ?_
  refine ml_st (S' := (5, [(1, .int fA), (0, .ref m0)], [], M)) rfl rfl rfl ?_
  refine ml_blk 2 (S' := (7, [(1, .int fA), (0, .ref m0)], [.int fA, .ref m0], M)) rfl ?_
  refine ml_call (a := [.ref m0, .int fA]) (rest := []) rfl (hR.okc rfl rfl rfl) rfl rfl (rm_u2 hR hF (hA0) (hA1) (by omega)) (fun v11 M12 h13 => ?_)
  obtain ⟨rfl, h13⟩ := h13
  rw [h13]
  show ml _ _ _ (10, [(1, .int fA), (0, .ref m0)], [.int (f2 f fA)], M) _
  refine ml_st (S' := (11, [(2, .int (f2 f fA)), (1, .int fA), (0, .ref m0)], [], M)) rfl rfl rfl ?_
  refine ml_st (S' := (14, [(1, .int (fA + 2)), (2, .int (f2 f fA)), (0, .ref m0)], [], M)) rfl rfl rfl ?_
  refine ml_st (S' := (15, [(1, .int (fA + 2)), (2, .int (f2 f fA)), (0, .ref m0)], [.ref m0], M)) rfl rfl rfl ?_
  refine rg_int (S' := (18, [(1, .int (fA + 2)), (2, .int (f2 f fA)), (0, .ref m0)], [.int 0], M)) rfl hR rfl (hk25) rfl ?_
  refine ml_st (S' := (19, [(3, .int 0), (1, .int (fA + 2)), (2, .int (f2 f fA)), (0, .ref m0)], [], M)) rfl rfl rfl ?_
  refine ml_st (S' := (20, [(3, .int 0), (1, .int (fA + 2)), (2, .int (f2 f fA)), (0, .ref m0)], [.int 0], M)) rfl rfl rfl ?_
  refine ml_st (S' := (22, [(0, .ref m0), (1, .int (fA + 2)), (2, .int (f2 f fA)), (3, .int 0), (4, .int 0)], [], M)) rfl rfl rfl ?_
  have L_22 : ∀ (n_22 : Nat) (i22_1 : Int32) (i22_4 : Int32) (M_22 : mi_H) (I_22 : rI) (R_22 : rR), (2147483648 - i22_4.toInt).toNat ≤ n_22 → RS g m0 q z I_22 R_22 M_22 → eqI [25, 47, 48] I I_22 → eqR [27, 28, 29, 30, 31, 32, 33] R R_22 → (0 ≤ i22_4.toInt ∧ i22_4.toInt ≤ (f2 f fA).toInt ∧ I_22 25 = some i22_4 ∧ itr (MB1 f n) ((f2 f fA).toInt - i22_4.toInt).toNat i22_1 mA ∧ fA.toInt + 2 + 8 * i22_4.toInt ≤ i22_1.toInt ∧ FKN i22_4.toInt.toNat R_22) → ml (mT g) d (mb_189 g).2 (22, [(0, .ref m0), (1, .int i22_1), (2, .int (f2 f fA)), (3, .int 0), (4, .int i22_4)], [], M_22) (fun v M' => ∃ (x : Int32) (I' : rI) (R' : rR), v = some (.int x) ∧ RS g m0 q z I' R' M' ∧ eqI [25, 47, 48] I I' ∧ eqR [27, 28, 29, 30, 31, 32, 33] R R' ∧ (x = 0 ∨ x = 1) ∧ (x = 0 ∨ ∃ k : Nat, k ≤ 8192 ∧ I' 25 = some (nI k) ∧ FKN k R')) := by
    intro n_22
    induction n_22 with
    | zero => intro i22_1 i22_4 M_22 I_22 R_22 hn; exact (loop_zero hn).elim
    | succ n_22 ih_22 =>
      intro i22_1 i22_4 M_22 I_22 R_22 hn_22 hR_22 hI_22 hV_22 hi_22
      obtain ⟨hk0, hk1, h25, hit, hpk, hfk⟩ := hi_22
      refine ml_blk 2 (S' := (25, [(0, .ref m0), (1, .int i22_1), (2, .int (f2 f fA)), (3, .int 0), (4, .int i22_4)], [.int (f2 f fA), .int i22_4], M_22)) rfl ?_
      refine ml_if2 (S1 := (366, [(0, .ref m0), (1, .int i22_1), (2, .int (f2 f fA)), (3, .int 0), (4, .int i22_4)], [], M_22)) (S2 := (28, [(0, .ref m0), (1, .int i22_1), (2, .int (f2 f fA)), (3, .int 0), (4, .int i22_4)], [], M_22)) rfl rfl rfl (fun c_25 => ?_) (fun c_25 => ?_)
      · have c_25 : (f2 f fA) ≤ i22_4 := of_decide_eq_true c_25
        refine ml_st (S' := (367, [(0, .ref m0), (1, .int i22_1), (2, .int (f2 f fA)), (3, .int 0), (4, .int i22_4)], [.int 1], M_22)) rfl rfl rfl ?_
        exact ml_ret rfl (r_z (Or.inr rfl)) (⟨_, _, _, rfl, hR_22, (eqI.rf.tr hI_22 (by decide)), (eqR.rf.tr hV_22 (by decide)), Or.inr rfl, Or.inr ⟨i22_4.toInt.toNat, by have := itr.ge (w := 0) (fun a b h => by have := MB1.ge hn a b h; omega) hit; have := (mb_ge hn hmb).2; omega, by rw [nI_back hk0 (Int.le_trans hk1 f2_le)]; exact h25, hfk⟩⟩)
      · have c_25 : ¬ ((f2 f fA) ≤ i22_4) := of_decide_eq_false c_25
        obtain ⟨b1, hb1, hnx⟩ := itr_next hit c_25
        obtain ⟨g0, g1, g2⟩ := hb1
        have hg := at_ge hn g2
        have hkl := i_nle c_25
        have e2 : (i22_1 + 2).toInt = i22_1.toInt + 2 := i_add (by have : (2 : Int32).toInt = 2 := rfl; omega) (by have : (2 : Int32).toInt = 2 := rfl; omega)
        have e4 : (i22_1 + 4).toInt = i22_1.toInt + 4 := i_add (by have : (4 : Int32).toInt = 4 := rfl; omega) (by have : (4 : Int32).toInt = 4 := rfl; omega)
        have e6 : (i22_1 + 6).toInt = i22_1.toInt + 6 := i_add (by have : (6 : Int32).toInt = 6 := rfl; omega) (by have : (6 : Int32).toInt = 6 := rfl; omega)
        have hk8 : i22_4.toInt < 8300 := by omega
        refine ml_blk 2 (S' := (30, [(0, .ref m0), (1, .int i22_1), (2, .int (f2 f fA)), (3, .int 0), (4, .int i22_4)], [.int i22_1, .ref m0], M_22)) rfl ?_
        have hF14 : FK n f I_22 R_22 := (hF.mono (cIx hI_22 (by decide)) (cRx hV_22 (by decide)))
        refine ml_call (a := [.ref m0, .int i22_1]) (rest := []) rfl (hR_22.okc rfl rfl rfl) rfl rfl (rm_u2 hR_22 hF14 (g0) (by omega) (by omega)) (fun v15 M16 h17 => ?_)
        obtain ⟨rfl, h17⟩ := h17
        rw [h17]
        show ml _ _ _ (33, [(0, .ref m0), (1, .int i22_1), (2, .int (f2 f fA)), (3, .int 0), (4, .int i22_4)], [.int (f2 f i22_1)], M_22) _
        refine ml_st (S' := (35, [(5, .int (f2 f i22_1)), (0, .ref m0), (1, .int i22_1), (2, .int (f2 f fA)), (3, .int 0), (4, .int i22_4)], [], M_22)) rfl rfl rfl ?_
        refine ml_blk 3 (S' := (39, [(5, .int (f2 f i22_1)), (0, .ref m0), (1, .int i22_1), (2, .int (f2 f fA)), (3, .int 0), (4, .int i22_4)], [.int 2, .int 1, .int (f2 f i22_1)], M_22)) rfl ?_
        refine ml_st (S' := (40, [(5, .int (f2 f i22_1)), (0, .ref m0), (1, .int i22_1), (2, .int (f2 f fA)), (3, .int 0), (4, .int i22_4)], [.int 4, .int 2, .int 1, .int (f2 f i22_1)], M_22)) rfl rfl rfl ?_
        refine ml_call (a := [.int (f2 f i22_1), .int 1, .int 2, .int 4]) (rest := []) rfl (rfl) rfl rfl (rm_several hR_22 (by omega)) (fun v18 M19 h20 => ?_)
        obtain ⟨⟨u21, rfl, z22⟩, h20⟩ := h20
        rw [h20]
        show ml _ _ _ (43, [(5, .int (f2 f i22_1)), (0, .ref m0), (1, .int i22_1), (2, .int (f2 f fA)), (3, .int 0), (4, .int i22_4)], [.int u21], M_22) _
        refine ml_if (S1 := (84, [(0, .ref m0), (1, .int i22_1)], [], M_22)) (S2 := (46, [(5, .int (f2 f i22_1)), (0, .ref m0), (1, .int i22_1), (2, .int (f2 f fA)), (3, .int 0), (4, .int i22_4)], [], M_22)) rfl rfl rfl (fun c_43 => ?_) (fun c_43 => ?_)
        · have c_43 : ¬ u21 = 0 := of_decide_eq_true c_43
          refine ml_blk 3 (S' := (88, [(0, .ref m0), (1, .int i22_1)], [.int i22_1, .int 19, .ref m0], M_22)) rfl ?_
          refine ml_call (a := [.ref m0, .int 19, .int i22_1]) (rest := []) rfl (hR_22.okc rfl rfl rfl) rfl rfl (rm_wrong hR_22 (by omega)) (fun v23 M24 h25 => ?_)
          obtain ⟨u31, I26, R27, rfl, hR28, hI29, hV30, z32, w33⟩ := h25
          show ml _ _ _ (91, [(0, .ref m0), (1, .int i22_1)], [.int u31], M24) _
          exact ml_ret rfl (r_z (z32)) (⟨_, _, _, rfl, hR28, ((eqI.rf.tr hI_22 (by decide)).tr hI29 (by decide)), ((eqR.rf.tr hV_22 (by decide)).tr hV30 (by decide)), z32, Or.inl w33⟩)
        · have c_43 : ¬ (¬ u21 = 0) := of_decide_eq_false c_43
          refine ml_blk 3 (S' := (51, [(5, .int (f2 f i22_1)), (0, .ref m0), (1, .int i22_1), (2, .int (f2 f fA)), (3, .int 0), (4, .int i22_4)], [.int ((f2 f i22_1) &&& 16)], M_22)) rfl ?_
          refine ml_if (S1 := (62, [(0, .ref m0), (1, .int i22_1), (2, .int (f2 f fA)), (3, .int 0), (4, .int i22_4), (5, .int (f2 f i22_1))], [], M_22)) (S2 := (54, [(5, .int (f2 f i22_1)), (0, .ref m0), (1, .int i22_1), (2, .int (f2 f fA)), (3, .int 0), (4, .int i22_4)], [], M_22)) rfl rfl rfl (fun c_51 => ?_) (fun c_51 => ?_)
          · have c_51 : ((f2 f i22_1) &&& 16) = 0 := of_decide_eq_true c_51
            refine ml_st (S' := (63, [(0, .ref m0), (1, .int i22_1), (2, .int (f2 f fA)), (3, .int 0), (4, .int i22_4), (5, .int (f2 f i22_1))], [.ref m0], M_22)) rfl rfl rfl ?_
            refine rg_int (S' := (66, [(0, .ref m0), (1, .int i22_1), (2, .int (f2 f fA)), (3, .int 0), (4, .int i22_4), (5, .int (f2 f i22_1))], [.int nf], M_22)) rfl hR_22 rfl ((hI_22 58 (by decide)).trans (hk58)) rfl ?_
            refine ml_blk 2 (S' := (70, [(0, .ref m0), (1, .int i22_1), (2, .int (f2 f fA)), (3, .int 0), (4, .int i22_4), (5, .int (f2 f i22_1))], [.int (nf &&& 512)], M_22)) rfl ?_
            have J_92 : ml (mT g) d (mb_189 g).2 (92, [(0, .ref m0), (1, .int i22_1), (2, .int (f2 f fA)), (3, .int 0), (4, .int i22_4), (5, .int (f2 f i22_1))], [], M_22) (fun v M' => ∃ (x : Int32) (I' : rI) (R' : rR), v = some (.int x) ∧ RS g m0 q z I' R' M' ∧ eqI [25, 47, 48] I I' ∧ eqR [27, 28, 29, 30, 31, 32, 33] R R' ∧ (x = 0 ∨ x = 1) ∧ (x = 0 ∨ ∃ k : Nat, k ≤ 8192 ∧ I' 25 = some (nI k) ∧ FKN k R')) := by
              refine ml_blk 3 (S' := (95, [(0, .ref m0), (1, .int i22_1), (2, .int (f2 f fA)), (3, .int 0), (4, .int i22_4), (5, .int (f2 f i22_1))], [.int i22_1, .ref m0, .ref m0], M_22)) rfl ?_
              refine ml_blk 2 (S' := (97, [(0, .ref m0), (1, .int i22_1), (2, .int (f2 f fA)), (3, .int 0), (4, .int i22_4), (5, .int (f2 f i22_1))], [.int (i22_1 + 2), .ref m0, .ref m0], M_22)) rfl ?_
              refine ml_call (a := [.ref m0, .int (i22_1 + 2)]) (rest := [.ref m0]) rfl (hR_22.okc rfl rfl rfl) rfl rfl (rm_u2 hR_22 hF14 (by omega) (by omega) (by omega)) (fun v34 M35 h36 => ?_)
              obtain ⟨rfl, h36⟩ := h36
              rw [h36]
              show ml _ _ _ (100, [(0, .ref m0), (1, .int i22_1), (2, .int (f2 f fA)), (3, .int 0), (4, .int i22_4), (5, .int (f2 f i22_1))], [.int (f2 f (i22_1 + 2)), .ref m0], M_22) _
              have hP37 : PK n f S cp mj pa py I_22 R_22 := (hP.mono (cIx hI_22 (by decide)) (cRx hV_22 (by decide)))
              refine ml_call (a := [.ref m0, .int (f2 f (i22_1 + 2))]) (rest := []) rfl (hR_22.okc rfl rfl rfl) rfl rfl (rm_tag hR_22 hF14 hP37 (by omega)) (fun v38 M39 h40 => ?_)
              obtain ⟨rfl, h40⟩ := h40
              rw [h40]
              show ml _ _ _ (103, [(0, .ref m0), (1, .int i22_1), (2, .int (f2 f fA)), (3, .int 0), (4, .int i22_4), (5, .int (f2 f i22_1))], [.int (tgf f cp pa (f2 f (i22_1 + 2)))], M_22) _
              refine ml_st (S' := (104, [(0, .ref m0), (1, .int i22_1), (2, .int (f2 f fA)), (3, .int 0), (4, .int i22_4), (5, .int (f2 f i22_1))], [.int 1, .int (tgf f cp pa (f2 f (i22_1 + 2)))], M_22)) rfl rfl rfl ?_
              refine ml_if2 (S1 := (126, [(0, .ref m0), (1, .int i22_1)], [], M_22)) (S2 := (107, [(0, .ref m0), (1, .int i22_1), (2, .int (f2 f fA)), (3, .int 0), (4, .int i22_4), (5, .int (f2 f i22_1))], [], M_22)) rfl rfl rfl (fun c_104 => ?_) (fun c_104 => ?_)
              · have c_104 : ¬ (tgf f cp pa (f2 f (i22_1 + 2))) = 1 := of_decide_eq_true c_104
                refine ml_blk 3 (S' := (130, [(0, .ref m0), (1, .int i22_1)], [.int i22_1, .int 20, .ref m0], M_22)) rfl ?_
                refine ml_blk 2 (S' := (132, [(0, .ref m0), (1, .int i22_1)], [.int (i22_1 + 2), .int 20, .ref m0], M_22)) rfl ?_
                refine ml_call (a := [.ref m0, .int 20, .int (i22_1 + 2)]) (rest := []) rfl (hR_22.okc rfl rfl rfl) rfl rfl (rm_wrong hR_22 (by omega)) (fun v41 M42 h43 => ?_)
                obtain ⟨u49, I44, R45, rfl, hR46, hI47, hV48, z50, w51⟩ := h43
                show ml _ _ _ (135, [(0, .ref m0), (1, .int i22_1)], [.int u49], M42) _
                exact ml_ret rfl (r_z (z50)) (⟨_, _, _, rfl, hR46, ((eqI.rf.tr hI_22 (by decide)).tr hI47 (by decide)), ((eqR.rf.tr hV_22 (by decide)).tr hV48 (by decide)), z50, Or.inl w51⟩)
              · have c_104 : ¬ (¬ (tgf f cp pa (f2 f (i22_1 + 2))) = 1) := of_decide_eq_false c_104
                have hyA := hP.y (show tgf f cp pa (f2 f (i22_1 + 2)) = 1 from Decidable.not_not.mp c_104)
                refine ml_blk 3 (S' := (110, [(0, .ref m0), (1, .int i22_1), (2, .int (f2 f fA)), (3, .int 0), (4, .int i22_4), (5, .int (f2 f i22_1))], [.ref m0, .ref m0, .ref m0], M_22)) rfl ?_
                refine ml_blk 3 (S' := (113, [(0, .ref m0), (1, .int i22_1), (2, .int (f2 f fA)), (3, .int 0), (4, .int i22_4), (5, .int (f2 f i22_1))], [.int (i22_1 + 2), .ref m0, .ref m0, .ref m0], M_22)) rfl ?_
                refine ml_call (a := [.ref m0, .int (i22_1 + 2)]) (rest := [.ref m0, .ref m0]) rfl (hR_22.okc rfl rfl rfl) rfl rfl (rm_u2 hR_22 hF14 (by omega) (by omega) (by omega)) (fun v52 M53 h54 => ?_)
                obtain ⟨rfl, h54⟩ := h54
                rw [h54]
                show ml _ _ _ (116, [(0, .ref m0), (1, .int i22_1), (2, .int (f2 f fA)), (3, .int 0), (4, .int i22_4), (5, .int (f2 f i22_1))], [.int (f2 f (i22_1 + 2)), .ref m0, .ref m0], M_22) _
                refine ml_call (a := [.ref m0, .int (f2 f (i22_1 + 2))]) (rest := [.ref m0]) rfl (hR_22.okc rfl rfl rfl) rfl rfl (rm_symOf hR_22 hP37 (Decidable.not_not.mp c_104) (by omega)) (fun v55 M56 h57 => ?_)
                obtain ⟨rfl, h57⟩ := h57
                rw [h57]
                show ml _ _ _ (119, [(0, .ref m0), (1, .int i22_1), (2, .int (f2 f fA)), (3, .int 0), (4, .int i22_4), (5, .int (f2 f i22_1))], [.int (pyf py (f2 f (i22_1 + 2))), .ref m0], M_22) _
                refine ml_st (S' := (120, [(0, .ref m0), (1, .int i22_1), (2, .int (f2 f fA)), (3, .int 0), (4, .int i22_4), (5, .int (f2 f i22_1))], [.int 1, .int (pyf py (f2 f (i22_1 + 2))), .ref m0], M_22)) rfl rfl rfl ?_
                have hY58 : SK S cN sa sl ch I_22 R_22 := (hY.mono (cIx hI_22 (by decide)) (cRx hV_22 (by decide)))
                refine ml_call (a := [.ref m0, .int (pyf py (f2 f (i22_1 + 2))), .int 1]) (rest := []) rfl (hR_22.okc rfl rfl rfl) rfl rfl (rm_unqualified hR_22 hY58 (hyA.2.2.1) (hyA.2.2.2) (by omega)) (fun v59 M60 h61 => ?_)
                obtain ⟨⟨u62, rfl, z63⟩, h61⟩ := h61
                rw [h61]
                show ml _ _ _ (123, [(0, .ref m0), (1, .int i22_1), (2, .int (f2 f fA)), (3, .int 0), (4, .int i22_4), (5, .int (f2 f i22_1))], [.int u62], M_22) _
                refine ml_if (S1 := (136, [(0, .ref m0), (1, .int i22_1), (2, .int (f2 f fA)), (3, .int 0), (4, .int i22_4), (5, .int (f2 f i22_1))], [], M_22)) (S2 := (126, [(0, .ref m0), (1, .int i22_1)], [], M_22)) rfl rfl rfl (fun c_123 => ?_) (fun c_123 => ?_)
                · have c_123 : ¬ u62 = 0 := of_decide_eq_true c_123
                  refine ml_blk 3 (S' := (139, [(0, .ref m0), (1, .int i22_1), (2, .int (f2 f fA)), (3, .int 0), (4, .int i22_4), (5, .int (f2 f i22_1))], [.int i22_1, .ref m0, .ref m0], M_22)) rfl ?_
                  refine ml_blk 2 (S' := (141, [(0, .ref m0), (1, .int i22_1), (2, .int (f2 f fA)), (3, .int 0), (4, .int i22_4), (5, .int (f2 f i22_1))], [.int (i22_1 + 4), .ref m0, .ref m0], M_22)) rfl ?_
                  refine ml_call (a := [.ref m0, .int (i22_1 + 4)]) (rest := [.ref m0]) rfl (hR_22.okc rfl rfl rfl) rfl rfl (rm_u2 hR_22 hF14 (by omega) (by omega) (by omega)) (fun v64 M65 h66 => ?_)
                  obtain ⟨rfl, h66⟩ := h66
                  rw [h66]
                  show ml _ _ _ (144, [(0, .ref m0), (1, .int i22_1), (2, .int (f2 f fA)), (3, .int 0), (4, .int i22_4), (5, .int (f2 f i22_1))], [.int (f2 f (i22_1 + 4)), .ref m0], M_22) _
                  refine ml_call (a := [.ref m0, .int (f2 f (i22_1 + 4))]) (rest := []) rfl (hR_22.okc rfl rfl rfl) rfl rfl (rm_tag hR_22 hF14 hP37 (by omega)) (fun v67 M68 h69 => ?_)
                  obtain ⟨rfl, h69⟩ := h69
                  rw [h69]
                  show ml _ _ _ (147, [(0, .ref m0), (1, .int i22_1), (2, .int (f2 f fA)), (3, .int 0), (4, .int i22_4), (5, .int (f2 f i22_1))], [.int (tgf f cp pa (f2 f (i22_1 + 4)))], M_22) _
                  refine ml_st (S' := (148, [(0, .ref m0), (1, .int i22_1), (2, .int (f2 f fA)), (3, .int 0), (4, .int i22_4), (5, .int (f2 f i22_1))], [.int 1, .int (tgf f cp pa (f2 f (i22_1 + 4)))], M_22)) rfl rfl rfl ?_
                  refine ml_if2 (S1 := (169, [(0, .ref m0), (1, .int i22_1)], [], M_22)) (S2 := (151, [(0, .ref m0), (1, .int i22_1), (2, .int (f2 f fA)), (3, .int 0), (4, .int i22_4), (5, .int (f2 f i22_1))], [], M_22)) rfl rfl rfl (fun c_148 => ?_) (fun c_148 => ?_)
                  · have c_148 : ¬ (tgf f cp pa (f2 f (i22_1 + 4))) = 1 := of_decide_eq_true c_148
                    refine ml_blk 3 (S' := (173, [(0, .ref m0), (1, .int i22_1)], [.int i22_1, .int 21, .ref m0], M_22)) rfl ?_
                    refine ml_blk 2 (S' := (175, [(0, .ref m0), (1, .int i22_1)], [.int (i22_1 + 4), .int 21, .ref m0], M_22)) rfl ?_
                    refine ml_call (a := [.ref m0, .int 21, .int (i22_1 + 4)]) (rest := []) rfl (hR_22.okc rfl rfl rfl) rfl rfl (rm_wrong hR_22 (by omega)) (fun v70 M71 h72 => ?_)
                    obtain ⟨u78, I73, R74, rfl, hR75, hI76, hV77, z79, w80⟩ := h72
                    show ml _ _ _ (178, [(0, .ref m0), (1, .int i22_1)], [.int u78], M71) _
                    exact ml_ret rfl (r_z (z79)) (⟨_, _, _, rfl, hR75, ((eqI.rf.tr hI_22 (by decide)).tr hI76 (by decide)), ((eqR.rf.tr hV_22 (by decide)).tr hV77 (by decide)), z79, Or.inl w80⟩)
                  · have c_148 : ¬ (¬ (tgf f cp pa (f2 f (i22_1 + 4))) = 1) := of_decide_eq_false c_148
                    have hyB := hP.y (show tgf f cp pa (f2 f (i22_1 + 4)) = 1 from Decidable.not_not.mp c_148)
                    refine ml_blk 3 (S' := (154, [(0, .ref m0), (1, .int i22_1), (2, .int (f2 f fA)), (3, .int 0), (4, .int i22_4), (5, .int (f2 f i22_1))], [.ref m0, .ref m0, .ref m0], M_22)) rfl ?_
                    refine ml_blk 3 (S' := (157, [(0, .ref m0), (1, .int i22_1), (2, .int (f2 f fA)), (3, .int 0), (4, .int i22_4), (5, .int (f2 f i22_1))], [.int (i22_1 + 4), .ref m0, .ref m0, .ref m0], M_22)) rfl ?_
                    refine ml_call (a := [.ref m0, .int (i22_1 + 4)]) (rest := [.ref m0, .ref m0]) rfl (hR_22.okc rfl rfl rfl) rfl rfl (rm_u2 hR_22 hF14 (by omega) (by omega) (by omega)) (fun v81 M82 h83 => ?_)
                    obtain ⟨rfl, h83⟩ := h83
                    rw [h83]
                    show ml _ _ _ (160, [(0, .ref m0), (1, .int i22_1), (2, .int (f2 f fA)), (3, .int 0), (4, .int i22_4), (5, .int (f2 f i22_1))], [.int (f2 f (i22_1 + 4)), .ref m0, .ref m0], M_22) _
                    refine ml_call (a := [.ref m0, .int (f2 f (i22_1 + 4))]) (rest := [.ref m0]) rfl (hR_22.okc rfl rfl rfl) rfl rfl (rm_symOf hR_22 hP37 (Decidable.not_not.mp c_148) (by omega)) (fun v84 M85 h86 => ?_)
                    obtain ⟨rfl, h86⟩ := h86
                    rw [h86]
                    show ml _ _ _ (163, [(0, .ref m0), (1, .int i22_1), (2, .int (f2 f fA)), (3, .int 0), (4, .int i22_4), (5, .int (f2 f i22_1))], [.int (pyf py (f2 f (i22_1 + 4))), .ref m0], M_22) _
                    refine ml_call (a := [.ref m0, .int (pyf py (f2 f (i22_1 + 4)))]) (rest := []) rfl (hR_22.okc rfl rfl rfl) rfl rfl (rm_isField hR_22 hY58 (hyB.2.2.1) (hyB.2.2.2) (by omega)) (fun v87 M88 h89 => ?_)
                    obtain ⟨⟨u90, rfl, z91, w92⟩, h89⟩ := h89
                    rw [h89]
                    show ml _ _ _ (166, [(0, .ref m0), (1, .int i22_1), (2, .int (f2 f fA)), (3, .int 0), (4, .int i22_4), (5, .int (f2 f i22_1))], [.int u90], M_22) _
                    refine ml_if (S1 := (179, [(0, .ref m0), (1, .int i22_1), (2, .int (f2 f fA)), (3, .int 0), (4, .int i22_4), (5, .int (f2 f i22_1))], [], M_22)) (S2 := (169, [(0, .ref m0), (1, .int i22_1)], [], M_22)) rfl rfl rfl (fun c_166 => ?_) (fun c_166 => ?_)
                    · have c_166 : ¬ u90 = 0 := of_decide_eq_true c_166
                      have hlnB := w92.resolve_left c_166
                      refine ml_st (S' := (180, [(0, .ref m0), (1, .int i22_1), (2, .int (f2 f fA)), (3, .int 0), (4, .int i22_4), (5, .int (f2 f i22_1))], [.ref m0], M_22)) rfl rfl rfl ?_
                      refine rg_int (S' := (183, [(0, .ref m0), (1, .int i22_1), (2, .int (f2 f fA)), (3, .int 0), (4, .int i22_4), (5, .int (f2 f i22_1))], [.int i22_4], M_22)) rfl hR_22 rfl (h25) rfl ?_
                      refine ml_st (S' := (185, [(6, .int i22_4), (0, .ref m0), (1, .int i22_1), (2, .int (f2 f fA)), (3, .int 0), (4, .int i22_4), (5, .int (f2 f i22_1))], [], M_22)) rfl rfl rfl ?_
                      refine ml_st (S' := (186, [(6, .int i22_4), (0, .ref m0), (1, .int i22_1), (2, .int (f2 f fA)), (3, .int 0), (4, .int i22_4), (5, .int (f2 f i22_1))], [.ref m0], M_22)) rfl rfl rfl ?_
                      refine rg_ref (S' := (189, [(6, .int i22_4), (0, .ref m0), (1, .int i22_1), (2, .int (f2 f fA)), (3, .int 0), (4, .int i22_4), (5, .int (f2 f i22_1))], [.ref (q 27)], M_22)) rfl hR_22 rfl rfl ?_
                      refine ml_blk 2 (S' := (193, [(6, .int i22_4), (0, .ref m0), (1, .int i22_1), (2, .int (f2 f fA)), (3, .int 0), (4, .int i22_4), (5, .int (f2 f i22_1))], [.int (f2 f i22_1), .int i22_4, .ref (q 27)], M_22)) rfl ?_
                      refine ra_st (k := 27) rfl hR_22 rfl (vin_lt hk0 (by omega)) (fun M93 R94 hR95 e96 g97 f98 => ?_)
                      show ml _ _ _ (194, [(6, .int i22_4), (0, .ref m0), (1, .int i22_1), (2, .int (f2 f fA)), (3, .int 0), (4, .int i22_4), (5, .int (f2 f i22_1))], [], M93) _
                      refine ml_st (S' := (195, [(6, .int i22_4), (0, .ref m0), (1, .int i22_1), (2, .int (f2 f fA)), (3, .int 0), (4, .int i22_4), (5, .int (f2 f i22_1))], [.ref m0], M93)) rfl rfl rfl ?_
                      refine rg_ref (S' := (198, [(6, .int i22_4), (0, .ref m0), (1, .int i22_1), (2, .int (f2 f fA)), (3, .int 0), (4, .int i22_4), (5, .int (f2 f i22_1))], [.ref (q 28)], M93)) rfl hR95 rfl rfl ?_
                      refine ml_blk 3 (S' := (202, [(6, .int i22_4), (0, .ref m0), (1, .int i22_1), (2, .int (f2 f fA)), (3, .int 0), (4, .int i22_4), (5, .int (f2 f i22_1))], [.ref m0, .ref m0, .int i22_4, .ref (q 28)], M93)) rfl ?_
                      refine ml_blk 3 (S' := (205, [(6, .int i22_4), (0, .ref m0), (1, .int i22_1), (2, .int (f2 f fA)), (3, .int 0), (4, .int i22_4), (5, .int (f2 f i22_1))], [.int (i22_1 + 2), .ref m0, .ref m0, .int i22_4, .ref (q 28)], M93)) rfl ?_
                      have hF99 : FK n f I_22 R94 := (hF14.mono (fun _ _ => rfl) (pRx f98 (by decide)))
                      refine ml_call (a := [.ref m0, .int (i22_1 + 2)]) (rest := [.ref m0, .int i22_4, .ref (q 28)]) rfl (hR95.okc rfl rfl rfl) rfl rfl (rm_u2 hR95 hF99 (by omega) (by omega) (by omega)) (fun v100 M101 h102 => ?_)
                      obtain ⟨rfl, h102⟩ := h102
                      rw [h102]
                      show ml _ _ _ (208, [(6, .int i22_4), (0, .ref m0), (1, .int i22_1), (2, .int (f2 f fA)), (3, .int 0), (4, .int i22_4), (5, .int (f2 f i22_1))], [.int (f2 f (i22_1 + 2)), .ref m0, .int i22_4, .ref (q 28)], M93) _
                      have hP103 : PK n f S cp mj pa py I_22 R94 := (hP37.mono (fun _ _ => rfl) (pRx f98 (by decide)))
                      refine ml_call (a := [.ref m0, .int (f2 f (i22_1 + 2))]) (rest := [.int i22_4, .ref (q 28)]) rfl (hR95.okc rfl rfl rfl) rfl rfl (rm_symOf hR95 hP103 (Decidable.not_not.mp c_104) (by omega)) (fun v104 M105 h106 => ?_)
                      obtain ⟨rfl, h106⟩ := h106
                      rw [h106]
                      show ml _ _ _ (211, [(6, .int i22_4), (0, .ref m0), (1, .int i22_1), (2, .int (f2 f fA)), (3, .int 0), (4, .int i22_4), (5, .int (f2 f i22_1))], [.int (pyf py (f2 f (i22_1 + 2))), .int i22_4, .ref (q 28)], M93) _
                      refine ra_st (k := 28) rfl hR95 rfl (vin_lt hk0 (by omega)) (fun M107 R108 hR109 e110 g111 f112 => ?_)
                      show ml _ _ _ (212, [(6, .int i22_4), (0, .ref m0), (1, .int i22_1), (2, .int (f2 f fA)), (3, .int 0), (4, .int i22_4), (5, .int (f2 f i22_1))], [], M107) _
                      refine ml_st (S' := (213, [(6, .int i22_4), (0, .ref m0), (1, .int i22_1), (2, .int (f2 f fA)), (3, .int 0), (4, .int i22_4), (5, .int (f2 f i22_1))], [.ref m0], M107)) rfl rfl rfl ?_
                      refine rg_ref (S' := (216, [(6, .int i22_4), (0, .ref m0), (1, .int i22_1), (2, .int (f2 f fA)), (3, .int 0), (4, .int i22_4), (5, .int (f2 f i22_1))], [.ref (q 29)], M107)) rfl hR109 rfl rfl ?_
                      refine ml_blk 3 (S' := (220, [(6, .int i22_4), (0, .ref m0), (1, .int i22_1), (2, .int (f2 f fA)), (3, .int 0), (4, .int i22_4), (5, .int (f2 f i22_1))], [.ref m0, .ref m0, .int i22_4, .ref (q 29)], M107)) rfl ?_
                      refine ml_blk 3 (S' := (223, [(6, .int i22_4), (0, .ref m0), (1, .int i22_1), (2, .int (f2 f fA)), (3, .int 0), (4, .int i22_4), (5, .int (f2 f i22_1))], [.int (i22_1 + 4), .ref m0, .ref m0, .int i22_4, .ref (q 29)], M107)) rfl ?_
                      have hF113 : FK n f I_22 R108 := (hF99.mono (fun _ _ => rfl) (pRx f112 (by decide)))
                      refine ml_call (a := [.ref m0, .int (i22_1 + 4)]) (rest := [.ref m0, .int i22_4, .ref (q 29)]) rfl (hR109.okc rfl rfl rfl) rfl rfl (rm_u2 hR109 hF113 (by omega) (by omega) (by omega)) (fun v114 M115 h116 => ?_)
                      obtain ⟨rfl, h116⟩ := h116
                      rw [h116]
                      show ml _ _ _ (226, [(6, .int i22_4), (0, .ref m0), (1, .int i22_1), (2, .int (f2 f fA)), (3, .int 0), (4, .int i22_4), (5, .int (f2 f i22_1))], [.int (f2 f (i22_1 + 4)), .ref m0, .int i22_4, .ref (q 29)], M107) _
                      have hP117 : PK n f S cp mj pa py I_22 R108 := (hP103.mono (fun _ _ => rfl) (pRx f112 (by decide)))
                      refine ml_call (a := [.ref m0, .int (f2 f (i22_1 + 4))]) (rest := [.int i22_4, .ref (q 29)]) rfl (hR109.okc rfl rfl rfl) rfl rfl (rm_symOf hR109 hP117 (Decidable.not_not.mp c_148) (by omega)) (fun v118 M119 h120 => ?_)
                      obtain ⟨rfl, h120⟩ := h120
                      rw [h120]
                      show ml _ _ _ (229, [(6, .int i22_4), (0, .ref m0), (1, .int i22_1), (2, .int (f2 f fA)), (3, .int 0), (4, .int i22_4), (5, .int (f2 f i22_1))], [.int (pyf py (f2 f (i22_1 + 4))), .int i22_4, .ref (q 29)], M107) _
                      refine ra_st (k := 29) rfl hR109 rfl (vin_lt hk0 (by omega)) (fun M121 R122 hR123 e124 g125 f126 => ?_)
                      show ml _ _ _ (230, [(6, .int i22_4), (0, .ref m0), (1, .int i22_1), (2, .int (f2 f fA)), (3, .int 0), (4, .int i22_4), (5, .int (f2 f i22_1))], [], M121) _
                      refine ml_st (S' := (231, [(6, .int i22_4), (0, .ref m0), (1, .int i22_1), (2, .int (f2 f fA)), (3, .int 0), (4, .int i22_4), (5, .int (f2 f i22_1))], [.ref m0], M121)) rfl rfl rfl ?_
                      refine rg_ref (S' := (234, [(6, .int i22_4), (0, .ref m0), (1, .int i22_1), (2, .int (f2 f fA)), (3, .int 0), (4, .int i22_4), (5, .int (f2 f i22_1))], [.ref (q 30)], M121)) rfl hR123 rfl rfl ?_
                      refine ml_blk 2 (S' := (237, [(6, .int i22_4), (0, .ref m0), (1, .int i22_1), (2, .int (f2 f fA)), (3, .int 0), (4, .int i22_4), (5, .int (f2 f i22_1))], [.int 0, .int i22_4, .ref (q 30)], M121)) rfl ?_
                      refine ra_st (k := 30) rfl hR123 rfl (vin_lt hk0 (by omega)) (fun M127 R128 hR129 e130 g131 f132 => ?_)
                      show ml _ _ _ (238, [(6, .int i22_4), (0, .ref m0), (1, .int i22_1), (2, .int (f2 f fA)), (3, .int 0), (4, .int i22_4), (5, .int (f2 f i22_1))], [], M127) _
                      refine ml_st (S' := (239, [(6, .int i22_4), (0, .ref m0), (1, .int i22_1), (2, .int (f2 f fA)), (3, .int 0), (4, .int i22_4), (5, .int (f2 f i22_1))], [.ref m0], M127)) rfl rfl rfl ?_
                      refine rg_ref (S' := (242, [(6, .int i22_4), (0, .ref m0), (1, .int i22_1), (2, .int (f2 f fA)), (3, .int 0), (4, .int i22_4), (5, .int (f2 f i22_1))], [.ref (q 31)], M127)) rfl hR129 rfl rfl ?_
                      refine ml_blk 2 (S' := (245, [(6, .int i22_4), (0, .ref m0), (1, .int i22_1), (2, .int (f2 f fA)), (3, .int 0), (4, .int i22_4), (5, .int (f2 f i22_1))], [.int 0, .int i22_4, .ref (q 31)], M127)) rfl ?_
                      refine ra_st (k := 31) rfl hR129 rfl (vin_lt hk0 (by omega)) (fun M133 R134 hR135 e136 g137 f138 => ?_)
                      show ml _ _ _ (246, [(6, .int i22_4), (0, .ref m0), (1, .int i22_1), (2, .int (f2 f fA)), (3, .int 0), (4, .int i22_4), (5, .int (f2 f i22_1))], [], M133) _
                      refine ml_st (S' := (247, [(6, .int i22_4), (0, .ref m0), (1, .int i22_1), (2, .int (f2 f fA)), (3, .int 0), (4, .int i22_4), (5, .int (f2 f i22_1))], [.ref m0], M133)) rfl rfl rfl ?_
                      refine rg_ref (S' := (250, [(6, .int i22_4), (0, .ref m0), (1, .int i22_1), (2, .int (f2 f fA)), (3, .int 0), (4, .int i22_4), (5, .int (f2 f i22_1))], [.ref (q 32)], M133)) rfl hR135 rfl rfl ?_
                      refine ml_blk 3 (S' := (254, [(6, .int i22_4), (0, .ref m0), (1, .int i22_1), (2, .int (f2 f fA)), (3, .int 0), (4, .int i22_4), (5, .int (f2 f i22_1))], [.int i22_1, .ref m0, .int i22_4, .ref (q 32)], M133)) rfl ?_
                      refine ml_blk 2 (S' := (256, [(6, .int i22_4), (0, .ref m0), (1, .int i22_1), (2, .int (f2 f fA)), (3, .int 0), (4, .int i22_4), (5, .int (f2 f i22_1))], [.int (i22_1 + 2), .ref m0, .int i22_4, .ref (q 32)], M133)) rfl ?_
                      have hF139 : FK n f I_22 R134 := (((hF113.mono (fun _ _ => rfl) (pRx f126 (by decide))).mono (fun _ _ => rfl) (pRx f132 (by decide))).mono (fun _ _ => rfl) (pRx f138 (by decide)))
                      refine ml_call (a := [.ref m0, .int (i22_1 + 2)]) (rest := [.int i22_4, .ref (q 32)]) rfl (hR135.okc rfl rfl rfl) rfl rfl (rm_u2 hR135 hF139 (by omega) (by omega) (by omega)) (fun v140 M141 h142 => ?_)
                      obtain ⟨rfl, h142⟩ := h142
                      rw [h142]
                      show ml _ _ _ (259, [(6, .int i22_4), (0, .ref m0), (1, .int i22_1), (2, .int (f2 f fA)), (3, .int 0), (4, .int i22_4), (5, .int (f2 f i22_1))], [.int (f2 f (i22_1 + 2)), .int i22_4, .ref (q 32)], M133) _
                      refine ra_st (k := 32) rfl hR135 rfl (vin_lt hk0 (by omega)) (fun M143 R144 hR145 e146 g147 f148 => ?_)
                      show ml _ _ _ (260, [(6, .int i22_4), (0, .ref m0), (1, .int i22_1), (2, .int (f2 f fA)), (3, .int 0), (4, .int i22_4), (5, .int (f2 f i22_1))], [], M143) _
                      refine ml_st (S' := (261, [(6, .int i22_4), (0, .ref m0), (1, .int i22_1), (2, .int (f2 f fA)), (3, .int 0), (4, .int i22_4), (5, .int (f2 f i22_1))], [.ref m0], M143)) rfl rfl rfl ?_
                      refine rg_ref (S' := (264, [(6, .int i22_4), (0, .ref m0), (1, .int i22_1), (2, .int (f2 f fA)), (3, .int 0), (4, .int i22_4), (5, .int (f2 f i22_1))], [.ref (q 33)], M143)) rfl hR145 rfl rfl ?_
                      refine ml_blk 3 (S' := (268, [(6, .int i22_4), (0, .ref m0), (1, .int i22_1), (2, .int (f2 f fA)), (3, .int 0), (4, .int i22_4), (5, .int (f2 f i22_1))], [.int i22_1, .ref m0, .int i22_4, .ref (q 33)], M143)) rfl ?_
                      refine ml_blk 2 (S' := (270, [(6, .int i22_4), (0, .ref m0), (1, .int i22_1), (2, .int (f2 f fA)), (3, .int 0), (4, .int i22_4), (5, .int (f2 f i22_1))], [.int (i22_1 + 4), .ref m0, .int i22_4, .ref (q 33)], M143)) rfl ?_
                      have hF149 : FK n f I_22 R144 := (hF139.mono (fun _ _ => rfl) (pRx f148 (by decide)))
                      refine ml_call (a := [.ref m0, .int (i22_1 + 4)]) (rest := [.int i22_4, .ref (q 33)]) rfl (hR145.okc rfl rfl rfl) rfl rfl (rm_u2 hR145 hF149 (by omega) (by omega) (by omega)) (fun v150 M151 h152 => ?_)
                      obtain ⟨rfl, h152⟩ := h152
                      rw [h152]
                      show ml _ _ _ (273, [(6, .int i22_4), (0, .ref m0), (1, .int i22_1), (2, .int (f2 f fA)), (3, .int 0), (4, .int i22_4), (5, .int (f2 f i22_1))], [.int (f2 f (i22_1 + 4)), .int i22_4, .ref (q 33)], M143) _
                      refine ra_st (k := 33) rfl hR145 rfl (vin_lt hk0 (by omega)) (fun M153 R154 hR155 e156 g157 f158 => ?_)
                      show ml _ _ _ (274, [(6, .int i22_4), (0, .ref m0), (1, .int i22_1), (2, .int (f2 f fA)), (3, .int 0), (4, .int i22_4), (5, .int (f2 f i22_1))], [], M153) _
                      refine ml_st (S' := (275, [(6, .int i22_4), (0, .ref m0), (1, .int i22_1), (2, .int (f2 f fA)), (3, .int 0), (4, .int i22_4), (5, .int (f2 f i22_1))], [.int 0], M153)) rfl rfl rfl ?_
                      refine ml_st (S' := (277, [(0, .ref m0), (1, .int i22_1), (2, .int (f2 f fA)), (3, .int 0), (4, .int i22_4), (6, .int i22_4), (7, .int 0)], [], M153)) rfl rfl rfl ?_
                      have L_277 : ∀ (n_277 : Nat) (i277_7 : Int32), (2147483648 - i277_7.toInt).toNat ≤ n_277 → 0 ≤ i277_7.toInt → ml (mT g) d (mb_189 g).2 (277, [(0, .ref m0), (1, .int i22_1), (2, .int (f2 f fA)), (3, .int 0), (4, .int i22_4), (6, .int i22_4), (7, .int i277_7)], [], M153) (fun v M' => ∃ (x : Int32) (I' : rI) (R' : rR), v = some (.int x) ∧ RS g m0 q z I' R' M' ∧ eqI [25, 47, 48] I I' ∧ eqR [27, 28, 29, 30, 31, 32, 33] R R' ∧ (x = 0 ∨ x = 1) ∧ (x = 0 ∨ ∃ k : Nat, k ≤ 8192 ∧ I' 25 = some (nI k) ∧ FKN k R')) := by
                        intro n_277
                        induction n_277 with
                        | zero => intro i277_7 hn; exact (loop_zero hn).elim
                        | succ n_277 ih_277 =>
                          intro i277_7 hn_277 hi_277
                          have hq0 := hi_277
                          refine ml_blk 2 (S' := (281, [(0, .ref m0), (1, .int i22_1), (2, .int (f2 f fA)), (3, .int 0), (4, .int i22_4), (6, .int i22_4), (7, .int i277_7)], [.int i22_4, .int i277_7], M153)) rfl ?_
                          refine ml_if2 (S1 := (332, [(0, .ref m0), (1, .int i22_1), (2, .int (f2 f fA)), (3, .int 0), (4, .int i22_4), (6, .int i22_4), (7, .int i277_7)], [], M153)) (S2 := (284, [(0, .ref m0), (1, .int i22_1), (2, .int (f2 f fA)), (3, .int 0), (4, .int i22_4), (6, .int i22_4), (7, .int i277_7)], [], M153)) rfl rfl rfl (fun c_281 => ?_) (fun c_281 => ?_)
                          · have c_281 : i22_4 ≤ i277_7 := of_decide_eq_true c_281
                            refine ml_blk 2 (S' := (334, [(0, .ref m0), (1, .int i22_1), (2, .int (f2 f fA)), (3, .int 0), (4, .int i22_4), (6, .int i22_4), (7, .int i277_7)], [.ref m0, .ref m0], M153)) rfl ?_
                            refine rg_int (S' := (337, [(0, .ref m0), (1, .int i22_1), (2, .int (f2 f fA)), (3, .int 0), (4, .int i22_4), (6, .int i22_4), (7, .int i277_7)], [.int i22_4, .ref m0], M153)) rfl hR155 rfl (h25) rfl ?_
                            refine ml_blk 2 (S' := (339, [(0, .ref m0), (1, .int i22_1), (2, .int (f2 f fA)), (3, .int 0), (4, .int i22_4), (6, .int i22_4), (7, .int i277_7)], [.int (i22_4 + 1), .ref m0], M153)) rfl ?_
                            refine rp_int rfl hR155 rfl (fun M159 I160 hR161 e162 f163 => ?_)
                            show ml _ _ _ (342, [(0, .ref m0), (1, .int i22_1), (2, .int (f2 f fA)), (3, .int 0), (4, .int i22_4), (6, .int i22_4), (7, .int i277_7)], [], M159) _
                            refine ml_blk 3 (S' := (346, [(0, .ref m0), (1, .int i22_1), (2, .int (f2 f fA)), (3, .int 0), (4, .int i22_4), (6, .int i22_4), (7, .int i277_7)], [.int 6, .int i22_1, .ref m0], M159)) rfl ?_
                            refine ml_blk 3 (S' := (350, [(0, .ref m0), (1, .int i22_1), (2, .int (f2 f fA)), (3, .int 0), (4, .int i22_4), (6, .int i22_4), (7, .int i277_7)], [.int i22_4, .int 1, .int (i22_1 + 6), .ref m0], M159)) rfl ?_
                            have hF164 : FK n f I160 R154 := ((hF149.mono (fun _ _ => rfl) (pRx f158 (by decide))).mono (pIx f163 (by decide)) (fun _ _ => rfl))
                            have hY165 : SK S cN sa sl ch I160 R154 := ((((((((hY58.mono (fun _ _ => rfl) (pRx f98 (by decide))).mono (fun _ _ => rfl) (pRx f112 (by decide))).mono (fun _ _ => rfl) (pRx f126 (by decide))).mono (fun _ _ => rfl) (pRx f132 (by decide))).mono (fun _ _ => rfl) (pRx f138 (by decide))).mono (fun _ _ => rfl) (pRx f148 (by decide))).mono (fun _ _ => rfl) (pRx f158 (by decide))).mono (pIx f163 (by decide)) (fun _ _ => rfl))
                            have hP166 : PK n f S cp mj pa py I160 R154 := ((((((hP117.mono (fun _ _ => rfl) (pRx f126 (by decide))).mono (fun _ _ => rfl) (pRx f132 (by decide))).mono (fun _ _ => rfl) (pRx f138 (by decide))).mono (fun _ _ => rfl) (pRx f148 (by decide))).mono (fun _ _ => rfl) (pRx f158 (by decide))).mono (pIx f163 (by decide)) (fun _ _ => rfl))
                            have hK167 : KW I160 R154 := (((((((((hK.mono (cIx hI_22 (by decide)) (cRx hV_22 (by decide))).mono (fun _ _ => rfl) (pRx f98 (by decide))).mono (fun _ _ => rfl) (pRx f112 (by decide))).mono (fun _ _ => rfl) (pRx f126 (by decide))).mono (fun _ _ => rfl) (pRx f132 (by decide))).mono (fun _ _ => rfl) (pRx f138 (by decide))).mono (fun _ _ => rfl) (pRx f148 (by decide))).mono (fun _ _ => rfl) (pRx f158 (by decide))).mono (pIx f163 (by decide)) (fun _ _ => rfl))
                            refine ml_call (a := [.ref m0, .int (i22_1 + 6), .int 1, .int i22_4]) (rest := []) rfl (hR161.okc rfl rfl rfl) rfl rfl (rm_checkAttributes1 hR161 hF164 hY165 hP166 hK167 (rfl) (g2) (hk0) (hk8) ((congrFun ((f158 27 (by decide)).trans ((f148 27 (by decide)).trans ((f138 27 (by decide)).trans ((f132 27 (by decide)).trans ((f126 27 (by decide)).trans ((f112 27 (by decide)))))))) _).trans e96) ((congrFun ((f158 29 (by decide)).trans ((f148 29 (by decide)).trans ((f138 29 (by decide)).trans ((f132 29 (by decide)))))) _).trans e124) (hyB.2.2.1) (hyB.2.2.2) (hlnB) (fun k hk => by simp only [List.mem_cons, List.not_mem_nil, or_false] at hk; rcases hk with rfl | rfl; exact ⟨_, (congrFun ((f158 30 (by decide)).trans ((f148 30 (by decide)).trans ((f138 30 (by decide))))) _).trans e130⟩; exact ⟨_, (congrFun ((f158 31 (by decide)).trans ((f148 31 (by decide)))) _).trans e136⟩) (by omega)) (fun v168 M169 h170 => ?_)
                            obtain ⟨u176, I171, R172, rfl, hR173, hI174, hV175, w177⟩ := h170
                            show ml _ _ _ (353, [(0, .ref m0), (1, .int i22_1), (2, .int (f2 f fA)), (3, .int 0), (4, .int i22_4), (6, .int i22_4), (7, .int i277_7)], [.int u176], M169) _
                            obtain ⟨hend, hpw9, hkn9⟩ := w177
                            refine ml_st (S' := (354, [(1, .int u176), (0, .ref m0), (2, .int (f2 f fA)), (3, .int 0), (4, .int i22_4), (6, .int i22_4), (7, .int i277_7)], [], M169)) rfl rfl rfl ?_
                            refine ml_st (S' := (355, [(1, .int u176), (0, .ref m0), (2, .int (f2 f fA)), (3, .int 0), (4, .int i22_4), (6, .int i22_4), (7, .int i277_7)], [.int u176], M169)) rfl rfl rfl ?_
                            refine ml_if (S1 := (360, [(1, .int u176), (0, .ref m0), (2, .int (f2 f fA)), (3, .int 0), (4, .int i22_4), (6, .int i22_4), (7, .int i277_7)], [], M169)) (S2 := (358, [(1, .int u176), (0, .ref m0), (2, .int (f2 f fA)), (3, .int 0), (4, .int i22_4), (6, .int i22_4), (7, .int i277_7)], [], M169)) rfl rfl rfl (fun c_355 => ?_) (fun c_355 => ?_)
                            · have c_355 : 0 ≤ u176 := of_decide_eq_true c_355
                              have hub : u176 = b1 := hend.resolve_left (fun q => by have := i_le c_355; have : (0 : Int32).toInt = 0 := rfl; omega)
                              have hfk2 : FKN (i22_4.toInt.toNat + 1) R172 := FKN.step (k := i22_4.toInt.toNat) hfk ((((((((pw.rf.st g97 f98 rfl).st g111 f112 rfl).st g125 f126 rfl).st g131 f132 rfl).st g137 f138 rfl).st g147 f148 rfl).st g157 f158 rfl).tr hpw9) (fun k hk => by simp only [List.mem_cons, List.not_mem_nil, or_false] at hk; rcases hk with rfl | rfl | rfl | rfl | rfl | rfl | rfl; exact ⟨_, (congrFun ((hV175 27 (by decide)).trans ((f158 27 (by decide)).trans ((f148 27 (by decide)).trans ((f138 27 (by decide)).trans ((f132 27 (by decide)).trans ((f126 27 (by decide)).trans ((f112 27 (by decide))))))))) _).trans e96⟩; exact ⟨_, (congrFun ((hV175 28 (by decide)).trans ((f158 28 (by decide)).trans ((f148 28 (by decide)).trans ((f138 28 (by decide)).trans ((f132 28 (by decide)).trans ((f126 28 (by decide)))))))) _).trans e110⟩; exact ⟨_, (congrFun ((hV175 29 (by decide)).trans ((f158 29 (by decide)).trans ((f148 29 (by decide)).trans ((f138 29 (by decide)).trans ((f132 29 (by decide))))))) _).trans e124⟩; exact hkn9 30 (by decide); exact hkn9 31 (by decide); exact ⟨_, (congrFun ((hV175 32 (by decide)).trans ((f158 32 (by decide)))) _).trans e146⟩; exact ⟨_, (congrFun ((hV175 33 (by decide))) _).trans e156⟩)
                              refine ml_st (S' := (363, [(4, .int (i22_4 + 1)), (1, .int u176), (0, .ref m0), (2, .int (f2 f fA)), (3, .int 0), (6, .int i22_4), (7, .int i277_7)], [], M169)) rfl rfl rfl ?_
                              refine ml_st (S' := (22, [(0, .ref m0), (1, .int u176), (2, .int (f2 f fA)), (3, .int 0), (4, .int (i22_4 + 1))], [], M169)) rfl rfl rfl ?_
                              exact ih_22 u176 (i22_4 + 1) _ _ _ (loop_inc (Int32.not_le.mp c_25) hn_22) hR173 (((eqI.rf.tr hI_22 (by decide)).put f163 (by decide)).tr hI174 (by decide)) (((((((((eqR.rf.tr hV_22 (by decide)).put f98 (by decide)).put f112 (by decide)).put f126 (by decide)).put f132 (by decide)).put f138 (by decide)).put f148 (by decide)).put f158 (by decide)).tr hV175 (by decide)) (⟨by rw [inc_lt (Int32.not_le.mp c_25)]; omega, by rw [inc_lt (Int32.not_le.mp c_25)]; omega, (hI174 25 (by decide)).trans (e162), by rw [hub]; exact hnx, by rw [hub, inc_lt (Int32.not_le.mp c_25)]; have q := hg.1; omega, by rw [show (i22_4 + 1).toInt.toNat = i22_4.toInt.toNat + 1 by rw [inc_lt (Int32.not_le.mp c_25)]; omega]; exact hfk2⟩)
                            · have c_355 : ¬ (0 ≤ u176) := of_decide_eq_false c_355
                              refine ml_st (S' := (359, [(1, .int u176), (0, .ref m0), (2, .int (f2 f fA)), (3, .int 0), (4, .int i22_4), (6, .int i22_4), (7, .int i277_7)], [.int 0], M169)) rfl rfl rfl ?_
                              exact ml_ret rfl (r_z (Or.inl rfl)) (⟨_, _, _, rfl, hR173, (((eqI.rf.tr hI_22 (by decide)).put f163 (by decide)).tr hI174 (by decide)), (((((((((eqR.rf.tr hV_22 (by decide)).put f98 (by decide)).put f112 (by decide)).put f126 (by decide)).put f132 (by decide)).put f138 (by decide)).put f148 (by decide)).put f158 (by decide)).tr hV175 (by decide)), Or.inl rfl, Or.inl rfl⟩)
                          · have c_281 : ¬ (i22_4 ≤ i277_7) := of_decide_eq_false c_281
                            have hql := i_nle c_281
                            refine ml_st (S' := (285, [(0, .ref m0), (1, .int i22_1), (2, .int (f2 f fA)), (3, .int 0), (4, .int i22_4), (6, .int i22_4), (7, .int i277_7)], [.ref m0], M153)) rfl rfl rfl ?_
                            refine rg_ref (S' := (288, [(0, .ref m0), (1, .int i22_1), (2, .int (f2 f fA)), (3, .int 0), (4, .int i22_4), (6, .int i22_4), (7, .int i277_7)], [.ref (q 28)], M153)) rfl hR155 rfl rfl ?_
                            refine ml_st (S' := (290, [(0, .ref m0), (1, .int i22_1), (2, .int (f2 f fA)), (3, .int 0), (4, .int i22_4), (6, .int i22_4), (7, .int i277_7)], [.int i277_7, .ref (q 28)], M153)) rfl rfl rfl ?_
                            obtain ⟨v178, hv179⟩ := hfk i277_7.toNatClampNeg (by show i277_7.toInt.toNat < i22_4.toInt.toNat; omega) 28 (by decide)
                            have q180 : pw i22_4.toNatClampNeg R_22 R154 := (((((((pw.rf.st g97 f98 rfl).st g111 f112 rfl).st g125 f126 rfl).st g131 f132 rfl).st g137 f138 rfl).st g147 f148 rfl).st g157 f158 rfl)
                            refine ra_ld (k := 28) (S' := (291, [(0, .ref m0), (1, .int i22_1), (2, .int (f2 f fA)), (3, .int 0), (4, .int i22_4), (6, .int i22_4), (7, .int i277_7)], [.int v178], M153)) rfl hR155 rfl (vin_lt hq0 (by omega)) ((q180 28 _ (by show i277_7.toInt.toNat ≠ i22_4.toInt.toNat; omega)).trans hv179) rfl ?_
                            refine ml_st (S' := (292, [(0, .ref m0), (1, .int i22_1), (2, .int (f2 f fA)), (3, .int 0), (4, .int i22_4), (6, .int i22_4), (7, .int i277_7)], [.ref m0, .int v178], M153)) rfl rfl rfl ?_
                            refine rg_ref (S' := (295, [(0, .ref m0), (1, .int i22_1), (2, .int (f2 f fA)), (3, .int 0), (4, .int i22_4), (6, .int i22_4), (7, .int i277_7)], [.ref (q 28), .int v178], M153)) rfl hR155 rfl rfl ?_
                            refine ml_st (S' := (297, [(0, .ref m0), (1, .int i22_1), (2, .int (f2 f fA)), (3, .int 0), (4, .int i22_4), (6, .int i22_4), (7, .int i277_7)], [.int i22_4, .ref (q 28), .int v178], M153)) rfl rfl rfl ?_
                            refine ra_ld (k := 28) (S' := (298, [(0, .ref m0), (1, .int i22_1), (2, .int (f2 f fA)), (3, .int 0), (4, .int i22_4), (6, .int i22_4), (7, .int i277_7)], [.int (pyf py (f2 f (i22_1 + 2))), .int v178], M153)) rfl hR155 rfl (vin_lt hk0 (by omega)) ((congrFun ((f158 28 (by decide)).trans ((f148 28 (by decide)).trans ((f138 28 (by decide)).trans ((f132 28 (by decide)).trans ((f126 28 (by decide))))))) _).trans e110) rfl ?_
                            refine ml_if2 (S1 := (326, [(0, .ref m0), (1, .int i22_1), (2, .int (f2 f fA)), (3, .int 0), (4, .int i22_4), (6, .int i22_4), (7, .int i277_7)], [], M153)) (S2 := (301, [(0, .ref m0), (1, .int i22_1), (2, .int (f2 f fA)), (3, .int 0), (4, .int i22_4), (6, .int i22_4), (7, .int i277_7)], [], M153)) rfl rfl rfl (fun c_298 => ?_) (fun c_298 => ?_)
                            · have c_298 : ¬ v178 = (pyf py (f2 f (i22_1 + 2))) := of_decide_eq_true c_298
                              refine ml_st (S' := (329, [(7, .int (i277_7 + 1)), (0, .ref m0), (1, .int i22_1), (2, .int (f2 f fA)), (3, .int 0), (4, .int i22_4), (6, .int i22_4)], [], M153)) rfl rfl rfl ?_
                              refine ml_st (S' := (277, [(0, .ref m0), (1, .int i22_1), (2, .int (f2 f fA)), (3, .int 0), (4, .int i22_4), (6, .int i22_4), (7, .int (i277_7 + 1))], [], M153)) rfl rfl rfl ?_
                              exact ih_277 (i277_7 + 1) (loop_inc (Int32.not_le.mp c_281) hn_277) (by rw [inc_lt (Int32.not_le.mp c_281)]; omega)
                            · have c_298 : ¬ (¬ v178 = (pyf py (f2 f (i22_1 + 2)))) := of_decide_eq_false c_298
                              refine ml_st (S' := (302, [(0, .ref m0), (1, .int i22_1), (2, .int (f2 f fA)), (3, .int 0), (4, .int i22_4), (6, .int i22_4), (7, .int i277_7)], [.ref m0], M153)) rfl rfl rfl ?_
                              refine rg_ref (S' := (305, [(0, .ref m0), (1, .int i22_1), (2, .int (f2 f fA)), (3, .int 0), (4, .int i22_4), (6, .int i22_4), (7, .int i277_7)], [.ref (q 29)], M153)) rfl hR155 rfl rfl ?_
                              refine ml_st (S' := (307, [(0, .ref m0), (1, .int i22_1), (2, .int (f2 f fA)), (3, .int 0), (4, .int i22_4), (6, .int i22_4), (7, .int i277_7)], [.int i277_7, .ref (q 29)], M153)) rfl rfl rfl ?_
                              obtain ⟨v181, hv182⟩ := hfk i277_7.toNatClampNeg (by show i277_7.toInt.toNat < i22_4.toInt.toNat; omega) 29 (by decide)
                              have q183 : pw i22_4.toNatClampNeg R_22 R154 := (((((((pw.rf.st g97 f98 rfl).st g111 f112 rfl).st g125 f126 rfl).st g131 f132 rfl).st g137 f138 rfl).st g147 f148 rfl).st g157 f158 rfl)
                              refine ra_ld (k := 29) (S' := (308, [(0, .ref m0), (1, .int i22_1), (2, .int (f2 f fA)), (3, .int 0), (4, .int i22_4), (6, .int i22_4), (7, .int i277_7)], [.int v181], M153)) rfl hR155 rfl (vin_lt hq0 (by omega)) ((q183 29 _ (by show i277_7.toInt.toNat ≠ i22_4.toInt.toNat; omega)).trans hv182) rfl ?_
                              refine ml_st (S' := (309, [(0, .ref m0), (1, .int i22_1), (2, .int (f2 f fA)), (3, .int 0), (4, .int i22_4), (6, .int i22_4), (7, .int i277_7)], [.ref m0, .int v181], M153)) rfl rfl rfl ?_
                              refine rg_ref (S' := (312, [(0, .ref m0), (1, .int i22_1), (2, .int (f2 f fA)), (3, .int 0), (4, .int i22_4), (6, .int i22_4), (7, .int i277_7)], [.ref (q 29), .int v181], M153)) rfl hR155 rfl rfl ?_
                              refine ml_st (S' := (314, [(0, .ref m0), (1, .int i22_1), (2, .int (f2 f fA)), (3, .int 0), (4, .int i22_4), (6, .int i22_4), (7, .int i277_7)], [.int i22_4, .ref (q 29), .int v181], M153)) rfl rfl rfl ?_
                              refine ra_ld (k := 29) (S' := (315, [(0, .ref m0), (1, .int i22_1), (2, .int (f2 f fA)), (3, .int 0), (4, .int i22_4), (6, .int i22_4), (7, .int i277_7)], [.int (pyf py (f2 f (i22_1 + 4))), .int v181], M153)) rfl hR155 rfl (vin_lt hk0 (by omega)) ((congrFun ((f158 29 (by decide)).trans ((f148 29 (by decide)).trans ((f138 29 (by decide)).trans ((f132 29 (by decide)))))) _).trans e124) rfl ?_
                              refine ml_if2 (S1 := (326, [(0, .ref m0), (1, .int i22_1), (2, .int (f2 f fA)), (3, .int 0), (4, .int i22_4), (6, .int i22_4), (7, .int i277_7)], [], M153)) (S2 := (318, [(0, .ref m0), (1, .int i22_1), (2, .int (f2 f fA)), (3, .int 0), (4, .int i22_4), (6, .int i22_4), (7, .int i277_7)], [], M153)) rfl rfl rfl (fun c_315 => ?_) (fun c_315 => ?_)
                              · have c_315 : ¬ v181 = (pyf py (f2 f (i22_1 + 4))) := of_decide_eq_true c_315
                                refine ml_st (S' := (329, [(7, .int (i277_7 + 1)), (0, .ref m0), (1, .int i22_1), (2, .int (f2 f fA)), (3, .int 0), (4, .int i22_4), (6, .int i22_4)], [], M153)) rfl rfl rfl ?_
                                refine ml_st (S' := (277, [(0, .ref m0), (1, .int i22_1), (2, .int (f2 f fA)), (3, .int 0), (4, .int i22_4), (6, .int i22_4), (7, .int (i277_7 + 1))], [], M153)) rfl rfl rfl ?_
                                exact ih_277 (i277_7 + 1) (loop_inc (Int32.not_le.mp c_281) hn_277) (by rw [inc_lt (Int32.not_le.mp c_281)]; omega)
                              · have c_315 : ¬ (¬ v181 = (pyf py (f2 f (i22_1 + 4)))) := of_decide_eq_false c_315
                                refine ml_blk 3 (S' := (322, [(0, .ref m0), (1, .int i22_1), (2, .int (f2 f fA)), (3, .int 0), (4, .int i22_4), (6, .int i22_4), (7, .int i277_7)], [.int i22_1, .int 22, .ref m0], M153)) rfl ?_
                                refine ml_call (a := [.ref m0, .int 22, .int i22_1]) (rest := []) rfl (hR155.okc rfl rfl rfl) rfl rfl (rm_wrong hR155 (by omega)) (fun v184 M185 h186 => ?_)
                                obtain ⟨u192, I187, R188, rfl, hR189, hI190, hV191, z193, w194⟩ := h186
                                show ml _ _ _ (325, [(0, .ref m0), (1, .int i22_1), (2, .int (f2 f fA)), (3, .int 0), (4, .int i22_4), (6, .int i22_4), (7, .int i277_7)], [.int u192], M185) _
                                exact ml_ret rfl (r_z (z193)) (⟨_, _, _, rfl, hR189, ((eqI.rf.tr hI_22 (by decide)).tr hI190 (by decide)), (((((((((eqR.rf.tr hV_22 (by decide)).put f98 (by decide)).put f112 (by decide)).put f126 (by decide)).put f132 (by decide)).put f138 (by decide)).put f148 (by decide)).put f158 (by decide)).tr hV191 (by decide)), z193, Or.inl w194⟩)
                      exact L_277 _ 0 (Nat.le_refl _) (by decide)
                    · have c_166 : ¬ (¬ u90 = 0) := of_decide_eq_false c_166
                      refine ml_blk 3 (S' := (173, [(0, .ref m0), (1, .int i22_1)], [.int i22_1, .int 21, .ref m0], M_22)) rfl ?_
                      refine ml_blk 2 (S' := (175, [(0, .ref m0), (1, .int i22_1)], [.int (i22_1 + 4), .int 21, .ref m0], M_22)) rfl ?_
                      refine ml_call (a := [.ref m0, .int 21, .int (i22_1 + 4)]) (rest := []) rfl (hR_22.okc rfl rfl rfl) rfl rfl (rm_wrong hR_22 (by omega)) (fun v195 M196 h197 => ?_)
                      obtain ⟨u203, I198, R199, rfl, hR200, hI201, hV202, z204, w205⟩ := h197
                      show ml _ _ _ (178, [(0, .ref m0), (1, .int i22_1)], [.int u203], M196) _
                      exact ml_ret rfl (r_z (z204)) (⟨_, _, _, rfl, hR200, ((eqI.rf.tr hI_22 (by decide)).tr hI201 (by decide)), ((eqR.rf.tr hV_22 (by decide)).tr hV202 (by decide)), z204, Or.inl w205⟩)
                · have c_123 : ¬ (¬ u62 = 0) := of_decide_eq_false c_123
                  refine ml_blk 3 (S' := (130, [(0, .ref m0), (1, .int i22_1)], [.int i22_1, .int 20, .ref m0], M_22)) rfl ?_
                  refine ml_blk 2 (S' := (132, [(0, .ref m0), (1, .int i22_1)], [.int (i22_1 + 2), .int 20, .ref m0], M_22)) rfl ?_
                  refine ml_call (a := [.ref m0, .int 20, .int (i22_1 + 2)]) (rest := []) rfl (hR_22.okc rfl rfl rfl) rfl rfl (rm_wrong hR_22 (by omega)) (fun v206 M207 h208 => ?_)
                  obtain ⟨u214, I209, R210, rfl, hR211, hI212, hV213, z215, w216⟩ := h208
                  show ml _ _ _ (135, [(0, .ref m0), (1, .int i22_1)], [.int u214], M207) _
                  exact ml_ret rfl (r_z (z215)) (⟨_, _, _, rfl, hR211, ((eqI.rf.tr hI_22 (by decide)).tr hI212 (by decide)), ((eqR.rf.tr hV_22 (by decide)).tr hV213 (by decide)), z215, Or.inl w216⟩)
            refine ml_if (S1 := (92, [(0, .ref m0), (1, .int i22_1), (2, .int (f2 f fA)), (3, .int 0), (4, .int i22_4), (5, .int (f2 f i22_1))], [], M_22)) (S2 := (73, [(0, .ref m0), (1, .int i22_1), (2, .int (f2 f fA)), (3, .int 0), (4, .int i22_4), (5, .int (f2 f i22_1))], [], M_22)) rfl rfl rfl (fun c_70 => ?_) (fun c_70 => ?_)
            · have c_70 : (nf &&& 512) = 0 := of_decide_eq_true c_70
              exact J_92 
            · have c_70 : ¬ ((nf &&& 512) = 0) := of_decide_eq_false c_70
              refine ml_blk 3 (S' := (79, [(0, .ref m0), (1, .int i22_1), (2, .int (f2 f fA)), (3, .int 0), (4, .int i22_4), (5, .int (f2 f i22_1))], [.int ((f2 f i22_1) &&& 16607)], M_22)) rfl ?_
              refine ml_st (S' := (81, [(0, .ref m0), (1, .int i22_1), (2, .int (f2 f fA)), (3, .int 0), (4, .int i22_4), (5, .int (f2 f i22_1))], [.int 25, .int ((f2 f i22_1) &&& 16607)], M_22)) rfl rfl rfl ?_
              refine ml_if2 (S1 := (92, [(0, .ref m0), (1, .int i22_1), (2, .int (f2 f fA)), (3, .int 0), (4, .int i22_4), (5, .int (f2 f i22_1))], [], M_22)) (S2 := (84, [(0, .ref m0), (1, .int i22_1)], [], M_22)) rfl rfl rfl (fun c_81 => ?_) (fun c_81 => ?_)
              · have c_81 : ((f2 f i22_1) &&& 16607) = 25 := of_decide_eq_true c_81
                exact J_92 
              · have c_81 : ¬ (((f2 f i22_1) &&& 16607) = 25) := of_decide_eq_false c_81
                refine ml_blk 3 (S' := (88, [(0, .ref m0), (1, .int i22_1)], [.int i22_1, .int 19, .ref m0], M_22)) rfl ?_
                refine ml_call (a := [.ref m0, .int 19, .int i22_1]) (rest := []) rfl (hR_22.okc rfl rfl rfl) rfl rfl (rm_wrong hR_22 (by omega)) (fun v217 M218 h219 => ?_)
                obtain ⟨u225, I220, R221, rfl, hR222, hI223, hV224, z226, w227⟩ := h219
                show ml _ _ _ (91, [(0, .ref m0), (1, .int i22_1)], [.int u225], M218) _
                exact ml_ret rfl (r_z (z226)) (⟨_, _, _, rfl, hR222, ((eqI.rf.tr hI_22 (by decide)).tr hI223 (by decide)), ((eqR.rf.tr hV_22 (by decide)).tr hV224 (by decide)), z226, Or.inl w227⟩)
          · have c_51 : ¬ (((f2 f i22_1) &&& 16) = 0) := of_decide_eq_false c_51
            refine ml_blk 3 (S' := (59, [(5, .int (f2 f i22_1)), (0, .ref m0), (1, .int i22_1), (2, .int (f2 f fA)), (3, .int 0), (4, .int i22_4)], [.int ((f2 f i22_1) &&& 64)], M_22)) rfl ?_
            refine ml_if (S1 := (84, [(0, .ref m0), (1, .int i22_1)], [], M_22)) (S2 := (62, [(0, .ref m0), (1, .int i22_1), (2, .int (f2 f fA)), (3, .int 0), (4, .int i22_4), (5, .int (f2 f i22_1))], [], M_22)) rfl rfl rfl (fun c_59 => ?_) (fun c_59 => ?_)
            · have c_59 : ¬ ((f2 f i22_1) &&& 64) = 0 := of_decide_eq_true c_59
              refine ml_blk 3 (S' := (88, [(0, .ref m0), (1, .int i22_1)], [.int i22_1, .int 19, .ref m0], M_22)) rfl ?_
              refine ml_call (a := [.ref m0, .int 19, .int i22_1]) (rest := []) rfl (hR_22.okc rfl rfl rfl) rfl rfl (rm_wrong hR_22 (by omega)) (fun v228 M229 h230 => ?_)
              obtain ⟨u236, I231, R232, rfl, hR233, hI234, hV235, z237, w238⟩ := h230
              show ml _ _ _ (91, [(0, .ref m0), (1, .int i22_1)], [.int u236], M229) _
              exact ml_ret rfl (r_z (z237)) (⟨_, _, _, rfl, hR233, ((eqI.rf.tr hI_22 (by decide)).tr hI234 (by decide)), ((eqR.rf.tr hV_22 (by decide)).tr hV235 (by decide)), z237, Or.inl w238⟩)
            · have c_59 : ¬ (¬ ((f2 f i22_1) &&& 64) = 0) := of_decide_eq_false c_59
              refine ml_st (S' := (63, [(0, .ref m0), (1, .int i22_1), (2, .int (f2 f fA)), (3, .int 0), (4, .int i22_4), (5, .int (f2 f i22_1))], [.ref m0], M_22)) rfl rfl rfl ?_
              refine rg_int (S' := (66, [(0, .ref m0), (1, .int i22_1), (2, .int (f2 f fA)), (3, .int 0), (4, .int i22_4), (5, .int (f2 f i22_1))], [.int nf], M_22)) rfl hR_22 rfl ((hI_22 58 (by decide)).trans (hk58)) rfl ?_
              refine ml_blk 2 (S' := (70, [(0, .ref m0), (1, .int i22_1), (2, .int (f2 f fA)), (3, .int 0), (4, .int i22_4), (5, .int (f2 f i22_1))], [.int (nf &&& 512)], M_22)) rfl ?_
              have J_92 : ml (mT g) d (mb_189 g).2 (92, [(0, .ref m0), (1, .int i22_1), (2, .int (f2 f fA)), (3, .int 0), (4, .int i22_4), (5, .int (f2 f i22_1))], [], M_22) (fun v M' => ∃ (x : Int32) (I' : rI) (R' : rR), v = some (.int x) ∧ RS g m0 q z I' R' M' ∧ eqI [25, 47, 48] I I' ∧ eqR [27, 28, 29, 30, 31, 32, 33] R R' ∧ (x = 0 ∨ x = 1) ∧ (x = 0 ∨ ∃ k : Nat, k ≤ 8192 ∧ I' 25 = some (nI k) ∧ FKN k R')) := by
                refine ml_blk 3 (S' := (95, [(0, .ref m0), (1, .int i22_1), (2, .int (f2 f fA)), (3, .int 0), (4, .int i22_4), (5, .int (f2 f i22_1))], [.int i22_1, .ref m0, .ref m0], M_22)) rfl ?_
                refine ml_blk 2 (S' := (97, [(0, .ref m0), (1, .int i22_1), (2, .int (f2 f fA)), (3, .int 0), (4, .int i22_4), (5, .int (f2 f i22_1))], [.int (i22_1 + 2), .ref m0, .ref m0], M_22)) rfl ?_
                refine ml_call (a := [.ref m0, .int (i22_1 + 2)]) (rest := [.ref m0]) rfl (hR_22.okc rfl rfl rfl) rfl rfl (rm_u2 hR_22 hF14 (by omega) (by omega) (by omega)) (fun v239 M240 h241 => ?_)
                obtain ⟨rfl, h241⟩ := h241
                rw [h241]
                show ml _ _ _ (100, [(0, .ref m0), (1, .int i22_1), (2, .int (f2 f fA)), (3, .int 0), (4, .int i22_4), (5, .int (f2 f i22_1))], [.int (f2 f (i22_1 + 2)), .ref m0], M_22) _
                have hP242 : PK n f S cp mj pa py I_22 R_22 := (hP.mono (cIx hI_22 (by decide)) (cRx hV_22 (by decide)))
                refine ml_call (a := [.ref m0, .int (f2 f (i22_1 + 2))]) (rest := []) rfl (hR_22.okc rfl rfl rfl) rfl rfl (rm_tag hR_22 hF14 hP242 (by omega)) (fun v243 M244 h245 => ?_)
                obtain ⟨rfl, h245⟩ := h245
                rw [h245]
                show ml _ _ _ (103, [(0, .ref m0), (1, .int i22_1), (2, .int (f2 f fA)), (3, .int 0), (4, .int i22_4), (5, .int (f2 f i22_1))], [.int (tgf f cp pa (f2 f (i22_1 + 2)))], M_22) _
                refine ml_st (S' := (104, [(0, .ref m0), (1, .int i22_1), (2, .int (f2 f fA)), (3, .int 0), (4, .int i22_4), (5, .int (f2 f i22_1))], [.int 1, .int (tgf f cp pa (f2 f (i22_1 + 2)))], M_22)) rfl rfl rfl ?_
                refine ml_if2 (S1 := (126, [(0, .ref m0), (1, .int i22_1)], [], M_22)) (S2 := (107, [(0, .ref m0), (1, .int i22_1), (2, .int (f2 f fA)), (3, .int 0), (4, .int i22_4), (5, .int (f2 f i22_1))], [], M_22)) rfl rfl rfl (fun c_104 => ?_) (fun c_104 => ?_)
                · have c_104 : ¬ (tgf f cp pa (f2 f (i22_1 + 2))) = 1 := of_decide_eq_true c_104
                  refine ml_blk 3 (S' := (130, [(0, .ref m0), (1, .int i22_1)], [.int i22_1, .int 20, .ref m0], M_22)) rfl ?_
                  refine ml_blk 2 (S' := (132, [(0, .ref m0), (1, .int i22_1)], [.int (i22_1 + 2), .int 20, .ref m0], M_22)) rfl ?_
                  refine ml_call (a := [.ref m0, .int 20, .int (i22_1 + 2)]) (rest := []) rfl (hR_22.okc rfl rfl rfl) rfl rfl (rm_wrong hR_22 (by omega)) (fun v246 M247 h248 => ?_)
                  obtain ⟨u254, I249, R250, rfl, hR251, hI252, hV253, z255, w256⟩ := h248
                  show ml _ _ _ (135, [(0, .ref m0), (1, .int i22_1)], [.int u254], M247) _
                  exact ml_ret rfl (r_z (z255)) (⟨_, _, _, rfl, hR251, ((eqI.rf.tr hI_22 (by decide)).tr hI252 (by decide)), ((eqR.rf.tr hV_22 (by decide)).tr hV253 (by decide)), z255, Or.inl w256⟩)
                · have c_104 : ¬ (¬ (tgf f cp pa (f2 f (i22_1 + 2))) = 1) := of_decide_eq_false c_104
                  have hyA := hP.y (show tgf f cp pa (f2 f (i22_1 + 2)) = 1 from Decidable.not_not.mp c_104)
                  refine ml_blk 3 (S' := (110, [(0, .ref m0), (1, .int i22_1), (2, .int (f2 f fA)), (3, .int 0), (4, .int i22_4), (5, .int (f2 f i22_1))], [.ref m0, .ref m0, .ref m0], M_22)) rfl ?_
                  refine ml_blk 3 (S' := (113, [(0, .ref m0), (1, .int i22_1), (2, .int (f2 f fA)), (3, .int 0), (4, .int i22_4), (5, .int (f2 f i22_1))], [.int (i22_1 + 2), .ref m0, .ref m0, .ref m0], M_22)) rfl ?_
                  refine ml_call (a := [.ref m0, .int (i22_1 + 2)]) (rest := [.ref m0, .ref m0]) rfl (hR_22.okc rfl rfl rfl) rfl rfl (rm_u2 hR_22 hF14 (by omega) (by omega) (by omega)) (fun v257 M258 h259 => ?_)
                  obtain ⟨rfl, h259⟩ := h259
                  rw [h259]
                  show ml _ _ _ (116, [(0, .ref m0), (1, .int i22_1), (2, .int (f2 f fA)), (3, .int 0), (4, .int i22_4), (5, .int (f2 f i22_1))], [.int (f2 f (i22_1 + 2)), .ref m0, .ref m0], M_22) _
                  refine ml_call (a := [.ref m0, .int (f2 f (i22_1 + 2))]) (rest := [.ref m0]) rfl (hR_22.okc rfl rfl rfl) rfl rfl (rm_symOf hR_22 hP242 (Decidable.not_not.mp c_104) (by omega)) (fun v260 M261 h262 => ?_)
                  obtain ⟨rfl, h262⟩ := h262
                  rw [h262]
                  show ml _ _ _ (119, [(0, .ref m0), (1, .int i22_1), (2, .int (f2 f fA)), (3, .int 0), (4, .int i22_4), (5, .int (f2 f i22_1))], [.int (pyf py (f2 f (i22_1 + 2))), .ref m0], M_22) _
                  refine ml_st (S' := (120, [(0, .ref m0), (1, .int i22_1), (2, .int (f2 f fA)), (3, .int 0), (4, .int i22_4), (5, .int (f2 f i22_1))], [.int 1, .int (pyf py (f2 f (i22_1 + 2))), .ref m0], M_22)) rfl rfl rfl ?_
                  have hY263 : SK S cN sa sl ch I_22 R_22 := (hY.mono (cIx hI_22 (by decide)) (cRx hV_22 (by decide)))
                  refine ml_call (a := [.ref m0, .int (pyf py (f2 f (i22_1 + 2))), .int 1]) (rest := []) rfl (hR_22.okc rfl rfl rfl) rfl rfl (rm_unqualified hR_22 hY263 (hyA.2.2.1) (hyA.2.2.2) (by omega)) (fun v264 M265 h266 => ?_)
                  obtain ⟨⟨u267, rfl, z268⟩, h266⟩ := h266
                  rw [h266]
                  show ml _ _ _ (123, [(0, .ref m0), (1, .int i22_1), (2, .int (f2 f fA)), (3, .int 0), (4, .int i22_4), (5, .int (f2 f i22_1))], [.int u267], M_22) _
                  refine ml_if (S1 := (136, [(0, .ref m0), (1, .int i22_1), (2, .int (f2 f fA)), (3, .int 0), (4, .int i22_4), (5, .int (f2 f i22_1))], [], M_22)) (S2 := (126, [(0, .ref m0), (1, .int i22_1)], [], M_22)) rfl rfl rfl (fun c_123 => ?_) (fun c_123 => ?_)
                  · have c_123 : ¬ u267 = 0 := of_decide_eq_true c_123
                    refine ml_blk 3 (S' := (139, [(0, .ref m0), (1, .int i22_1), (2, .int (f2 f fA)), (3, .int 0), (4, .int i22_4), (5, .int (f2 f i22_1))], [.int i22_1, .ref m0, .ref m0], M_22)) rfl ?_
                    refine ml_blk 2 (S' := (141, [(0, .ref m0), (1, .int i22_1), (2, .int (f2 f fA)), (3, .int 0), (4, .int i22_4), (5, .int (f2 f i22_1))], [.int (i22_1 + 4), .ref m0, .ref m0], M_22)) rfl ?_
                    refine ml_call (a := [.ref m0, .int (i22_1 + 4)]) (rest := [.ref m0]) rfl (hR_22.okc rfl rfl rfl) rfl rfl (rm_u2 hR_22 hF14 (by omega) (by omega) (by omega)) (fun v269 M270 h271 => ?_)
                    obtain ⟨rfl, h271⟩ := h271
                    rw [h271]
                    show ml _ _ _ (144, [(0, .ref m0), (1, .int i22_1), (2, .int (f2 f fA)), (3, .int 0), (4, .int i22_4), (5, .int (f2 f i22_1))], [.int (f2 f (i22_1 + 4)), .ref m0], M_22) _
                    refine ml_call (a := [.ref m0, .int (f2 f (i22_1 + 4))]) (rest := []) rfl (hR_22.okc rfl rfl rfl) rfl rfl (rm_tag hR_22 hF14 hP242 (by omega)) (fun v272 M273 h274 => ?_)
                    obtain ⟨rfl, h274⟩ := h274
                    rw [h274]
                    show ml _ _ _ (147, [(0, .ref m0), (1, .int i22_1), (2, .int (f2 f fA)), (3, .int 0), (4, .int i22_4), (5, .int (f2 f i22_1))], [.int (tgf f cp pa (f2 f (i22_1 + 4)))], M_22) _
                    refine ml_st (S' := (148, [(0, .ref m0), (1, .int i22_1), (2, .int (f2 f fA)), (3, .int 0), (4, .int i22_4), (5, .int (f2 f i22_1))], [.int 1, .int (tgf f cp pa (f2 f (i22_1 + 4)))], M_22)) rfl rfl rfl ?_
                    refine ml_if2 (S1 := (169, [(0, .ref m0), (1, .int i22_1)], [], M_22)) (S2 := (151, [(0, .ref m0), (1, .int i22_1), (2, .int (f2 f fA)), (3, .int 0), (4, .int i22_4), (5, .int (f2 f i22_1))], [], M_22)) rfl rfl rfl (fun c_148 => ?_) (fun c_148 => ?_)
                    · have c_148 : ¬ (tgf f cp pa (f2 f (i22_1 + 4))) = 1 := of_decide_eq_true c_148
                      refine ml_blk 3 (S' := (173, [(0, .ref m0), (1, .int i22_1)], [.int i22_1, .int 21, .ref m0], M_22)) rfl ?_
                      refine ml_blk 2 (S' := (175, [(0, .ref m0), (1, .int i22_1)], [.int (i22_1 + 4), .int 21, .ref m0], M_22)) rfl ?_
                      refine ml_call (a := [.ref m0, .int 21, .int (i22_1 + 4)]) (rest := []) rfl (hR_22.okc rfl rfl rfl) rfl rfl (rm_wrong hR_22 (by omega)) (fun v275 M276 h277 => ?_)
                      obtain ⟨u283, I278, R279, rfl, hR280, hI281, hV282, z284, w285⟩ := h277
                      show ml _ _ _ (178, [(0, .ref m0), (1, .int i22_1)], [.int u283], M276) _
                      exact ml_ret rfl (r_z (z284)) (⟨_, _, _, rfl, hR280, ((eqI.rf.tr hI_22 (by decide)).tr hI281 (by decide)), ((eqR.rf.tr hV_22 (by decide)).tr hV282 (by decide)), z284, Or.inl w285⟩)
                    · have c_148 : ¬ (¬ (tgf f cp pa (f2 f (i22_1 + 4))) = 1) := of_decide_eq_false c_148
                      have hyB := hP.y (show tgf f cp pa (f2 f (i22_1 + 4)) = 1 from Decidable.not_not.mp c_148)
                      refine ml_blk 3 (S' := (154, [(0, .ref m0), (1, .int i22_1), (2, .int (f2 f fA)), (3, .int 0), (4, .int i22_4), (5, .int (f2 f i22_1))], [.ref m0, .ref m0, .ref m0], M_22)) rfl ?_
                      refine ml_blk 3 (S' := (157, [(0, .ref m0), (1, .int i22_1), (2, .int (f2 f fA)), (3, .int 0), (4, .int i22_4), (5, .int (f2 f i22_1))], [.int (i22_1 + 4), .ref m0, .ref m0, .ref m0], M_22)) rfl ?_
                      refine ml_call (a := [.ref m0, .int (i22_1 + 4)]) (rest := [.ref m0, .ref m0]) rfl (hR_22.okc rfl rfl rfl) rfl rfl (rm_u2 hR_22 hF14 (by omega) (by omega) (by omega)) (fun v286 M287 h288 => ?_)
                      obtain ⟨rfl, h288⟩ := h288
                      rw [h288]
                      show ml _ _ _ (160, [(0, .ref m0), (1, .int i22_1), (2, .int (f2 f fA)), (3, .int 0), (4, .int i22_4), (5, .int (f2 f i22_1))], [.int (f2 f (i22_1 + 4)), .ref m0, .ref m0], M_22) _
                      refine ml_call (a := [.ref m0, .int (f2 f (i22_1 + 4))]) (rest := [.ref m0]) rfl (hR_22.okc rfl rfl rfl) rfl rfl (rm_symOf hR_22 hP242 (Decidable.not_not.mp c_148) (by omega)) (fun v289 M290 h291 => ?_)
                      obtain ⟨rfl, h291⟩ := h291
                      rw [h291]
                      show ml _ _ _ (163, [(0, .ref m0), (1, .int i22_1), (2, .int (f2 f fA)), (3, .int 0), (4, .int i22_4), (5, .int (f2 f i22_1))], [.int (pyf py (f2 f (i22_1 + 4))), .ref m0], M_22) _
                      refine ml_call (a := [.ref m0, .int (pyf py (f2 f (i22_1 + 4)))]) (rest := []) rfl (hR_22.okc rfl rfl rfl) rfl rfl (rm_isField hR_22 hY263 (hyB.2.2.1) (hyB.2.2.2) (by omega)) (fun v292 M293 h294 => ?_)
                      obtain ⟨⟨u295, rfl, z296, w297⟩, h294⟩ := h294
                      rw [h294]
                      show ml _ _ _ (166, [(0, .ref m0), (1, .int i22_1), (2, .int (f2 f fA)), (3, .int 0), (4, .int i22_4), (5, .int (f2 f i22_1))], [.int u295], M_22) _
                      refine ml_if (S1 := (179, [(0, .ref m0), (1, .int i22_1), (2, .int (f2 f fA)), (3, .int 0), (4, .int i22_4), (5, .int (f2 f i22_1))], [], M_22)) (S2 := (169, [(0, .ref m0), (1, .int i22_1)], [], M_22)) rfl rfl rfl (fun c_166 => ?_) (fun c_166 => ?_)
                      · have c_166 : ¬ u295 = 0 := of_decide_eq_true c_166
                        have hlnB := w297.resolve_left c_166
                        refine ml_st (S' := (180, [(0, .ref m0), (1, .int i22_1), (2, .int (f2 f fA)), (3, .int 0), (4, .int i22_4), (5, .int (f2 f i22_1))], [.ref m0], M_22)) rfl rfl rfl ?_
                        refine rg_int (S' := (183, [(0, .ref m0), (1, .int i22_1), (2, .int (f2 f fA)), (3, .int 0), (4, .int i22_4), (5, .int (f2 f i22_1))], [.int i22_4], M_22)) rfl hR_22 rfl (h25) rfl ?_
                        refine ml_st (S' := (185, [(6, .int i22_4), (0, .ref m0), (1, .int i22_1), (2, .int (f2 f fA)), (3, .int 0), (4, .int i22_4), (5, .int (f2 f i22_1))], [], M_22)) rfl rfl rfl ?_
                        refine ml_st (S' := (186, [(6, .int i22_4), (0, .ref m0), (1, .int i22_1), (2, .int (f2 f fA)), (3, .int 0), (4, .int i22_4), (5, .int (f2 f i22_1))], [.ref m0], M_22)) rfl rfl rfl ?_
                        refine rg_ref (S' := (189, [(6, .int i22_4), (0, .ref m0), (1, .int i22_1), (2, .int (f2 f fA)), (3, .int 0), (4, .int i22_4), (5, .int (f2 f i22_1))], [.ref (q 27)], M_22)) rfl hR_22 rfl rfl ?_
                        refine ml_blk 2 (S' := (193, [(6, .int i22_4), (0, .ref m0), (1, .int i22_1), (2, .int (f2 f fA)), (3, .int 0), (4, .int i22_4), (5, .int (f2 f i22_1))], [.int (f2 f i22_1), .int i22_4, .ref (q 27)], M_22)) rfl ?_
                        refine ra_st (k := 27) rfl hR_22 rfl (vin_lt hk0 (by omega)) (fun M298 R299 hR300 e301 g302 f303 => ?_)
                        show ml _ _ _ (194, [(6, .int i22_4), (0, .ref m0), (1, .int i22_1), (2, .int (f2 f fA)), (3, .int 0), (4, .int i22_4), (5, .int (f2 f i22_1))], [], M298) _
                        refine ml_st (S' := (195, [(6, .int i22_4), (0, .ref m0), (1, .int i22_1), (2, .int (f2 f fA)), (3, .int 0), (4, .int i22_4), (5, .int (f2 f i22_1))], [.ref m0], M298)) rfl rfl rfl ?_
                        refine rg_ref (S' := (198, [(6, .int i22_4), (0, .ref m0), (1, .int i22_1), (2, .int (f2 f fA)), (3, .int 0), (4, .int i22_4), (5, .int (f2 f i22_1))], [.ref (q 28)], M298)) rfl hR300 rfl rfl ?_
                        refine ml_blk 3 (S' := (202, [(6, .int i22_4), (0, .ref m0), (1, .int i22_1), (2, .int (f2 f fA)), (3, .int 0), (4, .int i22_4), (5, .int (f2 f i22_1))], [.ref m0, .ref m0, .int i22_4, .ref (q 28)], M298)) rfl ?_
                        refine ml_blk 3 (S' := (205, [(6, .int i22_4), (0, .ref m0), (1, .int i22_1), (2, .int (f2 f fA)), (3, .int 0), (4, .int i22_4), (5, .int (f2 f i22_1))], [.int (i22_1 + 2), .ref m0, .ref m0, .int i22_4, .ref (q 28)], M298)) rfl ?_
                        have hF304 : FK n f I_22 R299 := (hF14.mono (fun _ _ => rfl) (pRx f303 (by decide)))
                        refine ml_call (a := [.ref m0, .int (i22_1 + 2)]) (rest := [.ref m0, .int i22_4, .ref (q 28)]) rfl (hR300.okc rfl rfl rfl) rfl rfl (rm_u2 hR300 hF304 (by omega) (by omega) (by omega)) (fun v305 M306 h307 => ?_)
                        obtain ⟨rfl, h307⟩ := h307
                        rw [h307]
                        show ml _ _ _ (208, [(6, .int i22_4), (0, .ref m0), (1, .int i22_1), (2, .int (f2 f fA)), (3, .int 0), (4, .int i22_4), (5, .int (f2 f i22_1))], [.int (f2 f (i22_1 + 2)), .ref m0, .int i22_4, .ref (q 28)], M298) _
                        have hP308 : PK n f S cp mj pa py I_22 R299 := (hP242.mono (fun _ _ => rfl) (pRx f303 (by decide)))
                        refine ml_call (a := [.ref m0, .int (f2 f (i22_1 + 2))]) (rest := [.int i22_4, .ref (q 28)]) rfl (hR300.okc rfl rfl rfl) rfl rfl (rm_symOf hR300 hP308 (Decidable.not_not.mp c_104) (by omega)) (fun v309 M310 h311 => ?_)
                        obtain ⟨rfl, h311⟩ := h311
                        rw [h311]
                        show ml _ _ _ (211, [(6, .int i22_4), (0, .ref m0), (1, .int i22_1), (2, .int (f2 f fA)), (3, .int 0), (4, .int i22_4), (5, .int (f2 f i22_1))], [.int (pyf py (f2 f (i22_1 + 2))), .int i22_4, .ref (q 28)], M298) _
                        refine ra_st (k := 28) rfl hR300 rfl (vin_lt hk0 (by omega)) (fun M312 R313 hR314 e315 g316 f317 => ?_)
                        show ml _ _ _ (212, [(6, .int i22_4), (0, .ref m0), (1, .int i22_1), (2, .int (f2 f fA)), (3, .int 0), (4, .int i22_4), (5, .int (f2 f i22_1))], [], M312) _
                        refine ml_st (S' := (213, [(6, .int i22_4), (0, .ref m0), (1, .int i22_1), (2, .int (f2 f fA)), (3, .int 0), (4, .int i22_4), (5, .int (f2 f i22_1))], [.ref m0], M312)) rfl rfl rfl ?_
                        refine rg_ref (S' := (216, [(6, .int i22_4), (0, .ref m0), (1, .int i22_1), (2, .int (f2 f fA)), (3, .int 0), (4, .int i22_4), (5, .int (f2 f i22_1))], [.ref (q 29)], M312)) rfl hR314 rfl rfl ?_
                        refine ml_blk 3 (S' := (220, [(6, .int i22_4), (0, .ref m0), (1, .int i22_1), (2, .int (f2 f fA)), (3, .int 0), (4, .int i22_4), (5, .int (f2 f i22_1))], [.ref m0, .ref m0, .int i22_4, .ref (q 29)], M312)) rfl ?_
                        refine ml_blk 3 (S' := (223, [(6, .int i22_4), (0, .ref m0), (1, .int i22_1), (2, .int (f2 f fA)), (3, .int 0), (4, .int i22_4), (5, .int (f2 f i22_1))], [.int (i22_1 + 4), .ref m0, .ref m0, .int i22_4, .ref (q 29)], M312)) rfl ?_
                        have hF318 : FK n f I_22 R313 := (hF304.mono (fun _ _ => rfl) (pRx f317 (by decide)))
                        refine ml_call (a := [.ref m0, .int (i22_1 + 4)]) (rest := [.ref m0, .int i22_4, .ref (q 29)]) rfl (hR314.okc rfl rfl rfl) rfl rfl (rm_u2 hR314 hF318 (by omega) (by omega) (by omega)) (fun v319 M320 h321 => ?_)
                        obtain ⟨rfl, h321⟩ := h321
                        rw [h321]
                        show ml _ _ _ (226, [(6, .int i22_4), (0, .ref m0), (1, .int i22_1), (2, .int (f2 f fA)), (3, .int 0), (4, .int i22_4), (5, .int (f2 f i22_1))], [.int (f2 f (i22_1 + 4)), .ref m0, .int i22_4, .ref (q 29)], M312) _
                        have hP322 : PK n f S cp mj pa py I_22 R313 := (hP308.mono (fun _ _ => rfl) (pRx f317 (by decide)))
                        refine ml_call (a := [.ref m0, .int (f2 f (i22_1 + 4))]) (rest := [.int i22_4, .ref (q 29)]) rfl (hR314.okc rfl rfl rfl) rfl rfl (rm_symOf hR314 hP322 (Decidable.not_not.mp c_148) (by omega)) (fun v323 M324 h325 => ?_)
                        obtain ⟨rfl, h325⟩ := h325
                        rw [h325]
                        show ml _ _ _ (229, [(6, .int i22_4), (0, .ref m0), (1, .int i22_1), (2, .int (f2 f fA)), (3, .int 0), (4, .int i22_4), (5, .int (f2 f i22_1))], [.int (pyf py (f2 f (i22_1 + 4))), .int i22_4, .ref (q 29)], M312) _
                        refine ra_st (k := 29) rfl hR314 rfl (vin_lt hk0 (by omega)) (fun M326 R327 hR328 e329 g330 f331 => ?_)
                        show ml _ _ _ (230, [(6, .int i22_4), (0, .ref m0), (1, .int i22_1), (2, .int (f2 f fA)), (3, .int 0), (4, .int i22_4), (5, .int (f2 f i22_1))], [], M326) _
                        refine ml_st (S' := (231, [(6, .int i22_4), (0, .ref m0), (1, .int i22_1), (2, .int (f2 f fA)), (3, .int 0), (4, .int i22_4), (5, .int (f2 f i22_1))], [.ref m0], M326)) rfl rfl rfl ?_
                        refine rg_ref (S' := (234, [(6, .int i22_4), (0, .ref m0), (1, .int i22_1), (2, .int (f2 f fA)), (3, .int 0), (4, .int i22_4), (5, .int (f2 f i22_1))], [.ref (q 30)], M326)) rfl hR328 rfl rfl ?_
                        refine ml_blk 2 (S' := (237, [(6, .int i22_4), (0, .ref m0), (1, .int i22_1), (2, .int (f2 f fA)), (3, .int 0), (4, .int i22_4), (5, .int (f2 f i22_1))], [.int 0, .int i22_4, .ref (q 30)], M326)) rfl ?_
                        refine ra_st (k := 30) rfl hR328 rfl (vin_lt hk0 (by omega)) (fun M332 R333 hR334 e335 g336 f337 => ?_)
                        show ml _ _ _ (238, [(6, .int i22_4), (0, .ref m0), (1, .int i22_1), (2, .int (f2 f fA)), (3, .int 0), (4, .int i22_4), (5, .int (f2 f i22_1))], [], M332) _
                        refine ml_st (S' := (239, [(6, .int i22_4), (0, .ref m0), (1, .int i22_1), (2, .int (f2 f fA)), (3, .int 0), (4, .int i22_4), (5, .int (f2 f i22_1))], [.ref m0], M332)) rfl rfl rfl ?_
                        refine rg_ref (S' := (242, [(6, .int i22_4), (0, .ref m0), (1, .int i22_1), (2, .int (f2 f fA)), (3, .int 0), (4, .int i22_4), (5, .int (f2 f i22_1))], [.ref (q 31)], M332)) rfl hR334 rfl rfl ?_
                        refine ml_blk 2 (S' := (245, [(6, .int i22_4), (0, .ref m0), (1, .int i22_1), (2, .int (f2 f fA)), (3, .int 0), (4, .int i22_4), (5, .int (f2 f i22_1))], [.int 0, .int i22_4, .ref (q 31)], M332)) rfl ?_
                        refine ra_st (k := 31) rfl hR334 rfl (vin_lt hk0 (by omega)) (fun M338 R339 hR340 e341 g342 f343 => ?_)
                        show ml _ _ _ (246, [(6, .int i22_4), (0, .ref m0), (1, .int i22_1), (2, .int (f2 f fA)), (3, .int 0), (4, .int i22_4), (5, .int (f2 f i22_1))], [], M338) _
                        refine ml_st (S' := (247, [(6, .int i22_4), (0, .ref m0), (1, .int i22_1), (2, .int (f2 f fA)), (3, .int 0), (4, .int i22_4), (5, .int (f2 f i22_1))], [.ref m0], M338)) rfl rfl rfl ?_
                        refine rg_ref (S' := (250, [(6, .int i22_4), (0, .ref m0), (1, .int i22_1), (2, .int (f2 f fA)), (3, .int 0), (4, .int i22_4), (5, .int (f2 f i22_1))], [.ref (q 32)], M338)) rfl hR340 rfl rfl ?_
                        refine ml_blk 3 (S' := (254, [(6, .int i22_4), (0, .ref m0), (1, .int i22_1), (2, .int (f2 f fA)), (3, .int 0), (4, .int i22_4), (5, .int (f2 f i22_1))], [.int i22_1, .ref m0, .int i22_4, .ref (q 32)], M338)) rfl ?_
                        refine ml_blk 2 (S' := (256, [(6, .int i22_4), (0, .ref m0), (1, .int i22_1), (2, .int (f2 f fA)), (3, .int 0), (4, .int i22_4), (5, .int (f2 f i22_1))], [.int (i22_1 + 2), .ref m0, .int i22_4, .ref (q 32)], M338)) rfl ?_
                        have hF344 : FK n f I_22 R339 := (((hF318.mono (fun _ _ => rfl) (pRx f331 (by decide))).mono (fun _ _ => rfl) (pRx f337 (by decide))).mono (fun _ _ => rfl) (pRx f343 (by decide)))
                        refine ml_call (a := [.ref m0, .int (i22_1 + 2)]) (rest := [.int i22_4, .ref (q 32)]) rfl (hR340.okc rfl rfl rfl) rfl rfl (rm_u2 hR340 hF344 (by omega) (by omega) (by omega)) (fun v345 M346 h347 => ?_)
                        obtain ⟨rfl, h347⟩ := h347
                        rw [h347]
                        show ml _ _ _ (259, [(6, .int i22_4), (0, .ref m0), (1, .int i22_1), (2, .int (f2 f fA)), (3, .int 0), (4, .int i22_4), (5, .int (f2 f i22_1))], [.int (f2 f (i22_1 + 2)), .int i22_4, .ref (q 32)], M338) _
                        refine ra_st (k := 32) rfl hR340 rfl (vin_lt hk0 (by omega)) (fun M348 R349 hR350 e351 g352 f353 => ?_)
                        show ml _ _ _ (260, [(6, .int i22_4), (0, .ref m0), (1, .int i22_1), (2, .int (f2 f fA)), (3, .int 0), (4, .int i22_4), (5, .int (f2 f i22_1))], [], M348) _
                        refine ml_st (S' := (261, [(6, .int i22_4), (0, .ref m0), (1, .int i22_1), (2, .int (f2 f fA)), (3, .int 0), (4, .int i22_4), (5, .int (f2 f i22_1))], [.ref m0], M348)) rfl rfl rfl ?_
                        refine rg_ref (S' := (264, [(6, .int i22_4), (0, .ref m0), (1, .int i22_1), (2, .int (f2 f fA)), (3, .int 0), (4, .int i22_4), (5, .int (f2 f i22_1))], [.ref (q 33)], M348)) rfl hR350 rfl rfl ?_
                        refine ml_blk 3 (S' := (268, [(6, .int i22_4), (0, .ref m0), (1, .int i22_1), (2, .int (f2 f fA)), (3, .int 0), (4, .int i22_4), (5, .int (f2 f i22_1))], [.int i22_1, .ref m0, .int i22_4, .ref (q 33)], M348)) rfl ?_
                        refine ml_blk 2 (S' := (270, [(6, .int i22_4), (0, .ref m0), (1, .int i22_1), (2, .int (f2 f fA)), (3, .int 0), (4, .int i22_4), (5, .int (f2 f i22_1))], [.int (i22_1 + 4), .ref m0, .int i22_4, .ref (q 33)], M348)) rfl ?_
                        have hF354 : FK n f I_22 R349 := (hF344.mono (fun _ _ => rfl) (pRx f353 (by decide)))
                        refine ml_call (a := [.ref m0, .int (i22_1 + 4)]) (rest := [.int i22_4, .ref (q 33)]) rfl (hR350.okc rfl rfl rfl) rfl rfl (rm_u2 hR350 hF354 (by omega) (by omega) (by omega)) (fun v355 M356 h357 => ?_)
                        obtain ⟨rfl, h357⟩ := h357
                        rw [h357]
                        show ml _ _ _ (273, [(6, .int i22_4), (0, .ref m0), (1, .int i22_1), (2, .int (f2 f fA)), (3, .int 0), (4, .int i22_4), (5, .int (f2 f i22_1))], [.int (f2 f (i22_1 + 4)), .int i22_4, .ref (q 33)], M348) _
                        refine ra_st (k := 33) rfl hR350 rfl (vin_lt hk0 (by omega)) (fun M358 R359 hR360 e361 g362 f363 => ?_)
                        show ml _ _ _ (274, [(6, .int i22_4), (0, .ref m0), (1, .int i22_1), (2, .int (f2 f fA)), (3, .int 0), (4, .int i22_4), (5, .int (f2 f i22_1))], [], M358) _
                        refine ml_st (S' := (275, [(6, .int i22_4), (0, .ref m0), (1, .int i22_1), (2, .int (f2 f fA)), (3, .int 0), (4, .int i22_4), (5, .int (f2 f i22_1))], [.int 0], M358)) rfl rfl rfl ?_
                        refine ml_st (S' := (277, [(0, .ref m0), (1, .int i22_1), (2, .int (f2 f fA)), (3, .int 0), (4, .int i22_4), (6, .int i22_4), (7, .int 0)], [], M358)) rfl rfl rfl ?_
                        have L_277 : ∀ (n_277 : Nat) (i277_7 : Int32), (2147483648 - i277_7.toInt).toNat ≤ n_277 → 0 ≤ i277_7.toInt → ml (mT g) d (mb_189 g).2 (277, [(0, .ref m0), (1, .int i22_1), (2, .int (f2 f fA)), (3, .int 0), (4, .int i22_4), (6, .int i22_4), (7, .int i277_7)], [], M358) (fun v M' => ∃ (x : Int32) (I' : rI) (R' : rR), v = some (.int x) ∧ RS g m0 q z I' R' M' ∧ eqI [25, 47, 48] I I' ∧ eqR [27, 28, 29, 30, 31, 32, 33] R R' ∧ (x = 0 ∨ x = 1) ∧ (x = 0 ∨ ∃ k : Nat, k ≤ 8192 ∧ I' 25 = some (nI k) ∧ FKN k R')) := by
                          intro n_277
                          induction n_277 with
                          | zero => intro i277_7 hn; exact (loop_zero hn).elim
                          | succ n_277 ih_277 =>
                            intro i277_7 hn_277 hi_277
                            have hq0 := hi_277
                            refine ml_blk 2 (S' := (281, [(0, .ref m0), (1, .int i22_1), (2, .int (f2 f fA)), (3, .int 0), (4, .int i22_4), (6, .int i22_4), (7, .int i277_7)], [.int i22_4, .int i277_7], M358)) rfl ?_
                            refine ml_if2 (S1 := (332, [(0, .ref m0), (1, .int i22_1), (2, .int (f2 f fA)), (3, .int 0), (4, .int i22_4), (6, .int i22_4), (7, .int i277_7)], [], M358)) (S2 := (284, [(0, .ref m0), (1, .int i22_1), (2, .int (f2 f fA)), (3, .int 0), (4, .int i22_4), (6, .int i22_4), (7, .int i277_7)], [], M358)) rfl rfl rfl (fun c_281 => ?_) (fun c_281 => ?_)
                            · have c_281 : i22_4 ≤ i277_7 := of_decide_eq_true c_281
                              refine ml_blk 2 (S' := (334, [(0, .ref m0), (1, .int i22_1), (2, .int (f2 f fA)), (3, .int 0), (4, .int i22_4), (6, .int i22_4), (7, .int i277_7)], [.ref m0, .ref m0], M358)) rfl ?_
                              refine rg_int (S' := (337, [(0, .ref m0), (1, .int i22_1), (2, .int (f2 f fA)), (3, .int 0), (4, .int i22_4), (6, .int i22_4), (7, .int i277_7)], [.int i22_4, .ref m0], M358)) rfl hR360 rfl (h25) rfl ?_
                              refine ml_blk 2 (S' := (339, [(0, .ref m0), (1, .int i22_1), (2, .int (f2 f fA)), (3, .int 0), (4, .int i22_4), (6, .int i22_4), (7, .int i277_7)], [.int (i22_4 + 1), .ref m0], M358)) rfl ?_
                              refine rp_int rfl hR360 rfl (fun M364 I365 hR366 e367 f368 => ?_)
                              show ml _ _ _ (342, [(0, .ref m0), (1, .int i22_1), (2, .int (f2 f fA)), (3, .int 0), (4, .int i22_4), (6, .int i22_4), (7, .int i277_7)], [], M364) _
                              refine ml_blk 3 (S' := (346, [(0, .ref m0), (1, .int i22_1), (2, .int (f2 f fA)), (3, .int 0), (4, .int i22_4), (6, .int i22_4), (7, .int i277_7)], [.int 6, .int i22_1, .ref m0], M364)) rfl ?_
                              refine ml_blk 3 (S' := (350, [(0, .ref m0), (1, .int i22_1), (2, .int (f2 f fA)), (3, .int 0), (4, .int i22_4), (6, .int i22_4), (7, .int i277_7)], [.int i22_4, .int 1, .int (i22_1 + 6), .ref m0], M364)) rfl ?_
                              have hF369 : FK n f I365 R359 := ((hF354.mono (fun _ _ => rfl) (pRx f363 (by decide))).mono (pIx f368 (by decide)) (fun _ _ => rfl))
                              have hY370 : SK S cN sa sl ch I365 R359 := ((((((((hY263.mono (fun _ _ => rfl) (pRx f303 (by decide))).mono (fun _ _ => rfl) (pRx f317 (by decide))).mono (fun _ _ => rfl) (pRx f331 (by decide))).mono (fun _ _ => rfl) (pRx f337 (by decide))).mono (fun _ _ => rfl) (pRx f343 (by decide))).mono (fun _ _ => rfl) (pRx f353 (by decide))).mono (fun _ _ => rfl) (pRx f363 (by decide))).mono (pIx f368 (by decide)) (fun _ _ => rfl))
                              have hP371 : PK n f S cp mj pa py I365 R359 := ((((((hP322.mono (fun _ _ => rfl) (pRx f331 (by decide))).mono (fun _ _ => rfl) (pRx f337 (by decide))).mono (fun _ _ => rfl) (pRx f343 (by decide))).mono (fun _ _ => rfl) (pRx f353 (by decide))).mono (fun _ _ => rfl) (pRx f363 (by decide))).mono (pIx f368 (by decide)) (fun _ _ => rfl))
                              have hK372 : KW I365 R359 := (((((((((hK.mono (cIx hI_22 (by decide)) (cRx hV_22 (by decide))).mono (fun _ _ => rfl) (pRx f303 (by decide))).mono (fun _ _ => rfl) (pRx f317 (by decide))).mono (fun _ _ => rfl) (pRx f331 (by decide))).mono (fun _ _ => rfl) (pRx f337 (by decide))).mono (fun _ _ => rfl) (pRx f343 (by decide))).mono (fun _ _ => rfl) (pRx f353 (by decide))).mono (fun _ _ => rfl) (pRx f363 (by decide))).mono (pIx f368 (by decide)) (fun _ _ => rfl))
                              refine ml_call (a := [.ref m0, .int (i22_1 + 6), .int 1, .int i22_4]) (rest := []) rfl (hR366.okc rfl rfl rfl) rfl rfl (rm_checkAttributes1 hR366 hF369 hY370 hP371 hK372 (rfl) (g2) (hk0) (hk8) ((congrFun ((f363 27 (by decide)).trans ((f353 27 (by decide)).trans ((f343 27 (by decide)).trans ((f337 27 (by decide)).trans ((f331 27 (by decide)).trans ((f317 27 (by decide)))))))) _).trans e301) ((congrFun ((f363 29 (by decide)).trans ((f353 29 (by decide)).trans ((f343 29 (by decide)).trans ((f337 29 (by decide)))))) _).trans e329) (hyB.2.2.1) (hyB.2.2.2) (hlnB) (fun k hk => by simp only [List.mem_cons, List.not_mem_nil, or_false] at hk; rcases hk with rfl | rfl; exact ⟨_, (congrFun ((f363 30 (by decide)).trans ((f353 30 (by decide)).trans ((f343 30 (by decide))))) _).trans e335⟩; exact ⟨_, (congrFun ((f363 31 (by decide)).trans ((f353 31 (by decide)))) _).trans e341⟩) (by omega)) (fun v373 M374 h375 => ?_)
                              obtain ⟨u381, I376, R377, rfl, hR378, hI379, hV380, w382⟩ := h375
                              show ml _ _ _ (353, [(0, .ref m0), (1, .int i22_1), (2, .int (f2 f fA)), (3, .int 0), (4, .int i22_4), (6, .int i22_4), (7, .int i277_7)], [.int u381], M374) _
                              obtain ⟨hend, hpw9, hkn9⟩ := w382
                              refine ml_st (S' := (354, [(1, .int u381), (0, .ref m0), (2, .int (f2 f fA)), (3, .int 0), (4, .int i22_4), (6, .int i22_4), (7, .int i277_7)], [], M374)) rfl rfl rfl ?_
                              refine ml_st (S' := (355, [(1, .int u381), (0, .ref m0), (2, .int (f2 f fA)), (3, .int 0), (4, .int i22_4), (6, .int i22_4), (7, .int i277_7)], [.int u381], M374)) rfl rfl rfl ?_
                              refine ml_if (S1 := (360, [(1, .int u381), (0, .ref m0), (2, .int (f2 f fA)), (3, .int 0), (4, .int i22_4), (6, .int i22_4), (7, .int i277_7)], [], M374)) (S2 := (358, [(1, .int u381), (0, .ref m0), (2, .int (f2 f fA)), (3, .int 0), (4, .int i22_4), (6, .int i22_4), (7, .int i277_7)], [], M374)) rfl rfl rfl (fun c_355 => ?_) (fun c_355 => ?_)
                              · have c_355 : 0 ≤ u381 := of_decide_eq_true c_355
                                have hub : u381 = b1 := hend.resolve_left (fun q => by have := i_le c_355; have : (0 : Int32).toInt = 0 := rfl; omega)
                                have hfk2 : FKN (i22_4.toInt.toNat + 1) R377 := FKN.step (k := i22_4.toInt.toNat) hfk ((((((((pw.rf.st g302 f303 rfl).st g316 f317 rfl).st g330 f331 rfl).st g336 f337 rfl).st g342 f343 rfl).st g352 f353 rfl).st g362 f363 rfl).tr hpw9) (fun k hk => by simp only [List.mem_cons, List.not_mem_nil, or_false] at hk; rcases hk with rfl | rfl | rfl | rfl | rfl | rfl | rfl; exact ⟨_, (congrFun ((hV380 27 (by decide)).trans ((f363 27 (by decide)).trans ((f353 27 (by decide)).trans ((f343 27 (by decide)).trans ((f337 27 (by decide)).trans ((f331 27 (by decide)).trans ((f317 27 (by decide))))))))) _).trans e301⟩; exact ⟨_, (congrFun ((hV380 28 (by decide)).trans ((f363 28 (by decide)).trans ((f353 28 (by decide)).trans ((f343 28 (by decide)).trans ((f337 28 (by decide)).trans ((f331 28 (by decide)))))))) _).trans e315⟩; exact ⟨_, (congrFun ((hV380 29 (by decide)).trans ((f363 29 (by decide)).trans ((f353 29 (by decide)).trans ((f343 29 (by decide)).trans ((f337 29 (by decide))))))) _).trans e329⟩; exact hkn9 30 (by decide); exact hkn9 31 (by decide); exact ⟨_, (congrFun ((hV380 32 (by decide)).trans ((f363 32 (by decide)))) _).trans e351⟩; exact ⟨_, (congrFun ((hV380 33 (by decide))) _).trans e361⟩)
                                refine ml_st (S' := (363, [(4, .int (i22_4 + 1)), (1, .int u381), (0, .ref m0), (2, .int (f2 f fA)), (3, .int 0), (6, .int i22_4), (7, .int i277_7)], [], M374)) rfl rfl rfl ?_
                                refine ml_st (S' := (22, [(0, .ref m0), (1, .int u381), (2, .int (f2 f fA)), (3, .int 0), (4, .int (i22_4 + 1))], [], M374)) rfl rfl rfl ?_
                                exact ih_22 u381 (i22_4 + 1) _ _ _ (loop_inc (Int32.not_le.mp c_25) hn_22) hR378 (((eqI.rf.tr hI_22 (by decide)).put f368 (by decide)).tr hI379 (by decide)) (((((((((eqR.rf.tr hV_22 (by decide)).put f303 (by decide)).put f317 (by decide)).put f331 (by decide)).put f337 (by decide)).put f343 (by decide)).put f353 (by decide)).put f363 (by decide)).tr hV380 (by decide)) (⟨by rw [inc_lt (Int32.not_le.mp c_25)]; omega, by rw [inc_lt (Int32.not_le.mp c_25)]; omega, (hI379 25 (by decide)).trans (e367), by rw [hub]; exact hnx, by rw [hub, inc_lt (Int32.not_le.mp c_25)]; have q := hg.1; omega, by rw [show (i22_4 + 1).toInt.toNat = i22_4.toInt.toNat + 1 by rw [inc_lt (Int32.not_le.mp c_25)]; omega]; exact hfk2⟩)
                              · have c_355 : ¬ (0 ≤ u381) := of_decide_eq_false c_355
                                refine ml_st (S' := (359, [(1, .int u381), (0, .ref m0), (2, .int (f2 f fA)), (3, .int 0), (4, .int i22_4), (6, .int i22_4), (7, .int i277_7)], [.int 0], M374)) rfl rfl rfl ?_
                                exact ml_ret rfl (r_z (Or.inl rfl)) (⟨_, _, _, rfl, hR378, (((eqI.rf.tr hI_22 (by decide)).put f368 (by decide)).tr hI379 (by decide)), (((((((((eqR.rf.tr hV_22 (by decide)).put f303 (by decide)).put f317 (by decide)).put f331 (by decide)).put f337 (by decide)).put f343 (by decide)).put f353 (by decide)).put f363 (by decide)).tr hV380 (by decide)), Or.inl rfl, Or.inl rfl⟩)
                            · have c_281 : ¬ (i22_4 ≤ i277_7) := of_decide_eq_false c_281
                              have hql := i_nle c_281
                              refine ml_st (S' := (285, [(0, .ref m0), (1, .int i22_1), (2, .int (f2 f fA)), (3, .int 0), (4, .int i22_4), (6, .int i22_4), (7, .int i277_7)], [.ref m0], M358)) rfl rfl rfl ?_
                              refine rg_ref (S' := (288, [(0, .ref m0), (1, .int i22_1), (2, .int (f2 f fA)), (3, .int 0), (4, .int i22_4), (6, .int i22_4), (7, .int i277_7)], [.ref (q 28)], M358)) rfl hR360 rfl rfl ?_
                              refine ml_st (S' := (290, [(0, .ref m0), (1, .int i22_1), (2, .int (f2 f fA)), (3, .int 0), (4, .int i22_4), (6, .int i22_4), (7, .int i277_7)], [.int i277_7, .ref (q 28)], M358)) rfl rfl rfl ?_
                              obtain ⟨v383, hv384⟩ := hfk i277_7.toNatClampNeg (by show i277_7.toInt.toNat < i22_4.toInt.toNat; omega) 28 (by decide)
                              have q385 : pw i22_4.toNatClampNeg R_22 R359 := (((((((pw.rf.st g302 f303 rfl).st g316 f317 rfl).st g330 f331 rfl).st g336 f337 rfl).st g342 f343 rfl).st g352 f353 rfl).st g362 f363 rfl)
                              refine ra_ld (k := 28) (S' := (291, [(0, .ref m0), (1, .int i22_1), (2, .int (f2 f fA)), (3, .int 0), (4, .int i22_4), (6, .int i22_4), (7, .int i277_7)], [.int v383], M358)) rfl hR360 rfl (vin_lt hq0 (by omega)) ((q385 28 _ (by show i277_7.toInt.toNat ≠ i22_4.toInt.toNat; omega)).trans hv384) rfl ?_
                              refine ml_st (S' := (292, [(0, .ref m0), (1, .int i22_1), (2, .int (f2 f fA)), (3, .int 0), (4, .int i22_4), (6, .int i22_4), (7, .int i277_7)], [.ref m0, .int v383], M358)) rfl rfl rfl ?_
                              refine rg_ref (S' := (295, [(0, .ref m0), (1, .int i22_1), (2, .int (f2 f fA)), (3, .int 0), (4, .int i22_4), (6, .int i22_4), (7, .int i277_7)], [.ref (q 28), .int v383], M358)) rfl hR360 rfl rfl ?_
                              refine ml_st (S' := (297, [(0, .ref m0), (1, .int i22_1), (2, .int (f2 f fA)), (3, .int 0), (4, .int i22_4), (6, .int i22_4), (7, .int i277_7)], [.int i22_4, .ref (q 28), .int v383], M358)) rfl rfl rfl ?_
                              refine ra_ld (k := 28) (S' := (298, [(0, .ref m0), (1, .int i22_1), (2, .int (f2 f fA)), (3, .int 0), (4, .int i22_4), (6, .int i22_4), (7, .int i277_7)], [.int (pyf py (f2 f (i22_1 + 2))), .int v383], M358)) rfl hR360 rfl (vin_lt hk0 (by omega)) ((congrFun ((f363 28 (by decide)).trans ((f353 28 (by decide)).trans ((f343 28 (by decide)).trans ((f337 28 (by decide)).trans ((f331 28 (by decide))))))) _).trans e315) rfl ?_
                              refine ml_if2 (S1 := (326, [(0, .ref m0), (1, .int i22_1), (2, .int (f2 f fA)), (3, .int 0), (4, .int i22_4), (6, .int i22_4), (7, .int i277_7)], [], M358)) (S2 := (301, [(0, .ref m0), (1, .int i22_1), (2, .int (f2 f fA)), (3, .int 0), (4, .int i22_4), (6, .int i22_4), (7, .int i277_7)], [], M358)) rfl rfl rfl (fun c_298 => ?_) (fun c_298 => ?_)
                              · have c_298 : ¬ v383 = (pyf py (f2 f (i22_1 + 2))) := of_decide_eq_true c_298
                                refine ml_st (S' := (329, [(7, .int (i277_7 + 1)), (0, .ref m0), (1, .int i22_1), (2, .int (f2 f fA)), (3, .int 0), (4, .int i22_4), (6, .int i22_4)], [], M358)) rfl rfl rfl ?_
                                refine ml_st (S' := (277, [(0, .ref m0), (1, .int i22_1), (2, .int (f2 f fA)), (3, .int 0), (4, .int i22_4), (6, .int i22_4), (7, .int (i277_7 + 1))], [], M358)) rfl rfl rfl ?_
                                exact ih_277 (i277_7 + 1) (loop_inc (Int32.not_le.mp c_281) hn_277) (by rw [inc_lt (Int32.not_le.mp c_281)]; omega)
                              · have c_298 : ¬ (¬ v383 = (pyf py (f2 f (i22_1 + 2)))) := of_decide_eq_false c_298
                                refine ml_st (S' := (302, [(0, .ref m0), (1, .int i22_1), (2, .int (f2 f fA)), (3, .int 0), (4, .int i22_4), (6, .int i22_4), (7, .int i277_7)], [.ref m0], M358)) rfl rfl rfl ?_
                                refine rg_ref (S' := (305, [(0, .ref m0), (1, .int i22_1), (2, .int (f2 f fA)), (3, .int 0), (4, .int i22_4), (6, .int i22_4), (7, .int i277_7)], [.ref (q 29)], M358)) rfl hR360 rfl rfl ?_
                                refine ml_st (S' := (307, [(0, .ref m0), (1, .int i22_1), (2, .int (f2 f fA)), (3, .int 0), (4, .int i22_4), (6, .int i22_4), (7, .int i277_7)], [.int i277_7, .ref (q 29)], M358)) rfl rfl rfl ?_
                                obtain ⟨v386, hv387⟩ := hfk i277_7.toNatClampNeg (by show i277_7.toInt.toNat < i22_4.toInt.toNat; omega) 29 (by decide)
                                have q388 : pw i22_4.toNatClampNeg R_22 R359 := (((((((pw.rf.st g302 f303 rfl).st g316 f317 rfl).st g330 f331 rfl).st g336 f337 rfl).st g342 f343 rfl).st g352 f353 rfl).st g362 f363 rfl)
                                refine ra_ld (k := 29) (S' := (308, [(0, .ref m0), (1, .int i22_1), (2, .int (f2 f fA)), (3, .int 0), (4, .int i22_4), (6, .int i22_4), (7, .int i277_7)], [.int v386], M358)) rfl hR360 rfl (vin_lt hq0 (by omega)) ((q388 29 _ (by show i277_7.toInt.toNat ≠ i22_4.toInt.toNat; omega)).trans hv387) rfl ?_
                                refine ml_st (S' := (309, [(0, .ref m0), (1, .int i22_1), (2, .int (f2 f fA)), (3, .int 0), (4, .int i22_4), (6, .int i22_4), (7, .int i277_7)], [.ref m0, .int v386], M358)) rfl rfl rfl ?_
                                refine rg_ref (S' := (312, [(0, .ref m0), (1, .int i22_1), (2, .int (f2 f fA)), (3, .int 0), (4, .int i22_4), (6, .int i22_4), (7, .int i277_7)], [.ref (q 29), .int v386], M358)) rfl hR360 rfl rfl ?_
                                refine ml_st (S' := (314, [(0, .ref m0), (1, .int i22_1), (2, .int (f2 f fA)), (3, .int 0), (4, .int i22_4), (6, .int i22_4), (7, .int i277_7)], [.int i22_4, .ref (q 29), .int v386], M358)) rfl rfl rfl ?_
                                refine ra_ld (k := 29) (S' := (315, [(0, .ref m0), (1, .int i22_1), (2, .int (f2 f fA)), (3, .int 0), (4, .int i22_4), (6, .int i22_4), (7, .int i277_7)], [.int (pyf py (f2 f (i22_1 + 4))), .int v386], M358)) rfl hR360 rfl (vin_lt hk0 (by omega)) ((congrFun ((f363 29 (by decide)).trans ((f353 29 (by decide)).trans ((f343 29 (by decide)).trans ((f337 29 (by decide)))))) _).trans e329) rfl ?_
                                refine ml_if2 (S1 := (326, [(0, .ref m0), (1, .int i22_1), (2, .int (f2 f fA)), (3, .int 0), (4, .int i22_4), (6, .int i22_4), (7, .int i277_7)], [], M358)) (S2 := (318, [(0, .ref m0), (1, .int i22_1), (2, .int (f2 f fA)), (3, .int 0), (4, .int i22_4), (6, .int i22_4), (7, .int i277_7)], [], M358)) rfl rfl rfl (fun c_315 => ?_) (fun c_315 => ?_)
                                · have c_315 : ¬ v386 = (pyf py (f2 f (i22_1 + 4))) := of_decide_eq_true c_315
                                  refine ml_st (S' := (329, [(7, .int (i277_7 + 1)), (0, .ref m0), (1, .int i22_1), (2, .int (f2 f fA)), (3, .int 0), (4, .int i22_4), (6, .int i22_4)], [], M358)) rfl rfl rfl ?_
                                  refine ml_st (S' := (277, [(0, .ref m0), (1, .int i22_1), (2, .int (f2 f fA)), (3, .int 0), (4, .int i22_4), (6, .int i22_4), (7, .int (i277_7 + 1))], [], M358)) rfl rfl rfl ?_
                                  exact ih_277 (i277_7 + 1) (loop_inc (Int32.not_le.mp c_281) hn_277) (by rw [inc_lt (Int32.not_le.mp c_281)]; omega)
                                · have c_315 : ¬ (¬ v386 = (pyf py (f2 f (i22_1 + 4)))) := of_decide_eq_false c_315
                                  refine ml_blk 3 (S' := (322, [(0, .ref m0), (1, .int i22_1), (2, .int (f2 f fA)), (3, .int 0), (4, .int i22_4), (6, .int i22_4), (7, .int i277_7)], [.int i22_1, .int 22, .ref m0], M358)) rfl ?_
                                  refine ml_call (a := [.ref m0, .int 22, .int i22_1]) (rest := []) rfl (hR360.okc rfl rfl rfl) rfl rfl (rm_wrong hR360 (by omega)) (fun v389 M390 h391 => ?_)
                                  obtain ⟨u397, I392, R393, rfl, hR394, hI395, hV396, z398, w399⟩ := h391
                                  show ml _ _ _ (325, [(0, .ref m0), (1, .int i22_1), (2, .int (f2 f fA)), (3, .int 0), (4, .int i22_4), (6, .int i22_4), (7, .int i277_7)], [.int u397], M390) _
                                  exact ml_ret rfl (r_z (z398)) (⟨_, _, _, rfl, hR394, ((eqI.rf.tr hI_22 (by decide)).tr hI395 (by decide)), (((((((((eqR.rf.tr hV_22 (by decide)).put f303 (by decide)).put f317 (by decide)).put f331 (by decide)).put f337 (by decide)).put f343 (by decide)).put f353 (by decide)).put f363 (by decide)).tr hV396 (by decide)), z398, Or.inl w399⟩)
                        exact L_277 _ 0 (Nat.le_refl _) (by decide)
                      · have c_166 : ¬ (¬ u295 = 0) := of_decide_eq_false c_166
                        refine ml_blk 3 (S' := (173, [(0, .ref m0), (1, .int i22_1)], [.int i22_1, .int 21, .ref m0], M_22)) rfl ?_
                        refine ml_blk 2 (S' := (175, [(0, .ref m0), (1, .int i22_1)], [.int (i22_1 + 4), .int 21, .ref m0], M_22)) rfl ?_
                        refine ml_call (a := [.ref m0, .int 21, .int (i22_1 + 4)]) (rest := []) rfl (hR_22.okc rfl rfl rfl) rfl rfl (rm_wrong hR_22 (by omega)) (fun v400 M401 h402 => ?_)
                        obtain ⟨u408, I403, R404, rfl, hR405, hI406, hV407, z409, w410⟩ := h402
                        show ml _ _ _ (178, [(0, .ref m0), (1, .int i22_1)], [.int u408], M401) _
                        exact ml_ret rfl (r_z (z409)) (⟨_, _, _, rfl, hR405, ((eqI.rf.tr hI_22 (by decide)).tr hI406 (by decide)), ((eqR.rf.tr hV_22 (by decide)).tr hV407 (by decide)), z409, Or.inl w410⟩)
                  · have c_123 : ¬ (¬ u267 = 0) := of_decide_eq_false c_123
                    refine ml_blk 3 (S' := (130, [(0, .ref m0), (1, .int i22_1)], [.int i22_1, .int 20, .ref m0], M_22)) rfl ?_
                    refine ml_blk 2 (S' := (132, [(0, .ref m0), (1, .int i22_1)], [.int (i22_1 + 2), .int 20, .ref m0], M_22)) rfl ?_
                    refine ml_call (a := [.ref m0, .int 20, .int (i22_1 + 2)]) (rest := []) rfl (hR_22.okc rfl rfl rfl) rfl rfl (rm_wrong hR_22 (by omega)) (fun v411 M412 h413 => ?_)
                    obtain ⟨u419, I414, R415, rfl, hR416, hI417, hV418, z420, w421⟩ := h413
                    show ml _ _ _ (135, [(0, .ref m0), (1, .int i22_1)], [.int u419], M412) _
                    exact ml_ret rfl (r_z (z420)) (⟨_, _, _, rfl, hR416, ((eqI.rf.tr hI_22 (by decide)).tr hI417 (by decide)), ((eqR.rf.tr hV_22 (by decide)).tr hV418 (by decide)), z420, Or.inl w421⟩)
              refine ml_if (S1 := (92, [(0, .ref m0), (1, .int i22_1), (2, .int (f2 f fA)), (3, .int 0), (4, .int i22_4), (5, .int (f2 f i22_1))], [], M_22)) (S2 := (73, [(0, .ref m0), (1, .int i22_1), (2, .int (f2 f fA)), (3, .int 0), (4, .int i22_4), (5, .int (f2 f i22_1))], [], M_22)) rfl rfl rfl (fun c_70 => ?_) (fun c_70 => ?_)
              · have c_70 : (nf &&& 512) = 0 := of_decide_eq_true c_70
                exact J_92 
              · have c_70 : ¬ ((nf &&& 512) = 0) := of_decide_eq_false c_70
                refine ml_blk 3 (S' := (79, [(0, .ref m0), (1, .int i22_1), (2, .int (f2 f fA)), (3, .int 0), (4, .int i22_4), (5, .int (f2 f i22_1))], [.int ((f2 f i22_1) &&& 16607)], M_22)) rfl ?_
                refine ml_st (S' := (81, [(0, .ref m0), (1, .int i22_1), (2, .int (f2 f fA)), (3, .int 0), (4, .int i22_4), (5, .int (f2 f i22_1))], [.int 25, .int ((f2 f i22_1) &&& 16607)], M_22)) rfl rfl rfl ?_
                refine ml_if2 (S1 := (92, [(0, .ref m0), (1, .int i22_1), (2, .int (f2 f fA)), (3, .int 0), (4, .int i22_4), (5, .int (f2 f i22_1))], [], M_22)) (S2 := (84, [(0, .ref m0), (1, .int i22_1)], [], M_22)) rfl rfl rfl (fun c_81 => ?_) (fun c_81 => ?_)
                · have c_81 : ((f2 f i22_1) &&& 16607) = 25 := of_decide_eq_true c_81
                  exact J_92 
                · have c_81 : ¬ (((f2 f i22_1) &&& 16607) = 25) := of_decide_eq_false c_81
                  refine ml_blk 3 (S' := (88, [(0, .ref m0), (1, .int i22_1)], [.int i22_1, .int 19, .ref m0], M_22)) rfl ?_
                  refine ml_call (a := [.ref m0, .int 19, .int i22_1]) (rest := []) rfl (hR_22.okc rfl rfl rfl) rfl rfl (rm_wrong hR_22 (by omega)) (fun v422 M423 h424 => ?_)
                  obtain ⟨u430, I425, R426, rfl, hR427, hI428, hV429, z431, w432⟩ := h424
                  show ml _ _ _ (91, [(0, .ref m0), (1, .int i22_1)], [.int u430], M423) _
                  exact ml_ret rfl (r_z (z431)) (⟨_, _, _, rfl, hR427, ((eqI.rf.tr hI_22 (by decide)).tr hI428 (by decide)), ((eqR.rf.tr hV_22 (by decide)).tr hV429 (by decide)), z431, Or.inl w432⟩)
  exact L_22 _ (fA + 2) 0 _ _ _ (Nat.le_refl _) hR eqI.rf eqR.rf (⟨by decide, by show (0 : Int) ≤ _; exact f2_pos, hk25, by rw [show ((f2 f fA).toInt - (0 : Int32).toInt).toNat = (f2 f fA).toInt.toNat by have : (0 : Int32).toInt = 0 := rfl; omega]; exact hmb.2.2.1, by rw [eA2]; have : (0 : Int32).toInt = 0 := rfl; omega, fun x hx => absurd hx (Nat.not_lt_zero x)⟩)
end
section
set_option maxHeartbeats 2000000 in
theorem rm_checkMethods {g : xe_G}  {m0 : Nat} {q : Nat → Nat} {z : Nat × Nat} {I : rI} {R : rR} {M : mi_H} {mA nf si sc : Int32} {n : Nat} {f : Nat → Int32} {S cN : Nat} {sa sl ch : Nat → Int32} {cp mj : Int32} {pa py : Nat → Int32} {aA : Int32}  (hR : RS g m0 q z I R M) (hk56 : I 56 = some mA) (hk26 : I 26 = some 0) (hk58 : I 58 = some nf) (hk9 : I 9 = some si) (hk10 : I 10 = some sc) (hF : FK n f I R) (hY : SK S cN sa sl ch I R) (hP : PK n f S cp mj pa py I R) (hK : KW I R) (hmb : MB f n mA aA) {d : Nat} (hd : 8 ≤ d) : mt (mT g) d 191 [.ref m0] M (fun v M' => ∃ (x : Int32) (I' : rI) (R' : rR), v = some (.int x) ∧ RS g m0 q z I' R' M' ∧ eqI [26, 47, 48] I I' ∧ eqR [34, 35, 36, 37, 38, 39, 40, 41, 42, 43, 44, 45, 46] R R' ∧ (x = 0 ∨ x = 1) ∧ (x = 0 ∨ ∃ k : Nat, k ≤ 8192 ∧ I' 26 = some (nI k) ∧ MKN f n S sa sl ch k R')) := by
  obtain ⟨d, rfl⟩ : ∃ e, d = e + 1 := ⟨d - 1, by omega⟩
  refine mt_in (b := mb_191 g) rfl rfl ?_
  show ml (mT g) d (mb_191 g).2 (0, [(0, .ref m0)], [], M) _
  have hn := hF.1
  have hA0 := hmb.1
  have hA1 := hmb.2.1
  have eA2 : (mA + 2).toInt = mA.toInt + 2 := i_add (by have : (2 : Int32).toInt = 2 := rfl; omega) (by have : (2 : Int32).toInt = 2 := rfl; omega)
  refine ml_st (S' := (1, [(0, .ref m0)], [.ref m0], M)) rfl rfl rfl ?_
  refine rg_int (S' := (4, [(0, .ref m0)], [.int mA], M)) rfl hR rfl (hk56) rfl ?_
  refine ml_st (S' := (5, [(1, .int mA), (0, .ref m0)], [], M)) rfl rfl rfl ?_
  refine ml_blk 2 (S' := (7, [(1, .int mA), (0, .ref m0)], [.int mA, .ref m0], M)) rfl ?_
  refine ml_call (a := [.ref m0, .int mA]) (rest := []) rfl (hR.okc rfl rfl rfl) rfl rfl (rm_u2 hR hF (hA0) (hA1) (by omega)) (fun v11 M12 h13 => ?_)
  obtain ⟨rfl, h13⟩ := h13
  rw [h13]
  show ml _ _ _ (10, [(1, .int mA), (0, .ref m0)], [.int (f2 f mA)], M) _
  refine ml_st (S' := (11, [(2, .int (f2 f mA)), (1, .int mA), (0, .ref m0)], [], M)) rfl rfl rfl ?_
  refine ml_st (S' := (14, [(1, .int (mA + 2)), (2, .int (f2 f mA)), (0, .ref m0)], [], M)) rfl rfl rfl ?_
  refine ml_st (S' := (15, [(1, .int (mA + 2)), (2, .int (f2 f mA)), (0, .ref m0)], [.ref m0], M)) rfl rfl rfl ?_
  refine rg_int (S' := (18, [(1, .int (mA + 2)), (2, .int (f2 f mA)), (0, .ref m0)], [.int 0], M)) rfl hR rfl (hk26) rfl ?_
  refine ml_st (S' := (19, [(3, .int 0), (1, .int (mA + 2)), (2, .int (f2 f mA)), (0, .ref m0)], [], M)) rfl rfl rfl ?_
  refine ml_st (S' := (20, [(3, .int 0), (1, .int (mA + 2)), (2, .int (f2 f mA)), (0, .ref m0)], [.ref m0], M)) rfl rfl rfl ?_
  refine rg_int (S' := (23, [(3, .int 0), (1, .int (mA + 2)), (2, .int (f2 f mA)), (0, .ref m0)], [.int nf], M)) rfl hR rfl (hk58) rfl ?_
  refine ml_blk 2 (S' := (27, [(3, .int 0), (1, .int (mA + 2)), (2, .int (f2 f mA)), (0, .ref m0)], [.int (nf &&& 512)], M)) rfl ?_
  have J_35 : ∀ (s35_0 : Int32), ml (mT g) d (mb_191 g).2 (35, [(0, .ref m0), (1, .int (mA + 2)), (2, .int (f2 f mA)), (3, .int 0)], [.int s35_0], M) (fun v M' => ∃ (x : Int32) (I' : rI) (R' : rR), v = some (.int x) ∧ RS g m0 q z I' R' M' ∧ eqI [26, 47, 48] I I' ∧ eqR [34, 35, 36, 37, 38, 39, 40, 41, 42, 43, 44, 45, 46] R R' ∧ (x = 0 ∨ x = 1) ∧ (x = 0 ∨ ∃ k : Nat, k ≤ 8192 ∧ I' 26 = some (nI k) ∧ MKN f n S sa sl ch k R')) := by
    intro s35_0
    refine ml_st (S' := (37, [(4, .int s35_0), (0, .ref m0), (1, .int (mA + 2)), (2, .int (f2 f mA)), (3, .int 0)], [], M)) rfl rfl rfl ?_
    refine ml_st (S' := (38, [(4, .int s35_0), (0, .ref m0), (1, .int (mA + 2)), (2, .int (f2 f mA)), (3, .int 0)], [.int 0], M)) rfl rfl rfl ?_
    refine ml_st (S' := (40, [(0, .ref m0), (1, .int (mA + 2)), (2, .int (f2 f mA)), (3, .int 0), (4, .int s35_0), (5, .int 0)], [], M)) rfl rfl rfl ?_
    have L_40 : ∀ (n_40 : Nat) (i40_1 : Int32) (i40_5 : Int32) (M_40 : mi_H) (I_40 : rI) (R_40 : rR), (2147483648 - i40_5.toInt).toNat ≤ n_40 → RS g m0 q z I_40 R_40 M_40 → eqI [26, 47, 48] I I_40 → eqR [34, 35, 36, 37, 38, 39, 40, 41, 42, 43, 44, 45, 46] R R_40 → (0 ≤ i40_5.toInt ∧ i40_5.toInt ≤ (f2 f mA).toInt ∧ I_40 26 = some i40_5 ∧ itr (MB1 f n) ((f2 f mA).toInt - i40_5.toInt).toNat i40_1 aA ∧ mA.toInt + 2 + 8 * i40_5.toInt ≤ i40_1.toInt ∧ MKN f n S sa sl ch i40_5.toInt.toNat R_40) → ml (mT g) d (mb_191 g).2 (40, [(0, .ref m0), (1, .int i40_1), (2, .int (f2 f mA)), (3, .int 0), (4, .int s35_0), (5, .int i40_5)], [], M_40) (fun v M' => ∃ (x : Int32) (I' : rI) (R' : rR), v = some (.int x) ∧ RS g m0 q z I' R' M' ∧ eqI [26, 47, 48] I I' ∧ eqR [34, 35, 36, 37, 38, 39, 40, 41, 42, 43, 44, 45, 46] R R' ∧ (x = 0 ∨ x = 1) ∧ (x = 0 ∨ ∃ k : Nat, k ≤ 8192 ∧ I' 26 = some (nI k) ∧ MKN f n S sa sl ch k R')) := by
      intro n_40
      induction n_40 with
      | zero => intro i40_1 i40_5 M_40 I_40 R_40 hn; exact (loop_zero hn).elim
      | succ n_40 ih_40 =>
        intro i40_1 i40_5 M_40 I_40 R_40 hn_40 hR_40 hI_40 hV_40 hi_40
        obtain ⟨hk0, hk1, h26, hit, hpk, hmk⟩ := hi_40
        refine ml_blk 2 (S' := (43, [(0, .ref m0), (1, .int i40_1), (2, .int (f2 f mA)), (3, .int 0), (4, .int s35_0), (5, .int i40_5)], [.int (f2 f mA), .int i40_5], M_40)) rfl ?_
        refine ml_if2 (S1 := (532, [(0, .ref m0), (1, .int i40_1), (2, .int (f2 f mA)), (3, .int 0), (4, .int s35_0), (5, .int i40_5)], [], M_40)) (S2 := (46, [(0, .ref m0), (1, .int i40_1), (2, .int (f2 f mA)), (3, .int 0), (4, .int s35_0), (5, .int i40_5)], [], M_40)) rfl rfl rfl (fun c_43 => ?_) (fun c_43 => ?_)
        · have c_43 : (f2 f mA) ≤ i40_5 := of_decide_eq_true c_43
          refine ml_st (S' := (533, [(0, .ref m0), (1, .int i40_1), (2, .int (f2 f mA)), (3, .int 0), (4, .int s35_0), (5, .int i40_5)], [.int 1], M_40)) rfl rfl rfl ?_
          exact ml_ret rfl (r_z (Or.inr rfl)) (⟨_, _, _, rfl, hR_40, (eqI.rf.tr hI_40 (by decide)), (eqR.rf.tr hV_40 (by decide)), Or.inr rfl, Or.inr ⟨i40_5.toInt.toNat, by have := itr.ge (w := 0) (fun a b h => by have := MB1.ge hn a b h; omega) hit; have := (mb_ge hn hmb).2; omega, by rw [nI_back hk0 (Int.le_trans hk1 f2_le)]; exact h26, hmk⟩⟩)
        · have c_43 : ¬ ((f2 f mA) ≤ i40_5) := of_decide_eq_false c_43
          obtain ⟨b1, hb1, hnx⟩ := itr_next hit c_43
          obtain ⟨g0, g1, g2⟩ := hb1
          have hg := at_ge hn g2
          have hkl := i_nle c_43
          have e2 : (i40_1 + 2).toInt = i40_1.toInt + 2 := i_add (by have : (2 : Int32).toInt = 2 := rfl; omega) (by have : (2 : Int32).toInt = 2 := rfl; omega)
          have e4 : (i40_1 + 4).toInt = i40_1.toInt + 4 := i_add (by have : (4 : Int32).toInt = 4 := rfl; omega) (by have : (4 : Int32).toInt = 4 := rfl; omega)
          have e6 : (i40_1 + 6).toInt = i40_1.toInt + 6 := i_add (by have : (6 : Int32).toInt = 6 := rfl; omega) (by have : (6 : Int32).toInt = 6 := rfl; omega)
          have hk8 : i40_5.toInt < 8300 := by omega
          refine ml_blk 2 (S' := (48, [(0, .ref m0), (1, .int i40_1), (2, .int (f2 f mA)), (3, .int 0), (4, .int s35_0), (5, .int i40_5)], [.int i40_1, .ref m0], M_40)) rfl ?_
          have hF14 : FK n f I_40 R_40 := (hF.mono (cIx hI_40 (by decide)) (cRx hV_40 (by decide)))
          refine ml_call (a := [.ref m0, .int i40_1]) (rest := []) rfl (hR_40.okc rfl rfl rfl) rfl rfl (rm_u2 hR_40 hF14 (g0) (by omega) (by omega)) (fun v15 M16 h17 => ?_)
          obtain ⟨rfl, h17⟩ := h17
          rw [h17]
          show ml _ _ _ (51, [(0, .ref m0), (1, .int i40_1), (2, .int (f2 f mA)), (3, .int 0), (4, .int s35_0), (5, .int i40_5)], [.int (f2 f i40_1)], M_40) _
          refine ml_st (S' := (53, [(6, .int (f2 f i40_1)), (0, .ref m0), (1, .int i40_1), (2, .int (f2 f mA)), (3, .int 0), (4, .int s35_0), (5, .int i40_5)], [], M_40)) rfl rfl rfl ?_
          refine ml_blk 3 (S' := (56, [(6, .int (f2 f i40_1)), (0, .ref m0), (1, .int i40_1), (2, .int (f2 f mA)), (3, .int 0), (4, .int s35_0), (5, .int i40_5)], [.int i40_1, .ref m0, .ref m0], M_40)) rfl ?_
          refine ml_blk 2 (S' := (58, [(6, .int (f2 f i40_1)), (0, .ref m0), (1, .int i40_1), (2, .int (f2 f mA)), (3, .int 0), (4, .int s35_0), (5, .int i40_5)], [.int (i40_1 + 2), .ref m0, .ref m0], M_40)) rfl ?_
          refine ml_call (a := [.ref m0, .int (i40_1 + 2)]) (rest := [.ref m0]) rfl (hR_40.okc rfl rfl rfl) rfl rfl (rm_u2 hR_40 hF14 (by omega) (by omega) (by omega)) (fun v18 M19 h20 => ?_)
          obtain ⟨rfl, h20⟩ := h20
          rw [h20]
          show ml _ _ _ (61, [(6, .int (f2 f i40_1)), (0, .ref m0), (1, .int i40_1), (2, .int (f2 f mA)), (3, .int 0), (4, .int s35_0), (5, .int i40_5)], [.int (f2 f (i40_1 + 2)), .ref m0], M_40) _
          have hP21 : PK n f S cp mj pa py I_40 R_40 := (hP.mono (cIx hI_40 (by decide)) (cRx hV_40 (by decide)))
          refine ml_call (a := [.ref m0, .int (f2 f (i40_1 + 2))]) (rest := []) rfl (hR_40.okc rfl rfl rfl) rfl rfl (rm_tag hR_40 hF14 hP21 (by omega)) (fun v22 M23 h24 => ?_)
          obtain ⟨rfl, h24⟩ := h24
          rw [h24]
          show ml _ _ _ (64, [(6, .int (f2 f i40_1)), (0, .ref m0), (1, .int i40_1), (2, .int (f2 f mA)), (3, .int 0), (4, .int s35_0), (5, .int i40_5)], [.int (tgf f cp pa (f2 f (i40_1 + 2)))], M_40) _
          refine ml_st (S' := (65, [(6, .int (f2 f i40_1)), (0, .ref m0), (1, .int i40_1), (2, .int (f2 f mA)), (3, .int 0), (4, .int s35_0), (5, .int i40_5)], [.int 1, .int (tgf f cp pa (f2 f (i40_1 + 2)))], M_40)) rfl rfl rfl ?_
          have J_83 : ∀ (s83_0 : Int32), (s83_0 < 0 ∨ 0 ≤ s83_0.toInt ∧ s83_0.toInt < S) → ml (mT g) d (mb_191 g).2 (83, [(0, .ref m0), (1, .int i40_1), (2, .int (f2 f mA)), (3, .int 0), (4, .int s35_0), (5, .int i40_5), (6, .int (f2 f i40_1))], [.int s83_0], M_40) (fun v M' => ∃ (x : Int32) (I' : rI) (R' : rR), v = some (.int x) ∧ RS g m0 q z I' R' M' ∧ eqI [26, 47, 48] I I' ∧ eqR [34, 35, 36, 37, 38, 39, 40, 41, 42, 43, 44, 45, 46] R R' ∧ (x = 0 ∨ x = 1) ∧ (x = 0 ∨ ∃ k : Nat, k ≤ 8192 ∧ I' 26 = some (nI k) ∧ MKN f n S sa sl ch k R')) := by
            intro s83_0 hj_83
            refine ml_st (S' := (85, [(7, .int s83_0), (0, .ref m0), (1, .int i40_1), (2, .int (f2 f mA)), (3, .int 0), (4, .int s35_0), (5, .int i40_5), (6, .int (f2 f i40_1))], [], M_40)) rfl rfl rfl ?_
            refine ml_blk 2 (S' := (88, [(7, .int s83_0), (0, .ref m0), (1, .int i40_1), (2, .int (f2 f mA)), (3, .int 0), (4, .int s35_0), (5, .int i40_5), (6, .int (f2 f i40_1))], [.ref m0, .int s83_0], M_40)) rfl ?_
            refine rg_int (S' := (91, [(7, .int s83_0), (0, .ref m0), (1, .int i40_1), (2, .int (f2 f mA)), (3, .int 0), (4, .int s35_0), (5, .int i40_5), (6, .int (f2 f i40_1))], [.int si, .int s83_0], M_40)) rfl hR_40 rfl ((hI_40 9 (by decide)).trans (hk9)) rfl ?_
            have J_99 : ∀ (s99_0 : Int32), ml (mT g) d (mb_191 g).2 (99, [(0, .ref m0), (1, .int i40_1), (2, .int (f2 f mA)), (3, .int 0), (4, .int s35_0), (5, .int i40_5), (6, .int (f2 f i40_1)), (7, .int s83_0)], [.int s99_0], M_40) (fun v M' => ∃ (x : Int32) (I' : rI) (R' : rR), v = some (.int x) ∧ RS g m0 q z I' R' M' ∧ eqI [26, 47, 48] I I' ∧ eqR [34, 35, 36, 37, 38, 39, 40, 41, 42, 43, 44, 45, 46] R R' ∧ (x = 0 ∨ x = 1) ∧ (x = 0 ∨ ∃ k : Nat, k ≤ 8192 ∧ I' 26 = some (nI k) ∧ MKN f n S sa sl ch k R')) := by
              intro s99_0
              refine ml_st (S' := (101, [(8, .int s99_0), (0, .ref m0), (1, .int i40_1), (2, .int (f2 f mA)), (3, .int 0), (4, .int s35_0), (5, .int i40_5), (6, .int (f2 f i40_1)), (7, .int s83_0)], [], M_40)) rfl rfl rfl ?_
              refine ml_blk 2 (S' := (104, [(8, .int s99_0), (0, .ref m0), (1, .int i40_1), (2, .int (f2 f mA)), (3, .int 0), (4, .int s35_0), (5, .int i40_5), (6, .int (f2 f i40_1)), (7, .int s83_0)], [.ref m0, .int s83_0], M_40)) rfl ?_
              refine rg_int (S' := (107, [(8, .int s99_0), (0, .ref m0), (1, .int i40_1), (2, .int (f2 f mA)), (3, .int 0), (4, .int s35_0), (5, .int i40_5), (6, .int (f2 f i40_1)), (7, .int s83_0)], [.int sc, .int s83_0], M_40)) rfl hR_40 rfl ((hI_40 10 (by decide)).trans (hk10)) rfl ?_
              have J_115 : ∀ (s115_0 : Int32), ml (mT g) d (mb_191 g).2 (115, [(0, .ref m0), (1, .int i40_1), (2, .int (f2 f mA)), (3, .int 0), (4, .int s35_0), (5, .int i40_5), (6, .int (f2 f i40_1)), (7, .int s83_0), (8, .int s99_0)], [.int s115_0], M_40) (fun v M' => ∃ (x : Int32) (I' : rI) (R' : rR), v = some (.int x) ∧ RS g m0 q z I' R' M' ∧ eqI [26, 47, 48] I I' ∧ eqR [34, 35, 36, 37, 38, 39, 40, 41, 42, 43, 44, 45, 46] R R' ∧ (x = 0 ∨ x = 1) ∧ (x = 0 ∨ ∃ k : Nat, k ≤ 8192 ∧ I' 26 = some (nI k) ∧ MKN f n S sa sl ch k R')) := by
                intro s115_0
                refine ml_st (S' := (117, [(9, .int s115_0), (0, .ref m0), (1, .int i40_1), (2, .int (f2 f mA)), (3, .int 0), (4, .int s35_0), (5, .int i40_5), (6, .int (f2 f i40_1)), (7, .int s83_0), (8, .int s99_0)], [], M_40)) rfl rfl rfl ?_
                refine ml_st (S' := (119, [(9, .int s115_0), (0, .ref m0), (1, .int i40_1), (2, .int (f2 f mA)), (3, .int 0), (4, .int s35_0), (5, .int i40_5), (6, .int (f2 f i40_1)), (7, .int s83_0), (8, .int s99_0)], [.int s83_0], M_40)) rfl rfl rfl ?_
                refine ml_if (S1 := (147, [(0, .ref m0), (1, .int i40_1)], [], M_40)) (S2 := (122, [(9, .int s115_0), (0, .ref m0), (1, .int i40_1), (2, .int (f2 f mA)), (3, .int 0), (4, .int s35_0), (5, .int i40_5), (6, .int (f2 f i40_1)), (7, .int s83_0), (8, .int s99_0)], [], M_40)) rfl rfl rfl (fun c_119 => ?_) (fun c_119 => ?_)
                · have c_119 : s83_0 < 0 := of_decide_eq_true c_119
                  refine ml_blk 3 (S' := (151, [(0, .ref m0), (1, .int i40_1)], [.int i40_1, .int 24, .ref m0], M_40)) rfl ?_
                  refine ml_blk 2 (S' := (153, [(0, .ref m0), (1, .int i40_1)], [.int (i40_1 + 2), .int 24, .ref m0], M_40)) rfl ?_
                  refine ml_call (a := [.ref m0, .int 24, .int (i40_1 + 2)]) (rest := []) rfl (hR_40.okc rfl rfl rfl) rfl rfl (rm_wrong hR_40 (by omega)) (fun v25 M26 h27 => ?_)
                  obtain ⟨u33, I28, R29, rfl, hR30, hI31, hV32, z34, w35⟩ := h27
                  show ml _ _ _ (156, [(0, .ref m0), (1, .int i40_1)], [.int u33], M26) _
                  exact ml_ret rfl (r_z (z34)) (⟨_, _, _, rfl, hR30, ((eqI.rf.tr hI_40 (by decide)).tr hI31 (by decide)), ((eqR.rf.tr hV_40 (by decide)).tr hV32 (by decide)), z34, Or.inl w35⟩)
                · have c_119 : ¬ (s83_0 < 0) := of_decide_eq_false c_119
                  have hnm := hj_83.resolve_left c_119
                  refine ml_st (S' := (124, [(9, .int s115_0), (0, .ref m0), (1, .int i40_1), (2, .int (f2 f mA)), (3, .int 0), (4, .int s35_0), (5, .int i40_5), (6, .int (f2 f i40_1)), (7, .int s83_0), (8, .int s99_0)], [.int s115_0], M_40)) rfl rfl rfl ?_
                  have J_157 : ml (mT g) d (mb_191 g).2 (157, [(0, .ref m0), (1, .int i40_1), (2, .int (f2 f mA)), (3, .int 0), (4, .int s35_0), (5, .int i40_5), (6, .int (f2 f i40_1)), (7, .int s83_0), (8, .int s99_0), (9, .int s115_0)], [], M_40) (fun v M' => ∃ (x : Int32) (I' : rI) (R' : rR), v = some (.int x) ∧ RS g m0 q z I' R' M' ∧ eqI [26, 47, 48] I I' ∧ eqR [34, 35, 36, 37, 38, 39, 40, 41, 42, 43, 44, 45, 46] R R' ∧ (x = 0 ∨ x = 1) ∧ (x = 0 ∨ ∃ k : Nat, k ≤ 8192 ∧ I' 26 = some (nI k) ∧ MKN f n S sa sl ch k R')) := by
                    refine ml_st (S' := (159, [(0, .ref m0), (1, .int i40_1), (2, .int (f2 f mA)), (3, .int 0), (4, .int s35_0), (5, .int i40_5), (6, .int (f2 f i40_1)), (7, .int s83_0), (8, .int s99_0), (9, .int s115_0)], [.int s115_0], M_40)) rfl rfl rfl ?_
                    have J_183 : ml (mT g) d (mb_191 g).2 (183, [(0, .ref m0), (1, .int i40_1), (2, .int (f2 f mA)), (3, .int 0), (4, .int s35_0), (5, .int i40_5), (6, .int (f2 f i40_1)), (7, .int s83_0), (8, .int s99_0), (9, .int s115_0)], [], M_40) (fun v M' => ∃ (x : Int32) (I' : rI) (R' : rR), v = some (.int x) ∧ RS g m0 q z I' R' M' ∧ eqI [26, 47, 48] I I' ∧ eqR [34, 35, 36, 37, 38, 39, 40, 41, 42, 43, 44, 45, 46] R R' ∧ (x = 0 ∨ x = 1) ∧ (x = 0 ∨ ∃ k : Nat, k ≤ 8192 ∧ I' 26 = some (nI k) ∧ MKN f n S sa sl ch k R')) := by
                      refine ml_blk 3 (S' := (186, [(0, .ref m0), (1, .int i40_1), (2, .int (f2 f mA)), (3, .int 0), (4, .int s35_0), (5, .int i40_5), (6, .int (f2 f i40_1)), (7, .int s83_0), (8, .int s99_0), (9, .int s115_0)], [.int i40_1, .ref m0, .ref m0], M_40)) rfl ?_
                      refine ml_blk 2 (S' := (188, [(0, .ref m0), (1, .int i40_1), (2, .int (f2 f mA)), (3, .int 0), (4, .int s35_0), (5, .int i40_5), (6, .int (f2 f i40_1)), (7, .int s83_0), (8, .int s99_0), (9, .int s115_0)], [.int (i40_1 + 4), .ref m0, .ref m0], M_40)) rfl ?_
                      refine ml_call (a := [.ref m0, .int (i40_1 + 4)]) (rest := [.ref m0]) rfl (hR_40.okc rfl rfl rfl) rfl rfl (rm_u2 hR_40 hF14 (by omega) (by omega) (by omega)) (fun v36 M37 h38 => ?_)
                      obtain ⟨rfl, h38⟩ := h38
                      rw [h38]
                      show ml _ _ _ (191, [(0, .ref m0), (1, .int i40_1), (2, .int (f2 f mA)), (3, .int 0), (4, .int s35_0), (5, .int i40_5), (6, .int (f2 f i40_1)), (7, .int s83_0), (8, .int s99_0), (9, .int s115_0)], [.int (f2 f (i40_1 + 4)), .ref m0], M_40) _
                      refine ml_call (a := [.ref m0, .int (f2 f (i40_1 + 4))]) (rest := []) rfl (hR_40.okc rfl rfl rfl) rfl rfl (rm_tag hR_40 hF14 hP21 (by omega)) (fun v39 M40 h41 => ?_)
                      obtain ⟨rfl, h41⟩ := h41
                      rw [h41]
                      show ml _ _ _ (194, [(0, .ref m0), (1, .int i40_1), (2, .int (f2 f mA)), (3, .int 0), (4, .int s35_0), (5, .int i40_5), (6, .int (f2 f i40_1)), (7, .int s83_0), (8, .int s99_0), (9, .int s115_0)], [.int (tgf f cp pa (f2 f (i40_1 + 4)))], M_40) _
                      refine ml_st (S' := (195, [(0, .ref m0), (1, .int i40_1), (2, .int (f2 f mA)), (3, .int 0), (4, .int s35_0), (5, .int i40_5), (6, .int (f2 f i40_1)), (7, .int s83_0), (8, .int s99_0), (9, .int s115_0)], [.int 1, .int (tgf f cp pa (f2 f (i40_1 + 4)))], M_40)) rfl rfl rfl ?_
                      have J_213 : ∀ (s213_0 : Int32), (s213_0 < 0 ∨ 0 ≤ s213_0.toInt ∧ s213_0.toInt < S) → ml (mT g) d (mb_191 g).2 (213, [(0, .ref m0), (1, .int i40_1), (2, .int (f2 f mA)), (3, .int 0), (4, .int s35_0), (5, .int i40_5), (6, .int (f2 f i40_1)), (7, .int s83_0), (8, .int s99_0), (9, .int s115_0)], [.int s213_0], M_40) (fun v M' => ∃ (x : Int32) (I' : rI) (R' : rR), v = some (.int x) ∧ RS g m0 q z I' R' M' ∧ eqI [26, 47, 48] I I' ∧ eqR [34, 35, 36, 37, 38, 39, 40, 41, 42, 43, 44, 45, 46] R R' ∧ (x = 0 ∨ x = 1) ∧ (x = 0 ∨ ∃ k : Nat, k ≤ 8192 ∧ I' 26 = some (nI k) ∧ MKN f n S sa sl ch k R')) := by
                        intro s213_0 hj_213
                        refine ml_st (S' := (215, [(10, .int s213_0), (0, .ref m0), (1, .int i40_1), (2, .int (f2 f mA)), (3, .int 0), (4, .int s35_0), (5, .int i40_5), (6, .int (f2 f i40_1)), (7, .int s83_0), (8, .int s99_0), (9, .int s115_0)], [], M_40)) rfl rfl rfl ?_
                        refine ml_st (S' := (217, [(10, .int s213_0), (0, .ref m0), (1, .int i40_1), (2, .int (f2 f mA)), (3, .int 0), (4, .int s35_0), (5, .int i40_5), (6, .int (f2 f i40_1)), (7, .int s83_0), (8, .int s99_0), (9, .int s115_0)], [.int s213_0], M_40)) rfl rfl rfl ?_
                        refine ml_if (S1 := (269, [(0, .ref m0), (1, .int i40_1)], [], M_40)) (S2 := (220, [(10, .int s213_0), (0, .ref m0), (1, .int i40_1), (2, .int (f2 f mA)), (3, .int 0), (4, .int s35_0), (5, .int i40_5), (6, .int (f2 f i40_1)), (7, .int s83_0), (8, .int s99_0), (9, .int s115_0)], [], M_40)) rfl rfl rfl (fun c_217 => ?_) (fun c_217 => ?_)
                        · have c_217 : s213_0 < 0 := of_decide_eq_true c_217
                          refine ml_blk 3 (S' := (273, [(0, .ref m0), (1, .int i40_1)], [.int i40_1, .int 25, .ref m0], M_40)) rfl ?_
                          refine ml_blk 2 (S' := (275, [(0, .ref m0), (1, .int i40_1)], [.int (i40_1 + 4), .int 25, .ref m0], M_40)) rfl ?_
                          refine ml_call (a := [.ref m0, .int 25, .int (i40_1 + 4)]) (rest := []) rfl (hR_40.okc rfl rfl rfl) rfl rfl (rm_wrong hR_40 (by omega)) (fun v42 M43 h44 => ?_)
                          obtain ⟨u50, I45, R46, rfl, hR47, hI48, hV49, z51, w52⟩ := h44
                          show ml _ _ _ (278, [(0, .ref m0), (1, .int i40_1)], [.int u50], M43) _
                          exact ml_ret rfl (r_z (z51)) (⟨_, _, _, rfl, hR47, ((eqI.rf.tr hI_40 (by decide)).tr hI48 (by decide)), ((eqR.rf.tr hV_40 (by decide)).tr hV49 (by decide)), z51, Or.inl w52⟩)
                        · have c_217 : ¬ (s213_0 < 0) := of_decide_eq_false c_217
                          have hds := hj_213.resolve_left c_217
                          refine ml_blk 2 (S' := (223, [(10, .int s213_0), (0, .ref m0), (1, .int i40_1), (2, .int (f2 f mA)), (3, .int 0), (4, .int s35_0), (5, .int i40_5), (6, .int (f2 f i40_1)), (7, .int s83_0), (8, .int s99_0), (9, .int s115_0)], [.int s213_0, .ref m0], M_40)) rfl ?_
                          have hY53 : SK S cN sa sl ch I_40 R_40 := (hY.mono (cIx hI_40 (by decide)) (cRx hV_40 (by decide)))
                          refine ml_call (a := [.ref m0, .int s213_0]) (rest := []) rfl (hR_40.okc rfl rfl rfl) rfl rfl (rm_isMethod hR_40 hY53 (hds.1) (hds.2) (by omega)) (fun v54 M55 h56 => ?_)
                          obtain ⟨⟨u57, rfl, z58, w59⟩, h56⟩ := h56
                          rw [h56]
                          show ml _ _ _ (226, [(10, .int s213_0), (0, .ref m0), (1, .int i40_1), (2, .int (f2 f mA)), (3, .int 0), (4, .int s35_0), (5, .int i40_5), (6, .int (f2 f i40_1)), (7, .int s83_0), (8, .int s99_0), (9, .int s115_0)], [.int u57], M_40) _
                          refine ml_if (S1 := (269, [(0, .ref m0), (1, .int i40_1)], [], M_40)) (S2 := (229, [(10, .int s213_0), (0, .ref m0), (1, .int i40_1), (2, .int (f2 f mA)), (3, .int 0), (4, .int s35_0), (5, .int i40_5), (6, .int (f2 f i40_1)), (7, .int s83_0), (8, .int s99_0), (9, .int s115_0)], [], M_40)) rfl rfl rfl (fun c_226 => ?_) (fun c_226 => ?_)
                          · have c_226 : u57 = 0 := of_decide_eq_true c_226
                            refine ml_blk 3 (S' := (273, [(0, .ref m0), (1, .int i40_1)], [.int i40_1, .int 25, .ref m0], M_40)) rfl ?_
                            refine ml_blk 2 (S' := (275, [(0, .ref m0), (1, .int i40_1)], [.int (i40_1 + 4), .int 25, .ref m0], M_40)) rfl ?_
                            refine ml_call (a := [.ref m0, .int 25, .int (i40_1 + 4)]) (rest := []) rfl (hR_40.okc rfl rfl rfl) rfl rfl (rm_wrong hR_40 (by omega)) (fun v60 M61 h62 => ?_)
                            obtain ⟨u68, I63, R64, rfl, hR65, hI66, hV67, z69, w70⟩ := h62
                            show ml _ _ _ (278, [(0, .ref m0), (1, .int i40_1)], [.int u68], M61) _
                            exact ml_ret rfl (r_z (z69)) (⟨_, _, _, rfl, hR65, ((eqI.rf.tr hI_40 (by decide)).tr hI66 (by decide)), ((eqR.rf.tr hV_40 (by decide)).tr hV67 (by decide)), z69, Or.inl w70⟩)
                          · have c_226 : ¬ (u57 = 0) := of_decide_eq_false c_226
                            have hmt := w59.resolve_left c_226
                            refine ml_st (S' := (231, [(10, .int s213_0), (0, .ref m0), (1, .int i40_1), (2, .int (f2 f mA)), (3, .int 0), (4, .int s35_0), (5, .int i40_5), (6, .int (f2 f i40_1)), (7, .int s83_0), (8, .int s99_0), (9, .int s115_0)], [.int s99_0], M_40)) rfl rfl rfl ?_
                            have J_243 : ml (mT g) d (mb_191 g).2 (243, [(0, .ref m0), (1, .int i40_1), (2, .int (f2 f mA)), (3, .int 0), (4, .int s35_0), (5, .int i40_5), (6, .int (f2 f i40_1)), (7, .int s83_0), (9, .int s115_0), (10, .int s213_0)], [], M_40) (fun v M' => ∃ (x : Int32) (I' : rI) (R' : rR), v = some (.int x) ∧ RS g m0 q z I' R' M' ∧ eqI [26, 47, 48] I I' ∧ eqR [34, 35, 36, 37, 38, 39, 40, 41, 42, 43, 44, 45, 46] R R' ∧ (x = 0 ∨ x = 1) ∧ (x = 0 ∨ ∃ k : Nat, k ≤ 8192 ∧ I' 26 = some (nI k) ∧ MKN f n S sa sl ch k R')) := by
                              refine ml_blk 2 (S' := (246, [(0, .ref m0), (1, .int i40_1), (2, .int (f2 f mA)), (3, .int 0), (4, .int s35_0), (5, .int i40_5), (6, .int (f2 f i40_1)), (7, .int s83_0), (9, .int s115_0), (10, .int s213_0)], [.int s213_0, .ref m0], M_40)) rfl ?_
                              refine ml_call (a := [.ref m0, .int s213_0]) (rest := []) rfl (hR_40.okc rfl rfl rfl) rfl rfl (rm_places0 hR_40 hY53 (hds.1) (hds.2) (hmt.1) (by omega)) (fun v71 M72 h73 => ?_)
                              obtain ⟨⟨u74, rfl⟩, h73⟩ := h73
                              rw [h73]
                              show ml _ _ _ (249, [(0, .ref m0), (1, .int i40_1), (2, .int (f2 f mA)), (3, .int 0), (4, .int s35_0), (5, .int i40_5), (6, .int (f2 f i40_1)), (7, .int s83_0), (9, .int s115_0), (10, .int s213_0)], [.int u74], M_40) _
                              refine ml_blk 3 (S' := (254, [(0, .ref m0), (1, .int i40_1), (2, .int (f2 f mA)), (3, .int 0), (4, .int s35_0), (5, .int i40_5), (6, .int (f2 f i40_1)), (7, .int s83_0), (9, .int s115_0), (10, .int s213_0)], [.int ((f2 f i40_1) &&& 8), .int u74], M_40)) rfl ?_
                              have J_262 : ∀ (s262_0 : Int32), ml (mT g) d (mb_191 g).2 (262, [(0, .ref m0), (1, .int i40_1), (2, .int (f2 f mA)), (3, .int 0), (4, .int s35_0), (5, .int i40_5), (6, .int (f2 f i40_1)), (7, .int s83_0), (9, .int s115_0), (10, .int s213_0)], [.int s262_0, .int u74], M_40) (fun v M' => ∃ (x : Int32) (I' : rI) (R' : rR), v = some (.int x) ∧ RS g m0 q z I' R' M' ∧ eqI [26, 47, 48] I I' ∧ eqR [34, 35, 36, 37, 38, 39, 40, 41, 42, 43, 44, 45, 46] R R' ∧ (x = 0 ∨ x = 1) ∧ (x = 0 ∨ ∃ k : Nat, k ≤ 8192 ∧ I' 26 = some (nI k) ∧ MKN f n S sa sl ch k R')) := by
                                intro s262_0
                                refine ml_blk 2 (S' := (266, [(0, .ref m0), (1, .int i40_1), (2, .int (f2 f mA)), (3, .int 0), (4, .int s35_0), (5, .int i40_5), (6, .int (f2 f i40_1)), (7, .int s83_0), (9, .int s115_0), (10, .int s213_0)], [.int 255, .int (u74 + s262_0)], M_40)) rfl ?_
                                refine ml_if2 (S1 := (279, [(0, .ref m0), (1, .int i40_1), (2, .int (f2 f mA)), (3, .int 0), (4, .int s35_0), (5, .int i40_5), (6, .int (f2 f i40_1)), (7, .int s83_0), (9, .int s115_0), (10, .int s213_0)], [], M_40)) (S2 := (269, [(0, .ref m0), (1, .int i40_1)], [], M_40)) rfl rfl rfl (fun c_266 => ?_) (fun c_266 => ?_)
                                · have c_266 : (u74 + s262_0) ≤ 255 := of_decide_eq_true c_266
                                  refine ml_st (S' := (280, [(0, .ref m0), (1, .int i40_1), (2, .int (f2 f mA)), (3, .int 0), (4, .int s35_0), (5, .int i40_5), (6, .int (f2 f i40_1)), (7, .int s83_0), (9, .int s115_0), (10, .int s213_0)], [.ref m0], M_40)) rfl rfl rfl ?_
                                  refine rg_int (S' := (283, [(0, .ref m0), (1, .int i40_1), (2, .int (f2 f mA)), (3, .int 0), (4, .int s35_0), (5, .int i40_5), (6, .int (f2 f i40_1)), (7, .int s83_0), (9, .int s115_0), (10, .int s213_0)], [.int i40_5], M_40)) rfl hR_40 rfl (h26) rfl ?_
                                  refine ml_st (S' := (285, [(11, .int i40_5), (0, .ref m0), (1, .int i40_1), (2, .int (f2 f mA)), (3, .int 0), (4, .int s35_0), (5, .int i40_5), (6, .int (f2 f i40_1)), (7, .int s83_0), (9, .int s115_0), (10, .int s213_0)], [], M_40)) rfl rfl rfl ?_
                                  refine ml_st (S' := (286, [(11, .int i40_5), (0, .ref m0), (1, .int i40_1), (2, .int (f2 f mA)), (3, .int 0), (4, .int s35_0), (5, .int i40_5), (6, .int (f2 f i40_1)), (7, .int s83_0), (9, .int s115_0), (10, .int s213_0)], [.ref m0], M_40)) rfl rfl rfl ?_
                                  refine rg_ref (S' := (289, [(11, .int i40_5), (0, .ref m0), (1, .int i40_1), (2, .int (f2 f mA)), (3, .int 0), (4, .int s35_0), (5, .int i40_5), (6, .int (f2 f i40_1)), (7, .int s83_0), (9, .int s115_0), (10, .int s213_0)], [.ref (q 34)], M_40)) rfl hR_40 rfl rfl ?_
                                  refine ml_blk 2 (S' := (293, [(11, .int i40_5), (0, .ref m0), (1, .int i40_1), (2, .int (f2 f mA)), (3, .int 0), (4, .int s35_0), (5, .int i40_5), (6, .int (f2 f i40_1)), (7, .int s83_0), (9, .int s115_0), (10, .int s213_0)], [.int (f2 f i40_1), .int i40_5, .ref (q 34)], M_40)) rfl ?_
                                  refine ra_st (k := 34) rfl hR_40 rfl (vin_lt hk0 (by omega)) (fun M75 R76 hR77 e78 g79 f80 => ?_)
                                  show ml _ _ _ (294, [(11, .int i40_5), (0, .ref m0), (1, .int i40_1), (2, .int (f2 f mA)), (3, .int 0), (4, .int s35_0), (5, .int i40_5), (6, .int (f2 f i40_1)), (7, .int s83_0), (9, .int s115_0), (10, .int s213_0)], [], M75) _
                                  refine ml_st (S' := (295, [(11, .int i40_5), (0, .ref m0), (1, .int i40_1), (2, .int (f2 f mA)), (3, .int 0), (4, .int s35_0), (5, .int i40_5), (6, .int (f2 f i40_1)), (7, .int s83_0), (9, .int s115_0), (10, .int s213_0)], [.ref m0], M75)) rfl rfl rfl ?_
                                  refine rg_ref (S' := (298, [(11, .int i40_5), (0, .ref m0), (1, .int i40_1), (2, .int (f2 f mA)), (3, .int 0), (4, .int s35_0), (5, .int i40_5), (6, .int (f2 f i40_1)), (7, .int s83_0), (9, .int s115_0), (10, .int s213_0)], [.ref (q 35)], M75)) rfl hR77 rfl rfl ?_
                                  refine ml_blk 2 (S' := (302, [(11, .int i40_5), (0, .ref m0), (1, .int i40_1), (2, .int (f2 f mA)), (3, .int 0), (4, .int s35_0), (5, .int i40_5), (6, .int (f2 f i40_1)), (7, .int s83_0), (9, .int s115_0), (10, .int s213_0)], [.int s83_0, .int i40_5, .ref (q 35)], M75)) rfl ?_
                                  refine ra_st (k := 35) rfl hR77 rfl (vin_lt hk0 (by omega)) (fun M81 R82 hR83 e84 g85 f86 => ?_)
                                  show ml _ _ _ (303, [(11, .int i40_5), (0, .ref m0), (1, .int i40_1), (2, .int (f2 f mA)), (3, .int 0), (4, .int s35_0), (5, .int i40_5), (6, .int (f2 f i40_1)), (7, .int s83_0), (9, .int s115_0), (10, .int s213_0)], [], M81) _
                                  refine ml_st (S' := (304, [(11, .int i40_5), (0, .ref m0), (1, .int i40_1), (2, .int (f2 f mA)), (3, .int 0), (4, .int s35_0), (5, .int i40_5), (6, .int (f2 f i40_1)), (7, .int s83_0), (9, .int s115_0), (10, .int s213_0)], [.ref m0], M81)) rfl rfl rfl ?_
                                  refine rg_ref (S' := (307, [(11, .int i40_5), (0, .ref m0), (1, .int i40_1), (2, .int (f2 f mA)), (3, .int 0), (4, .int s35_0), (5, .int i40_5), (6, .int (f2 f i40_1)), (7, .int s83_0), (9, .int s115_0), (10, .int s213_0)], [.ref (q 36)], M81)) rfl hR83 rfl rfl ?_
                                  refine ml_blk 2 (S' := (311, [(11, .int i40_5), (0, .ref m0), (1, .int i40_1), (2, .int (f2 f mA)), (3, .int 0), (4, .int s35_0), (5, .int i40_5), (6, .int (f2 f i40_1)), (7, .int s83_0), (9, .int s115_0), (10, .int s213_0)], [.int s213_0, .int i40_5, .ref (q 36)], M81)) rfl ?_
                                  refine ra_st (k := 36) rfl hR83 rfl (vin_lt hk0 (by omega)) (fun M87 R88 hR89 e90 g91 f92 => ?_)
                                  show ml _ _ _ (312, [(11, .int i40_5), (0, .ref m0), (1, .int i40_1), (2, .int (f2 f mA)), (3, .int 0), (4, .int s35_0), (5, .int i40_5), (6, .int (f2 f i40_1)), (7, .int s83_0), (9, .int s115_0), (10, .int s213_0)], [], M87) _
                                  refine ml_st (S' := (313, [(11, .int i40_5), (0, .ref m0), (1, .int i40_1), (2, .int (f2 f mA)), (3, .int 0), (4, .int s35_0), (5, .int i40_5), (6, .int (f2 f i40_1)), (7, .int s83_0), (9, .int s115_0), (10, .int s213_0)], [.ref m0], M87)) rfl rfl rfl ?_
                                  refine rg_ref (S' := (316, [(11, .int i40_5), (0, .ref m0), (1, .int i40_1), (2, .int (f2 f mA)), (3, .int 0), (4, .int s35_0), (5, .int i40_5), (6, .int (f2 f i40_1)), (7, .int s83_0), (9, .int s115_0), (10, .int s213_0)], [.ref (q 37)], M87)) rfl hR89 rfl rfl ?_
                                  refine ml_blk 2 (S' := (319, [(11, .int i40_5), (0, .ref m0), (1, .int i40_1), (2, .int (f2 f mA)), (3, .int 0), (4, .int s35_0), (5, .int i40_5), (6, .int (f2 f i40_1)), (7, .int s83_0), (9, .int s115_0), (10, .int s213_0)], [.int (-1), .int i40_5, .ref (q 37)], M87)) rfl ?_
                                  refine ra_st (k := 37) rfl hR89 rfl (vin_lt hk0 (by omega)) (fun M93 R94 hR95 e96 g97 f98 => ?_)
                                  show ml _ _ _ (320, [(11, .int i40_5), (0, .ref m0), (1, .int i40_1), (2, .int (f2 f mA)), (3, .int 0), (4, .int s35_0), (5, .int i40_5), (6, .int (f2 f i40_1)), (7, .int s83_0), (9, .int s115_0), (10, .int s213_0)], [], M93) _
                                  refine ml_st (S' := (321, [(11, .int i40_5), (0, .ref m0), (1, .int i40_1), (2, .int (f2 f mA)), (3, .int 0), (4, .int s35_0), (5, .int i40_5), (6, .int (f2 f i40_1)), (7, .int s83_0), (9, .int s115_0), (10, .int s213_0)], [.ref m0], M93)) rfl rfl rfl ?_
                                  refine rg_ref (S' := (324, [(11, .int i40_5), (0, .ref m0), (1, .int i40_1), (2, .int (f2 f mA)), (3, .int 0), (4, .int s35_0), (5, .int i40_5), (6, .int (f2 f i40_1)), (7, .int s83_0), (9, .int s115_0), (10, .int s213_0)], [.ref (q 38)], M93)) rfl hR95 rfl rfl ?_
                                  refine ml_blk 2 (S' := (327, [(11, .int i40_5), (0, .ref m0), (1, .int i40_1), (2, .int (f2 f mA)), (3, .int 0), (4, .int s35_0), (5, .int i40_5), (6, .int (f2 f i40_1)), (7, .int s83_0), (9, .int s115_0), (10, .int s213_0)], [.int 0, .int i40_5, .ref (q 38)], M93)) rfl ?_
                                  refine ra_st (k := 38) rfl hR95 rfl (vin_lt hk0 (by omega)) (fun M99 R100 hR101 e102 g103 f104 => ?_)
                                  show ml _ _ _ (328, [(11, .int i40_5), (0, .ref m0), (1, .int i40_1), (2, .int (f2 f mA)), (3, .int 0), (4, .int s35_0), (5, .int i40_5), (6, .int (f2 f i40_1)), (7, .int s83_0), (9, .int s115_0), (10, .int s213_0)], [], M99) _
                                  refine ml_st (S' := (329, [(11, .int i40_5), (0, .ref m0), (1, .int i40_1), (2, .int (f2 f mA)), (3, .int 0), (4, .int s35_0), (5, .int i40_5), (6, .int (f2 f i40_1)), (7, .int s83_0), (9, .int s115_0), (10, .int s213_0)], [.ref m0], M99)) rfl rfl rfl ?_
                                  refine rg_ref (S' := (332, [(11, .int i40_5), (0, .ref m0), (1, .int i40_1), (2, .int (f2 f mA)), (3, .int 0), (4, .int s35_0), (5, .int i40_5), (6, .int (f2 f i40_1)), (7, .int s83_0), (9, .int s115_0), (10, .int s213_0)], [.ref (q 39)], M99)) rfl hR101 rfl rfl ?_
                                  refine ml_blk 2 (S' := (335, [(11, .int i40_5), (0, .ref m0), (1, .int i40_1), (2, .int (f2 f mA)), (3, .int 0), (4, .int s35_0), (5, .int i40_5), (6, .int (f2 f i40_1)), (7, .int s83_0), (9, .int s115_0), (10, .int s213_0)], [.int 0, .int i40_5, .ref (q 39)], M99)) rfl ?_
                                  refine ra_st (k := 39) rfl hR101 rfl (vin_lt hk0 (by omega)) (fun M105 R106 hR107 e108 g109 f110 => ?_)
                                  show ml _ _ _ (336, [(11, .int i40_5), (0, .ref m0), (1, .int i40_1), (2, .int (f2 f mA)), (3, .int 0), (4, .int s35_0), (5, .int i40_5), (6, .int (f2 f i40_1)), (7, .int s83_0), (9, .int s115_0), (10, .int s213_0)], [], M105) _
                                  refine ml_st (S' := (337, [(11, .int i40_5), (0, .ref m0), (1, .int i40_1), (2, .int (f2 f mA)), (3, .int 0), (4, .int s35_0), (5, .int i40_5), (6, .int (f2 f i40_1)), (7, .int s83_0), (9, .int s115_0), (10, .int s213_0)], [.ref m0], M105)) rfl rfl rfl ?_
                                  refine rg_ref (S' := (340, [(11, .int i40_5), (0, .ref m0), (1, .int i40_1), (2, .int (f2 f mA)), (3, .int 0), (4, .int s35_0), (5, .int i40_5), (6, .int (f2 f i40_1)), (7, .int s83_0), (9, .int s115_0), (10, .int s213_0)], [.ref (q 40)], M105)) rfl hR107 rfl rfl ?_
                                  refine ml_blk 2 (S' := (343, [(11, .int i40_5), (0, .ref m0), (1, .int i40_1), (2, .int (f2 f mA)), (3, .int 0), (4, .int s35_0), (5, .int i40_5), (6, .int (f2 f i40_1)), (7, .int s83_0), (9, .int s115_0), (10, .int s213_0)], [.int 0, .int i40_5, .ref (q 40)], M105)) rfl ?_
                                  refine ra_st (k := 40) rfl hR107 rfl (vin_lt hk0 (by omega)) (fun M111 R112 hR113 e114 g115 f116 => ?_)
                                  show ml _ _ _ (344, [(11, .int i40_5), (0, .ref m0), (1, .int i40_1), (2, .int (f2 f mA)), (3, .int 0), (4, .int s35_0), (5, .int i40_5), (6, .int (f2 f i40_1)), (7, .int s83_0), (9, .int s115_0), (10, .int s213_0)], [], M111) _
                                  refine ml_st (S' := (345, [(11, .int i40_5), (0, .ref m0), (1, .int i40_1), (2, .int (f2 f mA)), (3, .int 0), (4, .int s35_0), (5, .int i40_5), (6, .int (f2 f i40_1)), (7, .int s83_0), (9, .int s115_0), (10, .int s213_0)], [.ref m0], M111)) rfl rfl rfl ?_
                                  refine rg_ref (S' := (348, [(11, .int i40_5), (0, .ref m0), (1, .int i40_1), (2, .int (f2 f mA)), (3, .int 0), (4, .int s35_0), (5, .int i40_5), (6, .int (f2 f i40_1)), (7, .int s83_0), (9, .int s115_0), (10, .int s213_0)], [.ref (q 42)], M111)) rfl hR113 rfl rfl ?_
                                  refine ml_blk 2 (S' := (351, [(11, .int i40_5), (0, .ref m0), (1, .int i40_1), (2, .int (f2 f mA)), (3, .int 0), (4, .int s35_0), (5, .int i40_5), (6, .int (f2 f i40_1)), (7, .int s83_0), (9, .int s115_0), (10, .int s213_0)], [.int 0, .int i40_5, .ref (q 42)], M111)) rfl ?_
                                  refine ra_st (k := 42) rfl hR113 rfl (vin_lt hk0 (by omega)) (fun M117 R118 hR119 e120 g121 f122 => ?_)
                                  show ml _ _ _ (352, [(11, .int i40_5), (0, .ref m0), (1, .int i40_1), (2, .int (f2 f mA)), (3, .int 0), (4, .int s35_0), (5, .int i40_5), (6, .int (f2 f i40_1)), (7, .int s83_0), (9, .int s115_0), (10, .int s213_0)], [], M117) _
                                  refine ml_st (S' := (353, [(11, .int i40_5), (0, .ref m0), (1, .int i40_1), (2, .int (f2 f mA)), (3, .int 0), (4, .int s35_0), (5, .int i40_5), (6, .int (f2 f i40_1)), (7, .int s83_0), (9, .int s115_0), (10, .int s213_0)], [.ref m0], M117)) rfl rfl rfl ?_
                                  refine rg_ref (S' := (356, [(11, .int i40_5), (0, .ref m0), (1, .int i40_1), (2, .int (f2 f mA)), (3, .int 0), (4, .int s35_0), (5, .int i40_5), (6, .int (f2 f i40_1)), (7, .int s83_0), (9, .int s115_0), (10, .int s213_0)], [.ref (q 43)], M117)) rfl hR119 rfl rfl ?_
                                  refine ml_blk 2 (S' := (359, [(11, .int i40_5), (0, .ref m0), (1, .int i40_1), (2, .int (f2 f mA)), (3, .int 0), (4, .int s35_0), (5, .int i40_5), (6, .int (f2 f i40_1)), (7, .int s83_0), (9, .int s115_0), (10, .int s213_0)], [.int 0, .int i40_5, .ref (q 43)], M117)) rfl ?_
                                  refine ra_st (k := 43) rfl hR119 rfl (vin_lt hk0 (by omega)) (fun M123 R124 hR125 e126 g127 f128 => ?_)
                                  show ml _ _ _ (360, [(11, .int i40_5), (0, .ref m0), (1, .int i40_1), (2, .int (f2 f mA)), (3, .int 0), (4, .int s35_0), (5, .int i40_5), (6, .int (f2 f i40_1)), (7, .int s83_0), (9, .int s115_0), (10, .int s213_0)], [], M123) _
                                  refine ml_st (S' := (361, [(11, .int i40_5), (0, .ref m0), (1, .int i40_1), (2, .int (f2 f mA)), (3, .int 0), (4, .int s35_0), (5, .int i40_5), (6, .int (f2 f i40_1)), (7, .int s83_0), (9, .int s115_0), (10, .int s213_0)], [.ref m0], M123)) rfl rfl rfl ?_
                                  refine rg_ref (S' := (364, [(11, .int i40_5), (0, .ref m0), (1, .int i40_1), (2, .int (f2 f mA)), (3, .int 0), (4, .int s35_0), (5, .int i40_5), (6, .int (f2 f i40_1)), (7, .int s83_0), (9, .int s115_0), (10, .int s213_0)], [.ref (q 44)], M123)) rfl hR125 rfl rfl ?_
                                  refine ml_blk 2 (S' := (367, [(11, .int i40_5), (0, .ref m0), (1, .int i40_1), (2, .int (f2 f mA)), (3, .int 0), (4, .int s35_0), (5, .int i40_5), (6, .int (f2 f i40_1)), (7, .int s83_0), (9, .int s115_0), (10, .int s213_0)], [.int 0, .int i40_5, .ref (q 44)], M123)) rfl ?_
                                  refine ra_st (k := 44) rfl hR125 rfl (vin_lt hk0 (by omega)) (fun M129 R130 hR131 e132 g133 f134 => ?_)
                                  show ml _ _ _ (368, [(11, .int i40_5), (0, .ref m0), (1, .int i40_1), (2, .int (f2 f mA)), (3, .int 0), (4, .int s35_0), (5, .int i40_5), (6, .int (f2 f i40_1)), (7, .int s83_0), (9, .int s115_0), (10, .int s213_0)], [], M129) _
                                  refine ml_st (S' := (369, [(11, .int i40_5), (0, .ref m0), (1, .int i40_1), (2, .int (f2 f mA)), (3, .int 0), (4, .int s35_0), (5, .int i40_5), (6, .int (f2 f i40_1)), (7, .int s83_0), (9, .int s115_0), (10, .int s213_0)], [.ref m0], M129)) rfl rfl rfl ?_
                                  refine rg_ref (S' := (372, [(11, .int i40_5), (0, .ref m0), (1, .int i40_1), (2, .int (f2 f mA)), (3, .int 0), (4, .int s35_0), (5, .int i40_5), (6, .int (f2 f i40_1)), (7, .int s83_0), (9, .int s115_0), (10, .int s213_0)], [.ref (q 45)], M129)) rfl hR131 rfl rfl ?_
                                  refine ml_blk 3 (S' := (376, [(11, .int i40_5), (0, .ref m0), (1, .int i40_1), (2, .int (f2 f mA)), (3, .int 0), (4, .int s35_0), (5, .int i40_5), (6, .int (f2 f i40_1)), (7, .int s83_0), (9, .int s115_0), (10, .int s213_0)], [.int i40_1, .ref m0, .int i40_5, .ref (q 45)], M129)) rfl ?_
                                  refine ml_blk 2 (S' := (378, [(11, .int i40_5), (0, .ref m0), (1, .int i40_1), (2, .int (f2 f mA)), (3, .int 0), (4, .int s35_0), (5, .int i40_5), (6, .int (f2 f i40_1)), (7, .int s83_0), (9, .int s115_0), (10, .int s213_0)], [.int (i40_1 + 2), .ref m0, .int i40_5, .ref (q 45)], M129)) rfl ?_
                                  have hF135 : FK n f I_40 R130 := ((((((((((hF14.mono (fun _ _ => rfl) (pRx f80 (by decide))).mono (fun _ _ => rfl) (pRx f86 (by decide))).mono (fun _ _ => rfl) (pRx f92 (by decide))).mono (fun _ _ => rfl) (pRx f98 (by decide))).mono (fun _ _ => rfl) (pRx f104 (by decide))).mono (fun _ _ => rfl) (pRx f110 (by decide))).mono (fun _ _ => rfl) (pRx f116 (by decide))).mono (fun _ _ => rfl) (pRx f122 (by decide))).mono (fun _ _ => rfl) (pRx f128 (by decide))).mono (fun _ _ => rfl) (pRx f134 (by decide)))
                                  refine ml_call (a := [.ref m0, .int (i40_1 + 2)]) (rest := [.int i40_5, .ref (q 45)]) rfl (hR131.okc rfl rfl rfl) rfl rfl (rm_u2 hR131 hF135 (by omega) (by omega) (by omega)) (fun v136 M137 h138 => ?_)
                                  obtain ⟨rfl, h138⟩ := h138
                                  rw [h138]
                                  show ml _ _ _ (381, [(11, .int i40_5), (0, .ref m0), (1, .int i40_1), (2, .int (f2 f mA)), (3, .int 0), (4, .int s35_0), (5, .int i40_5), (6, .int (f2 f i40_1)), (7, .int s83_0), (9, .int s115_0), (10, .int s213_0)], [.int (f2 f (i40_1 + 2)), .int i40_5, .ref (q 45)], M129) _
                                  refine ra_st (k := 45) rfl hR131 rfl (vin_lt hk0 (by omega)) (fun M139 R140 hR141 e142 g143 f144 => ?_)
                                  show ml _ _ _ (382, [(11, .int i40_5), (0, .ref m0), (1, .int i40_1), (2, .int (f2 f mA)), (3, .int 0), (4, .int s35_0), (5, .int i40_5), (6, .int (f2 f i40_1)), (7, .int s83_0), (9, .int s115_0), (10, .int s213_0)], [], M139) _
                                  refine ml_st (S' := (383, [(11, .int i40_5), (0, .ref m0), (1, .int i40_1), (2, .int (f2 f mA)), (3, .int 0), (4, .int s35_0), (5, .int i40_5), (6, .int (f2 f i40_1)), (7, .int s83_0), (9, .int s115_0), (10, .int s213_0)], [.ref m0], M139)) rfl rfl rfl ?_
                                  refine rg_ref (S' := (386, [(11, .int i40_5), (0, .ref m0), (1, .int i40_1), (2, .int (f2 f mA)), (3, .int 0), (4, .int s35_0), (5, .int i40_5), (6, .int (f2 f i40_1)), (7, .int s83_0), (9, .int s115_0), (10, .int s213_0)], [.ref (q 46)], M139)) rfl hR141 rfl rfl ?_
                                  refine ml_blk 3 (S' := (390, [(11, .int i40_5), (0, .ref m0), (1, .int i40_1), (2, .int (f2 f mA)), (3, .int 0), (4, .int s35_0), (5, .int i40_5), (6, .int (f2 f i40_1)), (7, .int s83_0), (9, .int s115_0), (10, .int s213_0)], [.int i40_1, .ref m0, .int i40_5, .ref (q 46)], M139)) rfl ?_
                                  refine ml_blk 2 (S' := (392, [(11, .int i40_5), (0, .ref m0), (1, .int i40_1), (2, .int (f2 f mA)), (3, .int 0), (4, .int s35_0), (5, .int i40_5), (6, .int (f2 f i40_1)), (7, .int s83_0), (9, .int s115_0), (10, .int s213_0)], [.int (i40_1 + 4), .ref m0, .int i40_5, .ref (q 46)], M139)) rfl ?_
                                  have hF145 : FK n f I_40 R140 := (hF135.mono (fun _ _ => rfl) (pRx f144 (by decide)))
                                  refine ml_call (a := [.ref m0, .int (i40_1 + 4)]) (rest := [.int i40_5, .ref (q 46)]) rfl (hR141.okc rfl rfl rfl) rfl rfl (rm_u2 hR141 hF145 (by omega) (by omega) (by omega)) (fun v146 M147 h148 => ?_)
                                  obtain ⟨rfl, h148⟩ := h148
                                  rw [h148]
                                  show ml _ _ _ (395, [(11, .int i40_5), (0, .ref m0), (1, .int i40_1), (2, .int (f2 f mA)), (3, .int 0), (4, .int s35_0), (5, .int i40_5), (6, .int (f2 f i40_1)), (7, .int s83_0), (9, .int s115_0), (10, .int s213_0)], [.int (f2 f (i40_1 + 4)), .int i40_5, .ref (q 46)], M139) _
                                  refine ra_st (k := 46) rfl hR141 rfl (vin_lt hk0 (by omega)) (fun M149 R150 hR151 e152 g153 f154 => ?_)
                                  show ml _ _ _ (396, [(11, .int i40_5), (0, .ref m0), (1, .int i40_1), (2, .int (f2 f mA)), (3, .int 0), (4, .int s35_0), (5, .int i40_5), (6, .int (f2 f i40_1)), (7, .int s83_0), (9, .int s115_0), (10, .int s213_0)], [], M149) _
                                  refine ml_st (S' := (397, [(11, .int i40_5), (0, .ref m0), (1, .int i40_1), (2, .int (f2 f mA)), (3, .int 0), (4, .int s35_0), (5, .int i40_5), (6, .int (f2 f i40_1)), (7, .int s83_0), (9, .int s115_0), (10, .int s213_0)], [.int 0], M149)) rfl rfl rfl ?_
                                  refine ml_st (S' := (399, [(0, .ref m0), (1, .int i40_1), (2, .int (f2 f mA)), (3, .int 0), (4, .int s35_0), (5, .int i40_5), (6, .int (f2 f i40_1)), (7, .int s83_0), (9, .int s115_0), (10, .int s213_0), (11, .int i40_5), (12, .int 0)], [], M149)) rfl rfl rfl ?_
                                  have L_399 : ∀ (n_399 : Nat) (i399_12 : Int32), (2147483648 - i399_12.toInt).toNat ≤ n_399 → 0 ≤ i399_12.toInt → ml (mT g) d (mb_191 g).2 (399, [(0, .ref m0), (1, .int i40_1), (2, .int (f2 f mA)), (3, .int 0), (4, .int s35_0), (5, .int i40_5), (6, .int (f2 f i40_1)), (7, .int s83_0), (9, .int s115_0), (10, .int s213_0), (11, .int i40_5), (12, .int i399_12)], [], M149) (fun v M' => ∃ (x : Int32) (I' : rI) (R' : rR), v = some (.int x) ∧ RS g m0 q z I' R' M' ∧ eqI [26, 47, 48] I I' ∧ eqR [34, 35, 36, 37, 38, 39, 40, 41, 42, 43, 44, 45, 46] R R' ∧ (x = 0 ∨ x = 1) ∧ (x = 0 ∨ ∃ k : Nat, k ≤ 8192 ∧ I' 26 = some (nI k) ∧ MKN f n S sa sl ch k R')) := by
                                    intro n_399
                                    induction n_399 with
                                    | zero => intro i399_12 hn; exact (loop_zero hn).elim
                                    | succ n_399 ih_399 =>
                                      intro i399_12 hn_399 hi_399
                                      have hq0 := hi_399
                                      refine ml_blk 2 (S' := (403, [(0, .ref m0), (1, .int i40_1), (2, .int (f2 f mA)), (3, .int 0), (4, .int s35_0), (5, .int i40_5), (6, .int (f2 f i40_1)), (7, .int s83_0), (9, .int s115_0), (10, .int s213_0), (11, .int i40_5), (12, .int i399_12)], [.int i40_5, .int i399_12], M149)) rfl ?_
                                      refine ml_if2 (S1 := (444, [(0, .ref m0), (1, .int i40_1), (2, .int (f2 f mA)), (3, .int 0), (4, .int s35_0), (5, .int i40_5), (6, .int (f2 f i40_1)), (7, .int s83_0), (9, .int s115_0), (10, .int s213_0), (11, .int i40_5), (12, .int i399_12)], [], M149)) (S2 := (406, [(0, .ref m0), (1, .int i40_1), (2, .int (f2 f mA)), (3, .int 0), (4, .int s35_0), (5, .int i40_5), (6, .int (f2 f i40_1)), (7, .int s83_0), (9, .int s115_0), (10, .int s213_0), (11, .int i40_5), (12, .int i399_12)], [], M149)) rfl rfl rfl (fun c_403 => ?_) (fun c_403 => ?_)
                                      · have c_403 : i40_5 ≤ i399_12 := of_decide_eq_true c_403
                                        refine ml_blk 2 (S' := (446, [(0, .ref m0), (1, .int i40_1), (2, .int (f2 f mA)), (3, .int 0), (4, .int s35_0), (5, .int i40_5), (6, .int (f2 f i40_1)), (7, .int s83_0), (9, .int s115_0), (10, .int s213_0), (11, .int i40_5), (12, .int i399_12)], [.ref m0, .ref m0], M149)) rfl ?_
                                        refine rg_int (S' := (449, [(0, .ref m0), (1, .int i40_1), (2, .int (f2 f mA)), (3, .int 0), (4, .int s35_0), (5, .int i40_5), (6, .int (f2 f i40_1)), (7, .int s83_0), (9, .int s115_0), (10, .int s213_0), (11, .int i40_5), (12, .int i399_12)], [.int i40_5, .ref m0], M149)) rfl hR151 rfl (h26) rfl ?_
                                        refine ml_blk 2 (S' := (451, [(0, .ref m0), (1, .int i40_1), (2, .int (f2 f mA)), (3, .int 0), (4, .int s35_0), (5, .int i40_5), (6, .int (f2 f i40_1)), (7, .int s83_0), (9, .int s115_0), (10, .int s213_0), (11, .int i40_5), (12, .int i399_12)], [.int (i40_5 + 1), .ref m0], M149)) rfl ?_
                                        refine rp_int rfl hR151 rfl (fun M155 I156 hR157 e158 f159 => ?_)
                                        show ml _ _ _ (454, [(0, .ref m0), (1, .int i40_1), (2, .int (f2 f mA)), (3, .int 0), (4, .int s35_0), (5, .int i40_5), (6, .int (f2 f i40_1)), (7, .int s83_0), (9, .int s115_0), (10, .int s213_0), (11, .int i40_5), (12, .int i399_12)], [], M155) _
                                        refine ml_blk 3 (S' := (458, [(0, .ref m0), (1, .int i40_1), (2, .int (f2 f mA)), (3, .int 0), (4, .int s35_0), (5, .int i40_5), (6, .int (f2 f i40_1)), (7, .int s83_0), (9, .int s115_0), (10, .int s213_0), (11, .int i40_5), (12, .int i399_12)], [.int 6, .int i40_1, .ref m0], M155)) rfl ?_
                                        refine ml_blk 3 (S' := (462, [(0, .ref m0), (1, .int i40_1), (2, .int (f2 f mA)), (3, .int 0), (4, .int s35_0), (5, .int i40_5), (6, .int (f2 f i40_1)), (7, .int s83_0), (9, .int s115_0), (10, .int s213_0), (11, .int i40_5), (12, .int i399_12)], [.int i40_5, .int 2, .int (i40_1 + 6), .ref m0], M155)) rfl ?_
                                        have hF160 : FK n f I156 R150 := ((hF145.mono (fun _ _ => rfl) (pRx f154 (by decide))).mono (pIx f159 (by decide)) (fun _ _ => rfl))
                                        have hY161 : SK S cN sa sl ch I156 R150 := (((((((((((((hY53.mono (fun _ _ => rfl) (pRx f80 (by decide))).mono (fun _ _ => rfl) (pRx f86 (by decide))).mono (fun _ _ => rfl) (pRx f92 (by decide))).mono (fun _ _ => rfl) (pRx f98 (by decide))).mono (fun _ _ => rfl) (pRx f104 (by decide))).mono (fun _ _ => rfl) (pRx f110 (by decide))).mono (fun _ _ => rfl) (pRx f116 (by decide))).mono (fun _ _ => rfl) (pRx f122 (by decide))).mono (fun _ _ => rfl) (pRx f128 (by decide))).mono (fun _ _ => rfl) (pRx f134 (by decide))).mono (fun _ _ => rfl) (pRx f144 (by decide))).mono (fun _ _ => rfl) (pRx f154 (by decide))).mono (pIx f159 (by decide)) (fun _ _ => rfl))
                                        have hP162 : PK n f S cp mj pa py I156 R150 := (((((((((((((hP21.mono (fun _ _ => rfl) (pRx f80 (by decide))).mono (fun _ _ => rfl) (pRx f86 (by decide))).mono (fun _ _ => rfl) (pRx f92 (by decide))).mono (fun _ _ => rfl) (pRx f98 (by decide))).mono (fun _ _ => rfl) (pRx f104 (by decide))).mono (fun _ _ => rfl) (pRx f110 (by decide))).mono (fun _ _ => rfl) (pRx f116 (by decide))).mono (fun _ _ => rfl) (pRx f122 (by decide))).mono (fun _ _ => rfl) (pRx f128 (by decide))).mono (fun _ _ => rfl) (pRx f134 (by decide))).mono (fun _ _ => rfl) (pRx f144 (by decide))).mono (fun _ _ => rfl) (pRx f154 (by decide))).mono (pIx f159 (by decide)) (fun _ _ => rfl))
                                        have hK163 : KW I156 R150 := ((((((((((((((hK.mono (cIx hI_40 (by decide)) (cRx hV_40 (by decide))).mono (fun _ _ => rfl) (pRx f80 (by decide))).mono (fun _ _ => rfl) (pRx f86 (by decide))).mono (fun _ _ => rfl) (pRx f92 (by decide))).mono (fun _ _ => rfl) (pRx f98 (by decide))).mono (fun _ _ => rfl) (pRx f104 (by decide))).mono (fun _ _ => rfl) (pRx f110 (by decide))).mono (fun _ _ => rfl) (pRx f116 (by decide))).mono (fun _ _ => rfl) (pRx f122 (by decide))).mono (fun _ _ => rfl) (pRx f128 (by decide))).mono (fun _ _ => rfl) (pRx f134 (by decide))).mono (fun _ _ => rfl) (pRx f144 (by decide))).mono (fun _ _ => rfl) (pRx f154 (by decide))).mono (pIx f159 (by decide)) (fun _ _ => rfl))
                                        refine ml_call (a := [.ref m0, .int (i40_1 + 6), .int 2, .int i40_5]) (rest := []) rfl (hR157.okc rfl rfl rfl) rfl rfl (rm_checkAttributes2 hR157 hF160 hY161 hP162 hK163 (rfl) (g2) (hk0) (hk8) ((congrFun ((f154 34 (by decide)).trans ((f144 34 (by decide)).trans ((f134 34 (by decide)).trans ((f128 34 (by decide)).trans ((f122 34 (by decide)).trans ((f116 34 (by decide)).trans ((f110 34 (by decide)).trans ((f104 34 (by decide)).trans ((f98 34 (by decide)).trans ((f92 34 (by decide)).trans ((f86 34 (by decide))))))))))))) _).trans e78) ((congrFun ((f154 36 (by decide)).trans ((f144 36 (by decide)).trans ((f134 36 (by decide)).trans ((f128 36 (by decide)).trans ((f122 36 (by decide)).trans ((f116 36 (by decide)).trans ((f110 36 (by decide)).trans ((f104 36 (by decide)).trans ((f98 36 (by decide))))))))))) _).trans e90) (hds.1) (hds.2) (hmt) (⟨_, (congrFun ((f154 37 (by decide)).trans ((f144 37 (by decide)).trans ((f134 37 (by decide)).trans ((f128 37 (by decide)).trans ((f122 37 (by decide)).trans ((f116 37 (by decide)).trans ((f110 37 (by decide)).trans ((f104 37 (by decide)))))))))) _).trans e96, Or.inl (by decide)⟩) (fun k hk => by simp only [List.mem_cons, List.not_mem_nil, or_false] at hk; rcases hk with rfl | rfl | rfl | rfl | rfl | rfl; exact ⟨_, (congrFun ((f154 38 (by decide)).trans ((f144 38 (by decide)).trans ((f134 38 (by decide)).trans ((f128 38 (by decide)).trans ((f122 38 (by decide)).trans ((f116 38 (by decide)).trans ((f110 38 (by decide))))))))) _).trans e102⟩; exact ⟨_, (congrFun ((f154 39 (by decide)).trans ((f144 39 (by decide)).trans ((f134 39 (by decide)).trans ((f128 39 (by decide)).trans ((f122 39 (by decide)).trans ((f116 39 (by decide)))))))) _).trans e108⟩; exact ⟨_, (congrFun ((f154 40 (by decide)).trans ((f144 40 (by decide)).trans ((f134 40 (by decide)).trans ((f128 40 (by decide)).trans ((f122 40 (by decide))))))) _).trans e114⟩; exact ⟨_, (congrFun ((f154 42 (by decide)).trans ((f144 42 (by decide)).trans ((f134 42 (by decide)).trans ((f128 42 (by decide)))))) _).trans e120⟩; exact ⟨_, (congrFun ((f154 43 (by decide)).trans ((f144 43 (by decide)).trans ((f134 43 (by decide))))) _).trans e126⟩; exact ⟨_, (congrFun ((f154 44 (by decide)).trans ((f144 44 (by decide)))) _).trans e132⟩) (by omega)) (fun v164 M165 h166 => ?_)
                                        obtain ⟨u172, I167, R168, rfl, hR169, hI170, hV171, w173⟩ := h166
                                        show ml _ _ _ (465, [(0, .ref m0), (1, .int i40_1), (2, .int (f2 f mA)), (3, .int 0), (4, .int s35_0), (5, .int i40_5), (6, .int (f2 f i40_1)), (7, .int s83_0), (9, .int s115_0), (10, .int s213_0), (11, .int i40_5), (12, .int i399_12)], [.int u172], M165) _
                                        obtain ⟨hend, hpw9, hmc9, hkn9⟩ := w173
                                        refine ml_st (S' := (467, [(12, .int u172), (0, .ref m0), (1, .int i40_1), (2, .int (f2 f mA)), (3, .int 0), (4, .int s35_0), (5, .int i40_5), (6, .int (f2 f i40_1)), (7, .int s83_0), (9, .int s115_0), (10, .int s213_0), (11, .int i40_5)], [], M165)) rfl rfl rfl ?_
                                        refine ml_st (S' := (469, [(12, .int u172), (0, .ref m0), (1, .int i40_1), (2, .int (f2 f mA)), (3, .int 0), (4, .int s35_0), (5, .int i40_5), (6, .int (f2 f i40_1)), (7, .int s83_0), (9, .int s115_0), (10, .int s213_0), (11, .int i40_5)], [.int u172], M165)) rfl rfl rfl ?_
                                        refine ml_if (S1 := (474, [(12, .int u172), (0, .ref m0), (1, .int i40_1), (2, .int (f2 f mA)), (3, .int 0), (4, .int s35_0), (5, .int i40_5), (6, .int (f2 f i40_1)), (7, .int s83_0), (9, .int s115_0), (10, .int s213_0), (11, .int i40_5)], [], M165)) (S2 := (472, [(12, .int u172), (0, .ref m0), (1, .int i40_1), (2, .int (f2 f mA)), (3, .int 0), (4, .int s35_0), (5, .int i40_5), (6, .int (f2 f i40_1)), (7, .int s83_0), (9, .int s115_0), (10, .int s213_0), (11, .int i40_5)], [], M165)) rfl rfl rfl (fun c_469 => ?_) (fun c_469 => ?_)
                                        · have c_469 : 0 ≤ u172 := of_decide_eq_true c_469
                                          have hub : u172 = b1 := hend.resolve_left (fun q => by have := i_le c_469; have : (0 : Int32).toInt = 0 := rfl; omega)
                                          have hmc8 := hmc9
                                          obtain ⟨vc, hvc, -⟩ := hmc8
                                          refine ml_blk 3 (S' := (480, [(12, .int u172), (0, .ref m0), (1, .int i40_1), (2, .int (f2 f mA)), (3, .int 0), (4, .int s35_0), (5, .int i40_5), (6, .int (f2 f i40_1)), (7, .int s83_0), (9, .int s115_0), (10, .int s213_0), (11, .int i40_5)], [.int ((f2 f i40_1) &&& 1280)], M165)) rfl ?_
                                          have J_493 : ∀ (s493_0 : Int32), ml (mT g) d (mb_191 g).2 (493, [(0, .ref m0), (1, .int i40_1), (2, .int (f2 f mA)), (3, .int 0), (4, .int s35_0), (5, .int i40_5), (11, .int i40_5), (12, .int u172)], [.int s493_0], M165) (fun v M' => ∃ (x : Int32) (I' : rI) (R' : rR), v = some (.int x) ∧ RS g m0 q z I' R' M' ∧ eqI [26, 47, 48] I I' ∧ eqR [34, 35, 36, 37, 38, 39, 40, 41, 42, 43, 44, 45, 46] R R' ∧ (x = 0 ∨ x = 1) ∧ (x = 0 ∨ ∃ k : Nat, k ≤ 8192 ∧ I' 26 = some (nI k) ∧ MKN f n S sa sl ch k R')) := by
                                            intro s493_0
                                            refine ml_st (S' := (495, [(13, .int s493_0), (0, .ref m0), (1, .int i40_1), (2, .int (f2 f mA)), (3, .int 0), (4, .int s35_0), (5, .int i40_5), (11, .int i40_5), (12, .int u172)], [], M165)) rfl rfl rfl ?_
                                            refine ml_st (S' := (496, [(13, .int s493_0), (0, .ref m0), (1, .int i40_1), (2, .int (f2 f mA)), (3, .int 0), (4, .int s35_0), (5, .int i40_5), (11, .int i40_5), (12, .int u172)], [.ref m0], M165)) rfl rfl rfl ?_
                                            refine rg_ref (S' := (499, [(13, .int s493_0), (0, .ref m0), (1, .int i40_1), (2, .int (f2 f mA)), (3, .int 0), (4, .int s35_0), (5, .int i40_5), (11, .int i40_5), (12, .int u172)], [.ref (q 37)], M165)) rfl hR169 rfl rfl ?_
                                            refine ml_st (S' := (501, [(13, .int s493_0), (0, .ref m0), (1, .int i40_1), (2, .int (f2 f mA)), (3, .int 0), (4, .int s35_0), (5, .int i40_5), (11, .int i40_5), (12, .int u172)], [.int i40_5, .ref (q 37)], M165)) rfl rfl rfl ?_
                                            refine ra_ld (k := 37) (S' := (502, [(13, .int s493_0), (0, .ref m0), (1, .int i40_1), (2, .int (f2 f mA)), (3, .int 0), (4, .int s35_0), (5, .int i40_5), (11, .int i40_5), (12, .int u172)], [.int vc], M165)) rfl hR169 rfl (vin_lt hk0 (by omega)) ((congrFun (rfl) _).trans hvc) rfl ?_
                                            have J_510 : ∀ (s510_0 : Int32), ml (mT g) d (mb_191 g).2 (510, [(0, .ref m0), (1, .int i40_1), (2, .int (f2 f mA)), (3, .int 0), (4, .int s35_0), (5, .int i40_5), (12, .int u172), (13, .int s493_0)], [.int s510_0], M165) (fun v M' => ∃ (x : Int32) (I' : rI) (R' : rR), v = some (.int x) ∧ RS g m0 q z I' R' M' ∧ eqI [26, 47, 48] I I' ∧ eqR [34, 35, 36, 37, 38, 39, 40, 41, 42, 43, 44, 45, 46] R R' ∧ (x = 0 ∨ x = 1) ∧ (x = 0 ∨ ∃ k : Nat, k ≤ 8192 ∧ I' 26 = some (nI k) ∧ MKN f n S sa sl ch k R')) := by
                                              intro s510_0
                                              refine ml_st (S' := (512, [(0, .ref m0), (1, .int i40_1), (2, .int (f2 f mA)), (3, .int 0), (4, .int s35_0), (5, .int i40_5), (12, .int u172), (13, .int s493_0)], [.int s493_0, .int s510_0], M165)) rfl rfl rfl ?_
                                              refine ml_if2 (S1 := (523, [(0, .ref m0), (1, .int i40_1), (2, .int (f2 f mA)), (3, .int 0), (4, .int s35_0), (5, .int i40_5), (12, .int u172), (13, .int s493_0)], [], M165)) (S2 := (515, [(0, .ref m0), (1, .int i40_1), (2, .int (f2 f mA)), (3, .int 0), (4, .int s35_0), (5, .int i40_5), (12, .int u172), (13, .int s493_0)], [], M165)) rfl rfl rfl (fun c_512 => ?_) (fun c_512 => ?_)
                                              · have c_512 : s510_0 = s493_0 := of_decide_eq_true c_512
                                                have hm1 : MK1 f n S sa sl ch i40_5.toInt.toNat R168 := ⟨fun k hk => by simp only [List.mem_cons, List.not_mem_nil, or_false] at hk; rcases hk with rfl | rfl | rfl | rfl | rfl | rfl | rfl | rfl | rfl | rfl | rfl; exact ⟨_, (congrFun ((hV171 34 (by decide)).trans ((f154 34 (by decide)).trans ((f144 34 (by decide)).trans ((f134 34 (by decide)).trans ((f128 34 (by decide)).trans ((f122 34 (by decide)).trans ((f116 34 (by decide)).trans ((f110 34 (by decide)).trans ((f104 34 (by decide)).trans ((f98 34 (by decide)).trans ((f92 34 (by decide)).trans ((f86 34 (by decide)))))))))))))) _).trans e78⟩; exact ⟨_, (congrFun ((hV171 35 (by decide)).trans ((f154 35 (by decide)).trans ((f144 35 (by decide)).trans ((f134 35 (by decide)).trans ((f128 35 (by decide)).trans ((f122 35 (by decide)).trans ((f116 35 (by decide)).trans ((f110 35 (by decide)).trans ((f104 35 (by decide)).trans ((f98 35 (by decide)).trans ((f92 35 (by decide))))))))))))) _).trans e84⟩; exact ⟨vc, (congrFun (rfl) _).trans hvc⟩; exact (by obtain ⟨v, hv⟩ := hkn9 38 (by decide); exact ⟨v, (congrFun (rfl) _).trans hv⟩); exact (by obtain ⟨v, hv⟩ := hkn9 39 (by decide); exact ⟨v, (congrFun (rfl) _).trans hv⟩); exact (by obtain ⟨v, hv⟩ := hkn9 40 (by decide); exact ⟨v, (congrFun (rfl) _).trans hv⟩); exact (by obtain ⟨v, hv⟩ := hkn9 42 (by decide); exact ⟨v, (congrFun (rfl) _).trans hv⟩); exact (by obtain ⟨v, hv⟩ := hkn9 43 (by decide); exact ⟨v, (congrFun (rfl) _).trans hv⟩); exact (by obtain ⟨v, hv⟩ := hkn9 44 (by decide); exact ⟨v, (congrFun (rfl) _).trans hv⟩); exact ⟨_, (congrFun ((hV171 45 (by decide)).trans ((f154 45 (by decide)))) _).trans e142⟩; exact ⟨_, (congrFun ((hV171 46 (by decide))) _).trans e152⟩, hmc9.fr (fun k hk => by simp only [List.mem_cons, List.not_mem_nil, or_false] at hk; rcases hk with rfl | rfl | rfl | rfl | rfl | rfl; exact congrFun (rfl) _; exact congrFun (rfl) _; exact congrFun (rfl) _; exact congrFun (rfl) _; exact congrFun (rfl) _; exact congrFun (rfl) _), _, (congrFun ((hV171 36 (by decide)).trans ((f154 36 (by decide)).trans ((f144 36 (by decide)).trans ((f134 36 (by decide)).trans ((f128 36 (by decide)).trans ((f122 36 (by decide)).trans ((f116 36 (by decide)).trans ((f110 36 (by decide)).trans ((f104 36 (by decide)).trans ((f98 36 (by decide)))))))))))) _).trans e90, hds.1, hds.2, hmt⟩
                                                have hmk2 := MKN.step (k := i40_5.toInt.toNat) hmk (((((((((((((pw.rf.st g79 f80 rfl).st g85 f86 rfl).st g91 f92 rfl).st g97 f98 rfl).st g103 f104 rfl).st g109 f110 rfl).st g115 f116 rfl).st g121 f122 rfl).st g127 f128 rfl).st g133 f134 rfl).st g143 f144 rfl).st g153 f154 rfl).tr hpw9) hm1
                                                refine ml_st (S' := (525, [(0, .ref m0), (1, .int i40_1), (2, .int (f2 f mA)), (3, .int 0), (4, .int s35_0), (5, .int i40_5), (12, .int u172), (13, .int s493_0)], [.int u172], M165)) rfl rfl rfl ?_
                                                refine ml_st (S' := (526, [(1, .int u172), (0, .ref m0), (2, .int (f2 f mA)), (3, .int 0), (4, .int s35_0), (5, .int i40_5), (12, .int u172), (13, .int s493_0)], [], M165)) rfl rfl rfl ?_
                                                refine ml_st (S' := (529, [(5, .int (i40_5 + 1)), (1, .int u172), (0, .ref m0), (2, .int (f2 f mA)), (3, .int 0), (4, .int s35_0), (12, .int u172), (13, .int s493_0)], [], M165)) rfl rfl rfl ?_
                                                refine ml_st (S' := (40, [(0, .ref m0), (1, .int u172), (2, .int (f2 f mA)), (3, .int 0), (4, .int s35_0), (5, .int (i40_5 + 1))], [], M165)) rfl rfl rfl ?_
                                                exact ih_40 u172 (i40_5 + 1) _ _ _ (loop_inc (Int32.not_le.mp c_43) hn_40) hR169 (((eqI.rf.tr hI_40 (by decide)).put f159 (by decide)).tr hI170 (by decide)) ((((((((((((((eqR.rf.tr hV_40 (by decide)).put f80 (by decide)).put f86 (by decide)).put f92 (by decide)).put f98 (by decide)).put f104 (by decide)).put f110 (by decide)).put f116 (by decide)).put f122 (by decide)).put f128 (by decide)).put f134 (by decide)).put f144 (by decide)).put f154 (by decide)).tr hV171 (by decide)) (⟨by rw [inc_lt (Int32.not_le.mp c_43)]; omega, by rw [inc_lt (Int32.not_le.mp c_43)]; omega, (hI170 26 (by decide)).trans (e158), by rw [hub]; exact hnx, by rw [hub, inc_lt (Int32.not_le.mp c_43)]; have q := hg.1; omega, by rw [show (i40_5 + 1).toInt.toNat = i40_5.toInt.toNat + 1 by rw [inc_lt (Int32.not_le.mp c_43)]; omega]; exact hmk2⟩)
                                              · have c_512 : ¬ (s510_0 = s493_0) := of_decide_eq_false c_512
                                                refine ml_blk 3 (S' := (519, [(0, .ref m0), (1, .int i40_1), (2, .int (f2 f mA)), (3, .int 0), (4, .int s35_0), (5, .int i40_5), (12, .int u172), (13, .int s493_0)], [.int i40_1, .int 27, .ref m0], M165)) rfl ?_
                                                refine ml_call (a := [.ref m0, .int 27, .int i40_1]) (rest := []) rfl (hR169.okc rfl rfl rfl) rfl rfl (rm_wrong hR169 (by omega)) (fun v174 M175 h176 => ?_)
                                                obtain ⟨u182, I177, R178, rfl, hR179, hI180, hV181, z183, w184⟩ := h176
                                                show ml _ _ _ (522, [(0, .ref m0), (1, .int i40_1), (2, .int (f2 f mA)), (3, .int 0), (4, .int s35_0), (5, .int i40_5), (12, .int u172), (13, .int s493_0)], [.int u182], M175) _
                                                exact ml_ret rfl (r_z (z183)) (⟨_, _, _, rfl, hR179, ((((eqI.rf.tr hI_40 (by decide)).put f159 (by decide)).tr hI170 (by decide)).tr hI180 (by decide)), (((((((((((((((eqR.rf.tr hV_40 (by decide)).put f80 (by decide)).put f86 (by decide)).put f92 (by decide)).put f98 (by decide)).put f104 (by decide)).put f110 (by decide)).put f116 (by decide)).put f122 (by decide)).put f128 (by decide)).put f134 (by decide)).put f144 (by decide)).put f154 (by decide)).tr hV171 (by decide)).tr hV181 (by decide)), z183, Or.inl w184⟩)
                                            refine ml_if (S1 := (509, [(13, .int s493_0), (0, .ref m0), (1, .int i40_1), (2, .int (f2 f mA)), (3, .int 0), (4, .int s35_0), (5, .int i40_5), (11, .int i40_5), (12, .int u172)], [], M165)) (S2 := (505, [(13, .int s493_0), (0, .ref m0), (1, .int i40_1), (2, .int (f2 f mA)), (3, .int 0), (4, .int s35_0), (5, .int i40_5), (11, .int i40_5), (12, .int u172)], [], M165)) rfl rfl rfl (fun c_502 => ?_) (fun c_502 => ?_)
                                            · have c_502 : 0 ≤ vc := of_decide_eq_true c_502
                                              refine ml_st (S' := (510, [(0, .ref m0), (1, .int i40_1), (2, .int (f2 f mA)), (3, .int 0), (4, .int s35_0), (5, .int i40_5), (12, .int u172), (13, .int s493_0)], [.int 0], M165)) rfl rfl rfl ?_
                                              exact J_510 0
                                            · have c_502 : ¬ (0 ≤ vc) := of_decide_eq_false c_502
                                              refine ml_st (S' := (506, [(13, .int s493_0), (0, .ref m0), (1, .int i40_1), (2, .int (f2 f mA)), (3, .int 0), (4, .int s35_0), (5, .int i40_5), (11, .int i40_5), (12, .int u172)], [.int 1], M165)) rfl rfl rfl ?_
                                              refine ml_st (S' := (510, [(0, .ref m0), (1, .int i40_1), (2, .int (f2 f mA)), (3, .int 0), (4, .int s35_0), (5, .int i40_5), (12, .int u172), (13, .int s493_0)], [.int 1], M165)) rfl rfl rfl ?_
                                              exact J_510 1
                                          refine ml_if (S1 := (492, [(0, .ref m0), (1, .int i40_1), (2, .int (f2 f mA)), (3, .int 0), (4, .int s35_0), (5, .int i40_5), (11, .int i40_5), (12, .int u172)], [], M165)) (S2 := (483, [(12, .int u172), (0, .ref m0), (1, .int i40_1), (2, .int (f2 f mA)), (3, .int 0), (4, .int s35_0), (5, .int i40_5), (6, .int (f2 f i40_1)), (7, .int s83_0), (9, .int s115_0), (10, .int s213_0), (11, .int i40_5)], [], M165)) rfl rfl rfl (fun c_480 => ?_) (fun c_480 => ?_)
                                          · have c_480 : ((f2 f i40_1) &&& 1280) = 0 := of_decide_eq_true c_480
                                            refine ml_st (S' := (493, [(0, .ref m0), (1, .int i40_1), (2, .int (f2 f mA)), (3, .int 0), (4, .int s35_0), (5, .int i40_5), (11, .int i40_5), (12, .int u172)], [.int 0], M165)) rfl rfl rfl ?_
                                            exact J_493 0
                                          · have c_480 : ¬ (((f2 f i40_1) &&& 1280) = 0) := of_decide_eq_false c_480
                                            refine ml_st (S' := (485, [(12, .int u172), (0, .ref m0), (1, .int i40_1), (2, .int (f2 f mA)), (3, .int 0), (4, .int s35_0), (5, .int i40_5), (6, .int (f2 f i40_1)), (7, .int s83_0), (9, .int s115_0), (10, .int s213_0), (11, .int i40_5)], [.int s115_0], M165)) rfl rfl rfl ?_
                                            refine ml_if (S1 := (492, [(0, .ref m0), (1, .int i40_1), (2, .int (f2 f mA)), (3, .int 0), (4, .int s35_0), (5, .int i40_5), (11, .int i40_5), (12, .int u172)], [], M165)) (S2 := (488, [(12, .int u172), (0, .ref m0), (1, .int i40_1), (2, .int (f2 f mA)), (3, .int 0), (4, .int s35_0), (5, .int i40_5), (6, .int (f2 f i40_1)), (7, .int s83_0), (9, .int s115_0), (10, .int s213_0), (11, .int i40_5)], [], M165)) rfl rfl rfl (fun c_485 => ?_) (fun c_485 => ?_)
                                            · have c_485 : ¬ s115_0 = 0 := of_decide_eq_true c_485
                                              refine ml_st (S' := (493, [(0, .ref m0), (1, .int i40_1), (2, .int (f2 f mA)), (3, .int 0), (4, .int s35_0), (5, .int i40_5), (11, .int i40_5), (12, .int u172)], [.int 0], M165)) rfl rfl rfl ?_
                                              exact J_493 0
                                            · have c_485 : ¬ (¬ s115_0 = 0) := of_decide_eq_false c_485
                                              refine ml_st (S' := (489, [(12, .int u172), (0, .ref m0), (1, .int i40_1), (2, .int (f2 f mA)), (3, .int 0), (4, .int s35_0), (5, .int i40_5), (6, .int (f2 f i40_1)), (7, .int s83_0), (9, .int s115_0), (10, .int s213_0), (11, .int i40_5)], [.int 1], M165)) rfl rfl rfl ?_
                                              refine ml_st (S' := (493, [(0, .ref m0), (1, .int i40_1), (2, .int (f2 f mA)), (3, .int 0), (4, .int s35_0), (5, .int i40_5), (11, .int i40_5), (12, .int u172)], [.int 1], M165)) rfl rfl rfl ?_
                                              exact J_493 1
                                        · have c_469 : ¬ (0 ≤ u172) := of_decide_eq_false c_469
                                          refine ml_st (S' := (473, [(12, .int u172), (0, .ref m0), (1, .int i40_1), (2, .int (f2 f mA)), (3, .int 0), (4, .int s35_0), (5, .int i40_5), (6, .int (f2 f i40_1)), (7, .int s83_0), (9, .int s115_0), (10, .int s213_0), (11, .int i40_5)], [.int 0], M165)) rfl rfl rfl ?_
                                          exact ml_ret rfl (r_z (Or.inl rfl)) (⟨_, _, _, rfl, hR169, (((eqI.rf.tr hI_40 (by decide)).put f159 (by decide)).tr hI170 (by decide)), ((((((((((((((eqR.rf.tr hV_40 (by decide)).put f80 (by decide)).put f86 (by decide)).put f92 (by decide)).put f98 (by decide)).put f104 (by decide)).put f110 (by decide)).put f116 (by decide)).put f122 (by decide)).put f128 (by decide)).put f134 (by decide)).put f144 (by decide)).put f154 (by decide)).tr hV171 (by decide)), Or.inl rfl, Or.inl rfl⟩)
                                      · have c_403 : ¬ (i40_5 ≤ i399_12) := of_decide_eq_false c_403
                                        have hql := i_nle c_403
                                        refine ml_st (S' := (407, [(0, .ref m0), (1, .int i40_1), (2, .int (f2 f mA)), (3, .int 0), (4, .int s35_0), (5, .int i40_5), (6, .int (f2 f i40_1)), (7, .int s83_0), (9, .int s115_0), (10, .int s213_0), (11, .int i40_5), (12, .int i399_12)], [.ref m0], M149)) rfl rfl rfl ?_
                                        refine rg_ref (S' := (410, [(0, .ref m0), (1, .int i40_1), (2, .int (f2 f mA)), (3, .int 0), (4, .int s35_0), (5, .int i40_5), (6, .int (f2 f i40_1)), (7, .int s83_0), (9, .int s115_0), (10, .int s213_0), (11, .int i40_5), (12, .int i399_12)], [.ref (q 35)], M149)) rfl hR151 rfl rfl ?_
                                        refine ml_st (S' := (412, [(0, .ref m0), (1, .int i40_1), (2, .int (f2 f mA)), (3, .int 0), (4, .int s35_0), (5, .int i40_5), (6, .int (f2 f i40_1)), (7, .int s83_0), (9, .int s115_0), (10, .int s213_0), (11, .int i40_5), (12, .int i399_12)], [.int i399_12, .ref (q 35)], M149)) rfl rfl rfl ?_
                                        have q185 : pw i40_5.toNatClampNeg R_40 R150 := ((((((((((((pw.rf.st g79 f80 rfl).st g85 f86 rfl).st g91 f92 rfl).st g97 f98 rfl).st g103 f104 rfl).st g109 f110 rfl).st g115 f116 rfl).st g121 f122 rfl).st g127 f128 rfl).st g133 f134 rfl).st g143 f144 rfl).st g153 f154 rfl)
                                        have hm9 := hmk i399_12.toNatClampNeg (by show i399_12.toInt.toNat < i40_5.toInt.toNat; omega)
                                        obtain ⟨v186, hv187⟩ := hm9.1 35 (by decide)
                                        refine ra_ld (k := 35) (S' := (413, [(0, .ref m0), (1, .int i40_1), (2, .int (f2 f mA)), (3, .int 0), (4, .int s35_0), (5, .int i40_5), (6, .int (f2 f i40_1)), (7, .int s83_0), (9, .int s115_0), (10, .int s213_0), (11, .int i40_5), (12, .int i399_12)], [.int v186], M149)) rfl hR151 rfl (vin_lt hq0 (by omega)) ((q185 35 _ (by show i399_12.toInt.toNat ≠ i40_5.toInt.toNat; omega)).trans hv187) rfl ?_
                                        refine ml_st (S' := (415, [(0, .ref m0), (1, .int i40_1), (2, .int (f2 f mA)), (3, .int 0), (4, .int s35_0), (5, .int i40_5), (6, .int (f2 f i40_1)), (7, .int s83_0), (9, .int s115_0), (10, .int s213_0), (11, .int i40_5), (12, .int i399_12)], [.int s83_0, .int v186], M149)) rfl rfl rfl ?_
                                        refine ml_if2 (S1 := (438, [(0, .ref m0), (1, .int i40_1), (2, .int (f2 f mA)), (3, .int 0), (4, .int s35_0), (5, .int i40_5), (6, .int (f2 f i40_1)), (7, .int s83_0), (9, .int s115_0), (10, .int s213_0), (11, .int i40_5), (12, .int i399_12)], [], M149)) (S2 := (418, [(0, .ref m0), (1, .int i40_1), (2, .int (f2 f mA)), (3, .int 0), (4, .int s35_0), (5, .int i40_5), (6, .int (f2 f i40_1)), (7, .int s83_0), (9, .int s115_0), (10, .int s213_0), (11, .int i40_5), (12, .int i399_12)], [], M149)) rfl rfl rfl (fun c_415 => ?_) (fun c_415 => ?_)
                                        · have c_415 : ¬ v186 = s83_0 := of_decide_eq_true c_415
                                          refine ml_st (S' := (441, [(12, .int (i399_12 + 1)), (0, .ref m0), (1, .int i40_1), (2, .int (f2 f mA)), (3, .int 0), (4, .int s35_0), (5, .int i40_5), (6, .int (f2 f i40_1)), (7, .int s83_0), (9, .int s115_0), (10, .int s213_0), (11, .int i40_5)], [], M149)) rfl rfl rfl ?_
                                          refine ml_st (S' := (399, [(0, .ref m0), (1, .int i40_1), (2, .int (f2 f mA)), (3, .int 0), (4, .int s35_0), (5, .int i40_5), (6, .int (f2 f i40_1)), (7, .int s83_0), (9, .int s115_0), (10, .int s213_0), (11, .int i40_5), (12, .int (i399_12 + 1))], [], M149)) rfl rfl rfl ?_
                                          exact ih_399 (i399_12 + 1) (loop_inc (Int32.not_le.mp c_403) hn_399) (by rw [inc_lt (Int32.not_le.mp c_403)]; omega)
                                        · have c_415 : ¬ (¬ v186 = s83_0) := of_decide_eq_false c_415
                                          refine ml_st (S' := (419, [(0, .ref m0), (1, .int i40_1), (2, .int (f2 f mA)), (3, .int 0), (4, .int s35_0), (5, .int i40_5), (6, .int (f2 f i40_1)), (7, .int s83_0), (9, .int s115_0), (10, .int s213_0), (11, .int i40_5), (12, .int i399_12)], [.ref m0], M149)) rfl rfl rfl ?_
                                          refine rg_ref (S' := (422, [(0, .ref m0), (1, .int i40_1), (2, .int (f2 f mA)), (3, .int 0), (4, .int s35_0), (5, .int i40_5), (6, .int (f2 f i40_1)), (7, .int s83_0), (9, .int s115_0), (10, .int s213_0), (11, .int i40_5), (12, .int i399_12)], [.ref (q 36)], M149)) rfl hR151 rfl rfl ?_
                                          refine ml_st (S' := (424, [(0, .ref m0), (1, .int i40_1), (2, .int (f2 f mA)), (3, .int 0), (4, .int s35_0), (5, .int i40_5), (6, .int (f2 f i40_1)), (7, .int s83_0), (9, .int s115_0), (10, .int s213_0), (11, .int i40_5), (12, .int i399_12)], [.int i399_12, .ref (q 36)], M149)) rfl rfl rfl ?_
                                          have q188 : pw i40_5.toNatClampNeg R_40 R150 := ((((((((((((pw.rf.st g79 f80 rfl).st g85 f86 rfl).st g91 f92 rfl).st g97 f98 rfl).st g103 f104 rfl).st g109 f110 rfl).st g115 f116 rfl).st g121 f122 rfl).st g127 f128 rfl).st g133 f134 rfl).st g143 f144 rfl).st g153 f154 rfl)
                                          have hm9 := hmk i399_12.toNatClampNeg (by show i399_12.toInt.toNat < i40_5.toInt.toNat; omega)
                                          obtain ⟨v189, hv190, -⟩ := hm9.2.2
                                          refine ra_ld (k := 36) (S' := (425, [(0, .ref m0), (1, .int i40_1), (2, .int (f2 f mA)), (3, .int 0), (4, .int s35_0), (5, .int i40_5), (6, .int (f2 f i40_1)), (7, .int s83_0), (9, .int s115_0), (10, .int s213_0), (11, .int i40_5), (12, .int i399_12)], [.int v189], M149)) rfl hR151 rfl (vin_lt hq0 (by omega)) ((q188 36 _ (by show i399_12.toInt.toNat ≠ i40_5.toInt.toNat; omega)).trans hv190) rfl ?_
                                          refine ml_st (S' := (427, [(0, .ref m0), (1, .int i40_1), (2, .int (f2 f mA)), (3, .int 0), (4, .int s35_0), (5, .int i40_5), (6, .int (f2 f i40_1)), (7, .int s83_0), (9, .int s115_0), (10, .int s213_0), (11, .int i40_5), (12, .int i399_12)], [.int s213_0, .int v189], M149)) rfl rfl rfl ?_
                                          refine ml_if2 (S1 := (438, [(0, .ref m0), (1, .int i40_1), (2, .int (f2 f mA)), (3, .int 0), (4, .int s35_0), (5, .int i40_5), (6, .int (f2 f i40_1)), (7, .int s83_0), (9, .int s115_0), (10, .int s213_0), (11, .int i40_5), (12, .int i399_12)], [], M149)) (S2 := (430, [(0, .ref m0), (1, .int i40_1), (2, .int (f2 f mA)), (3, .int 0), (4, .int s35_0), (5, .int i40_5), (6, .int (f2 f i40_1)), (7, .int s83_0), (9, .int s115_0), (10, .int s213_0), (11, .int i40_5), (12, .int i399_12)], [], M149)) rfl rfl rfl (fun c_427 => ?_) (fun c_427 => ?_)
                                          · have c_427 : ¬ v189 = s213_0 := of_decide_eq_true c_427
                                            refine ml_st (S' := (441, [(12, .int (i399_12 + 1)), (0, .ref m0), (1, .int i40_1), (2, .int (f2 f mA)), (3, .int 0), (4, .int s35_0), (5, .int i40_5), (6, .int (f2 f i40_1)), (7, .int s83_0), (9, .int s115_0), (10, .int s213_0), (11, .int i40_5)], [], M149)) rfl rfl rfl ?_
                                            refine ml_st (S' := (399, [(0, .ref m0), (1, .int i40_1), (2, .int (f2 f mA)), (3, .int 0), (4, .int s35_0), (5, .int i40_5), (6, .int (f2 f i40_1)), (7, .int s83_0), (9, .int s115_0), (10, .int s213_0), (11, .int i40_5), (12, .int (i399_12 + 1))], [], M149)) rfl rfl rfl ?_
                                            exact ih_399 (i399_12 + 1) (loop_inc (Int32.not_le.mp c_403) hn_399) (by rw [inc_lt (Int32.not_le.mp c_403)]; omega)
                                          · have c_427 : ¬ (¬ v189 = s213_0) := of_decide_eq_false c_427
                                            refine ml_blk 3 (S' := (434, [(0, .ref m0), (1, .int i40_1), (2, .int (f2 f mA)), (3, .int 0), (4, .int s35_0), (5, .int i40_5), (6, .int (f2 f i40_1)), (7, .int s83_0), (9, .int s115_0), (10, .int s213_0), (11, .int i40_5), (12, .int i399_12)], [.int i40_1, .int 26, .ref m0], M149)) rfl ?_
                                            refine ml_call (a := [.ref m0, .int 26, .int i40_1]) (rest := []) rfl (hR151.okc rfl rfl rfl) rfl rfl (rm_wrong hR151 (by omega)) (fun v191 M192 h193 => ?_)
                                            obtain ⟨u199, I194, R195, rfl, hR196, hI197, hV198, z200, w201⟩ := h193
                                            show ml _ _ _ (437, [(0, .ref m0), (1, .int i40_1), (2, .int (f2 f mA)), (3, .int 0), (4, .int s35_0), (5, .int i40_5), (6, .int (f2 f i40_1)), (7, .int s83_0), (9, .int s115_0), (10, .int s213_0), (11, .int i40_5), (12, .int i399_12)], [.int u199], M192) _
                                            exact ml_ret rfl (r_z (z200)) (⟨_, _, _, rfl, hR196, ((eqI.rf.tr hI_40 (by decide)).tr hI197 (by decide)), ((((((((((((((eqR.rf.tr hV_40 (by decide)).put f80 (by decide)).put f86 (by decide)).put f92 (by decide)).put f98 (by decide)).put f104 (by decide)).put f110 (by decide)).put f116 (by decide)).put f122 (by decide)).put f128 (by decide)).put f134 (by decide)).put f144 (by decide)).put f154 (by decide)).tr hV198 (by decide)), z200, Or.inl w201⟩)
                                  exact L_399 _ 0 (Nat.le_refl _) (by decide)
                                · have c_266 : ¬ ((u74 + s262_0) ≤ 255) := of_decide_eq_false c_266
                                  refine ml_blk 3 (S' := (273, [(0, .ref m0), (1, .int i40_1)], [.int i40_1, .int 25, .ref m0], M_40)) rfl ?_
                                  refine ml_blk 2 (S' := (275, [(0, .ref m0), (1, .int i40_1)], [.int (i40_1 + 4), .int 25, .ref m0], M_40)) rfl ?_
                                  refine ml_call (a := [.ref m0, .int 25, .int (i40_1 + 4)]) (rest := []) rfl (hR_40.okc rfl rfl rfl) rfl rfl (rm_wrong hR_40 (by omega)) (fun v202 M203 h204 => ?_)
                                  obtain ⟨u210, I205, R206, rfl, hR207, hI208, hV209, z211, w212⟩ := h204
                                  show ml _ _ _ (278, [(0, .ref m0), (1, .int i40_1)], [.int u210], M203) _
                                  exact ml_ret rfl (r_z (z211)) (⟨_, _, _, rfl, hR207, ((eqI.rf.tr hI_40 (by decide)).tr hI208 (by decide)), ((eqR.rf.tr hV_40 (by decide)).tr hV209 (by decide)), z211, Or.inl w212⟩)
                              refine ml_if (S1 := (261, [(0, .ref m0), (1, .int i40_1), (2, .int (f2 f mA)), (3, .int 0), (4, .int s35_0), (5, .int i40_5), (6, .int (f2 f i40_1)), (7, .int s83_0), (9, .int s115_0), (10, .int s213_0)], [.int u74], M_40)) (S2 := (257, [(0, .ref m0), (1, .int i40_1), (2, .int (f2 f mA)), (3, .int 0), (4, .int s35_0), (5, .int i40_5), (6, .int (f2 f i40_1)), (7, .int s83_0), (9, .int s115_0), (10, .int s213_0)], [.int u74], M_40)) rfl rfl rfl (fun c_254 => ?_) (fun c_254 => ?_)
                              · have c_254 : ¬ ((f2 f i40_1) &&& 8) = 0 := of_decide_eq_true c_254
                                refine ml_st (S' := (262, [(0, .ref m0), (1, .int i40_1), (2, .int (f2 f mA)), (3, .int 0), (4, .int s35_0), (5, .int i40_5), (6, .int (f2 f i40_1)), (7, .int s83_0), (9, .int s115_0), (10, .int s213_0)], [.int 0, .int u74], M_40)) rfl rfl rfl ?_
                                exact J_262 0
                              · have c_254 : ¬ (¬ ((f2 f i40_1) &&& 8) = 0) := of_decide_eq_false c_254
                                refine ml_st (S' := (258, [(0, .ref m0), (1, .int i40_1), (2, .int (f2 f mA)), (3, .int 0), (4, .int s35_0), (5, .int i40_5), (6, .int (f2 f i40_1)), (7, .int s83_0), (9, .int s115_0), (10, .int s213_0)], [.int 1, .int u74], M_40)) rfl rfl rfl ?_
                                refine ml_st (S' := (262, [(0, .ref m0), (1, .int i40_1), (2, .int (f2 f mA)), (3, .int 0), (4, .int s35_0), (5, .int i40_5), (6, .int (f2 f i40_1)), (7, .int s83_0), (9, .int s115_0), (10, .int s213_0)], [.int 1, .int u74], M_40)) rfl rfl rfl ?_
                                exact J_262 1
                            refine ml_if (S1 := (243, [(0, .ref m0), (1, .int i40_1), (2, .int (f2 f mA)), (3, .int 0), (4, .int s35_0), (5, .int i40_5), (6, .int (f2 f i40_1)), (7, .int s83_0), (9, .int s115_0), (10, .int s213_0)], [], M_40)) (S2 := (234, [(10, .int s213_0), (0, .ref m0), (1, .int i40_1), (2, .int (f2 f mA)), (3, .int 0), (4, .int s35_0), (5, .int i40_5), (6, .int (f2 f i40_1)), (7, .int s83_0), (8, .int s99_0), (9, .int s115_0)], [], M_40)) rfl rfl rfl (fun c_231 => ?_) (fun c_231 => ?_)
                            · have c_231 : s99_0 = 0 := of_decide_eq_true c_231
                              exact J_243 
                            · have c_231 : ¬ (s99_0 = 0) := of_decide_eq_false c_231
                              refine ml_blk 2 (S' := (237, [(10, .int s213_0), (0, .ref m0), (1, .int i40_1), (2, .int (f2 f mA)), (3, .int 0), (4, .int s35_0), (5, .int i40_5), (6, .int (f2 f i40_1)), (7, .int s83_0), (8, .int s99_0), (9, .int s115_0)], [.int s213_0, .ref m0], M_40)) rfl ?_
                              refine ml_call (a := [.ref m0, .int s213_0]) (rest := []) rfl (hR_40.okc rfl rfl rfl) rfl rfl (rm_endsV hR_40 hY53 (hds.1) (hds.2) (by have := hmt.2; omega) (by omega)) (fun v213 M214 h215 => ?_)
                              obtain ⟨⟨u216, rfl, z217⟩, h215⟩ := h215
                              rw [h215]
                              show ml _ _ _ (240, [(10, .int s213_0), (0, .ref m0), (1, .int i40_1), (2, .int (f2 f mA)), (3, .int 0), (4, .int s35_0), (5, .int i40_5), (6, .int (f2 f i40_1)), (7, .int s83_0), (8, .int s99_0), (9, .int s115_0)], [.int u216], M_40) _
                              refine ml_if (S1 := (269, [(0, .ref m0), (1, .int i40_1)], [], M_40)) (S2 := (243, [(0, .ref m0), (1, .int i40_1), (2, .int (f2 f mA)), (3, .int 0), (4, .int s35_0), (5, .int i40_5), (6, .int (f2 f i40_1)), (7, .int s83_0), (9, .int s115_0), (10, .int s213_0)], [], M_40)) rfl rfl rfl (fun c_240 => ?_) (fun c_240 => ?_)
                              · have c_240 : u216 = 0 := of_decide_eq_true c_240
                                refine ml_blk 3 (S' := (273, [(0, .ref m0), (1, .int i40_1)], [.int i40_1, .int 25, .ref m0], M_40)) rfl ?_
                                refine ml_blk 2 (S' := (275, [(0, .ref m0), (1, .int i40_1)], [.int (i40_1 + 4), .int 25, .ref m0], M_40)) rfl ?_
                                refine ml_call (a := [.ref m0, .int 25, .int (i40_1 + 4)]) (rest := []) rfl (hR_40.okc rfl rfl rfl) rfl rfl (rm_wrong hR_40 (by omega)) (fun v218 M219 h220 => ?_)
                                obtain ⟨u226, I221, R222, rfl, hR223, hI224, hV225, z227, w228⟩ := h220
                                show ml _ _ _ (278, [(0, .ref m0), (1, .int i40_1)], [.int u226], M219) _
                                exact ml_ret rfl (r_z (z227)) (⟨_, _, _, rfl, hR223, ((eqI.rf.tr hI_40 (by decide)).tr hI224 (by decide)), ((eqR.rf.tr hV_40 (by decide)).tr hV225 (by decide)), z227, Or.inl w228⟩)
                              · have c_240 : ¬ (u216 = 0) := of_decide_eq_false c_240
                                exact J_243 
                      refine ml_if2 (S1 := (212, [(0, .ref m0), (1, .int i40_1), (2, .int (f2 f mA)), (3, .int 0), (4, .int s35_0), (5, .int i40_5), (6, .int (f2 f i40_1)), (7, .int s83_0), (8, .int s99_0), (9, .int s115_0)], [], M_40)) (S2 := (198, [(0, .ref m0), (1, .int i40_1), (2, .int (f2 f mA)), (3, .int 0), (4, .int s35_0), (5, .int i40_5), (6, .int (f2 f i40_1)), (7, .int s83_0), (8, .int s99_0), (9, .int s115_0)], [], M_40)) rfl rfl rfl (fun c_195 => ?_) (fun c_195 => ?_)
                      · have c_195 : ¬ (tgf f cp pa (f2 f (i40_1 + 4))) = 1 := of_decide_eq_true c_195
                        refine ml_st (S' := (213, [(0, .ref m0), (1, .int i40_1), (2, .int (f2 f mA)), (3, .int 0), (4, .int s35_0), (5, .int i40_5), (6, .int (f2 f i40_1)), (7, .int s83_0), (8, .int s99_0), (9, .int s115_0)], [.int (-1)], M_40)) rfl rfl rfl ?_
                        exact J_213 (-1) (Or.inl (by decide))
                      · have c_195 : ¬ (¬ (tgf f cp pa (f2 f (i40_1 + 4))) = 1) := of_decide_eq_false c_195
                        refine ml_blk 3 (S' := (201, [(0, .ref m0), (1, .int i40_1), (2, .int (f2 f mA)), (3, .int 0), (4, .int s35_0), (5, .int i40_5), (6, .int (f2 f i40_1)), (7, .int s83_0), (8, .int s99_0), (9, .int s115_0)], [.int i40_1, .ref m0, .ref m0], M_40)) rfl ?_
                        refine ml_blk 2 (S' := (203, [(0, .ref m0), (1, .int i40_1), (2, .int (f2 f mA)), (3, .int 0), (4, .int s35_0), (5, .int i40_5), (6, .int (f2 f i40_1)), (7, .int s83_0), (8, .int s99_0), (9, .int s115_0)], [.int (i40_1 + 4), .ref m0, .ref m0], M_40)) rfl ?_
                        refine ml_call (a := [.ref m0, .int (i40_1 + 4)]) (rest := [.ref m0]) rfl (hR_40.okc rfl rfl rfl) rfl rfl (rm_u2 hR_40 hF14 (by omega) (by omega) (by omega)) (fun v229 M230 h231 => ?_)
                        obtain ⟨rfl, h231⟩ := h231
                        rw [h231]
                        show ml _ _ _ (206, [(0, .ref m0), (1, .int i40_1), (2, .int (f2 f mA)), (3, .int 0), (4, .int s35_0), (5, .int i40_5), (6, .int (f2 f i40_1)), (7, .int s83_0), (8, .int s99_0), (9, .int s115_0)], [.int (f2 f (i40_1 + 4)), .ref m0], M_40) _
                        refine ml_call (a := [.ref m0, .int (f2 f (i40_1 + 4))]) (rest := []) rfl (hR_40.okc rfl rfl rfl) rfl rfl (rm_symOf hR_40 hP21 (Decidable.not_not.mp c_195) (by omega)) (fun v232 M233 h234 => ?_)
                        obtain ⟨rfl, h234⟩ := h234
                        rw [h234]
                        show ml _ _ _ (209, [(0, .ref m0), (1, .int i40_1), (2, .int (f2 f mA)), (3, .int 0), (4, .int s35_0), (5, .int i40_5), (6, .int (f2 f i40_1)), (7, .int s83_0), (8, .int s99_0), (9, .int s115_0)], [.int (pyf py (f2 f (i40_1 + 4)))], M_40) _
                        refine ml_st (S' := (213, [(0, .ref m0), (1, .int i40_1), (2, .int (f2 f mA)), (3, .int 0), (4, .int s35_0), (5, .int i40_5), (6, .int (f2 f i40_1)), (7, .int s83_0), (8, .int s99_0), (9, .int s115_0)], [.int (pyf py (f2 f (i40_1 + 4)))], M_40)) rfl rfl rfl ?_
                        exact J_213 (pyf py (f2 f (i40_1 + 4))) (Or.inr ⟨(hP.y (show tgf f cp pa (f2 f (i40_1 + 4)) = 1 from Decidable.not_not.mp c_195)).2.2.1, (hP.y (show tgf f cp pa (f2 f (i40_1 + 4)) = 1 from Decidable.not_not.mp c_195)).2.2.2⟩)
                    refine ml_if (S1 := (183, [(0, .ref m0), (1, .int i40_1), (2, .int (f2 f mA)), (3, .int 0), (4, .int s35_0), (5, .int i40_5), (6, .int (f2 f i40_1)), (7, .int s83_0), (8, .int s99_0), (9, .int s115_0)], [], M_40)) (S2 := (162, [(0, .ref m0), (1, .int i40_1), (2, .int (f2 f mA)), (3, .int 0), (4, .int s35_0), (5, .int i40_5), (6, .int (f2 f i40_1)), (7, .int s83_0), (8, .int s99_0), (9, .int s115_0)], [], M_40)) rfl rfl rfl (fun c_159 => ?_) (fun c_159 => ?_)
                    · have c_159 : ¬ s115_0 = 0 := of_decide_eq_true c_159
                      exact J_183 
                    · have c_159 : ¬ (¬ s115_0 = 0) := of_decide_eq_false c_159
                      refine ml_blk 3 (S' := (167, [(0, .ref m0), (1, .int i40_1), (2, .int (f2 f mA)), (3, .int 0), (4, .int s35_0), (5, .int i40_5), (6, .int (f2 f i40_1)), (7, .int s83_0), (8, .int s99_0), (9, .int s115_0)], [.int s99_0, .int (f2 f i40_1), .ref m0], M_40)) rfl ?_
                      refine ml_st (S' := (169, [(0, .ref m0), (1, .int i40_1), (2, .int (f2 f mA)), (3, .int 0), (4, .int s35_0), (5, .int i40_5), (6, .int (f2 f i40_1)), (7, .int s83_0), (8, .int s99_0), (9, .int s115_0)], [.int s35_0, .int s99_0, .int (f2 f i40_1), .ref m0], M_40)) rfl rfl rfl ?_
                      refine ml_call (a := [.ref m0, .int (f2 f i40_1), .int s99_0, .int s35_0]) (rest := []) rfl (hR_40.okc rfl rfl rfl) rfl rfl (rm_flagsFit hR_40 ((hI_40 53 (by decide)).trans (hP.2.2.1)) (by omega)) (fun v235 M236 h237 => ?_)
                      obtain ⟨⟨u238, rfl, z239⟩, h237⟩ := h237
                      rw [h237]
                      show ml _ _ _ (172, [(0, .ref m0), (1, .int i40_1), (2, .int (f2 f mA)), (3, .int 0), (4, .int s35_0), (5, .int i40_5), (6, .int (f2 f i40_1)), (7, .int s83_0), (8, .int s99_0), (9, .int s115_0)], [.int u238], M_40) _
                      refine ml_if (S1 := (183, [(0, .ref m0), (1, .int i40_1), (2, .int (f2 f mA)), (3, .int 0), (4, .int s35_0), (5, .int i40_5), (6, .int (f2 f i40_1)), (7, .int s83_0), (8, .int s99_0), (9, .int s115_0)], [], M_40)) (S2 := (175, [(0, .ref m0), (1, .int i40_1), (2, .int (f2 f mA)), (3, .int 0), (4, .int s35_0), (5, .int i40_5), (6, .int (f2 f i40_1)), (7, .int s83_0), (8, .int s99_0), (9, .int s115_0)], [], M_40)) rfl rfl rfl (fun c_172 => ?_) (fun c_172 => ?_)
                      · have c_172 : ¬ u238 = 0 := of_decide_eq_true c_172
                        exact J_183 
                      · have c_172 : ¬ (¬ u238 = 0) := of_decide_eq_false c_172
                        refine ml_blk 3 (S' := (179, [(0, .ref m0), (1, .int i40_1), (2, .int (f2 f mA)), (3, .int 0), (4, .int s35_0), (5, .int i40_5), (6, .int (f2 f i40_1)), (7, .int s83_0), (8, .int s99_0), (9, .int s115_0)], [.int i40_1, .int 23, .ref m0], M_40)) rfl ?_
                        refine ml_call (a := [.ref m0, .int 23, .int i40_1]) (rest := []) rfl (hR_40.okc rfl rfl rfl) rfl rfl (rm_wrong hR_40 (by omega)) (fun v240 M241 h242 => ?_)
                        obtain ⟨u248, I243, R244, rfl, hR245, hI246, hV247, z249, w250⟩ := h242
                        show ml _ _ _ (182, [(0, .ref m0), (1, .int i40_1), (2, .int (f2 f mA)), (3, .int 0), (4, .int s35_0), (5, .int i40_5), (6, .int (f2 f i40_1)), (7, .int s83_0), (8, .int s99_0), (9, .int s115_0)], [.int u248], M241) _
                        exact ml_ret rfl (r_z (z249)) (⟨_, _, _, rfl, hR245, ((eqI.rf.tr hI_40 (by decide)).tr hI246 (by decide)), ((eqR.rf.tr hV_40 (by decide)).tr hV247 (by decide)), z249, Or.inl w250⟩)
                  refine ml_if (S1 := (157, [(0, .ref m0), (1, .int i40_1), (2, .int (f2 f mA)), (3, .int 0), (4, .int s35_0), (5, .int i40_5), (6, .int (f2 f i40_1)), (7, .int s83_0), (8, .int s99_0), (9, .int s115_0)], [], M_40)) (S2 := (127, [(9, .int s115_0), (0, .ref m0), (1, .int i40_1), (2, .int (f2 f mA)), (3, .int 0), (4, .int s35_0), (5, .int i40_5), (6, .int (f2 f i40_1)), (7, .int s83_0), (8, .int s99_0)], [], M_40)) rfl rfl rfl (fun c_124 => ?_) (fun c_124 => ?_)
                  · have c_124 : ¬ s115_0 = 0 := of_decide_eq_true c_124
                    exact J_157 
                  · have c_124 : ¬ (¬ s115_0 = 0) := of_decide_eq_false c_124
                    refine ml_st (S' := (129, [(9, .int s115_0), (0, .ref m0), (1, .int i40_1), (2, .int (f2 f mA)), (3, .int 0), (4, .int s35_0), (5, .int i40_5), (6, .int (f2 f i40_1)), (7, .int s83_0), (8, .int s99_0)], [.int s99_0], M_40)) rfl rfl rfl ?_
                    refine ml_if (S1 := (137, [(0, .ref m0), (1, .int i40_1), (2, .int (f2 f mA)), (3, .int 0), (4, .int s35_0), (5, .int i40_5), (6, .int (f2 f i40_1)), (7, .int s83_0), (8, .int s99_0), (9, .int s115_0)], [], M_40)) (S2 := (132, [(9, .int s115_0), (0, .ref m0), (1, .int i40_1), (2, .int (f2 f mA)), (3, .int 0), (4, .int s35_0), (5, .int i40_5), (6, .int (f2 f i40_1)), (7, .int s83_0), (8, .int s99_0)], [], M_40)) rfl rfl rfl (fun c_129 => ?_) (fun c_129 => ?_)
                    · have c_129 : s99_0 = 0 := of_decide_eq_true c_129
                      refine ml_blk 3 (S' := (141, [(0, .ref m0), (1, .int i40_1), (2, .int (f2 f mA)), (3, .int 0), (4, .int s35_0), (5, .int i40_5), (6, .int (f2 f i40_1)), (7, .int s83_0), (8, .int s99_0), (9, .int s115_0)], [.int 0, .int s83_0, .ref m0], M_40)) rfl ?_
                      have hY251 : SK S cN sa sl ch I_40 R_40 := (hY.mono (cIx hI_40 (by decide)) (cRx hV_40 (by decide)))
                      refine ml_call (a := [.ref m0, .int s83_0, .int 0]) (rest := []) rfl (hR_40.okc rfl rfl rfl) rfl rfl (rm_unqualified hR_40 hY251 (hnm.1) (hnm.2) (by omega)) (fun v252 M253 h254 => ?_)
                      obtain ⟨⟨u255, rfl, z256⟩, h254⟩ := h254
                      rw [h254]
                      show ml _ _ _ (144, [(0, .ref m0), (1, .int i40_1), (2, .int (f2 f mA)), (3, .int 0), (4, .int s35_0), (5, .int i40_5), (6, .int (f2 f i40_1)), (7, .int s83_0), (8, .int s99_0), (9, .int s115_0)], [.int u255], M_40) _
                      refine ml_if (S1 := (157, [(0, .ref m0), (1, .int i40_1), (2, .int (f2 f mA)), (3, .int 0), (4, .int s35_0), (5, .int i40_5), (6, .int (f2 f i40_1)), (7, .int s83_0), (8, .int s99_0), (9, .int s115_0)], [], M_40)) (S2 := (147, [(0, .ref m0), (1, .int i40_1)], [], M_40)) rfl rfl rfl (fun c_144 => ?_) (fun c_144 => ?_)
                      · have c_144 : ¬ u255 = 0 := of_decide_eq_true c_144
                        exact J_157 
                      · have c_144 : ¬ (¬ u255 = 0) := of_decide_eq_false c_144
                        refine ml_blk 3 (S' := (151, [(0, .ref m0), (1, .int i40_1)], [.int i40_1, .int 24, .ref m0], M_40)) rfl ?_
                        refine ml_blk 2 (S' := (153, [(0, .ref m0), (1, .int i40_1)], [.int (i40_1 + 2), .int 24, .ref m0], M_40)) rfl ?_
                        refine ml_call (a := [.ref m0, .int 24, .int (i40_1 + 2)]) (rest := []) rfl (hR_40.okc rfl rfl rfl) rfl rfl (rm_wrong hR_40 (by omega)) (fun v257 M258 h259 => ?_)
                        obtain ⟨u265, I260, R261, rfl, hR262, hI263, hV264, z266, w267⟩ := h259
                        show ml _ _ _ (156, [(0, .ref m0), (1, .int i40_1)], [.int u265], M258) _
                        exact ml_ret rfl (r_z (z266)) (⟨_, _, _, rfl, hR262, ((eqI.rf.tr hI_40 (by decide)).tr hI263 (by decide)), ((eqR.rf.tr hV_40 (by decide)).tr hV264 (by decide)), z266, Or.inl w267⟩)
                    · have c_129 : ¬ (s99_0 = 0) := of_decide_eq_false c_129
                      refine ml_st (S' := (134, [(9, .int s115_0), (0, .ref m0), (1, .int i40_1), (2, .int (f2 f mA)), (3, .int 0), (4, .int s35_0), (5, .int i40_5), (6, .int (f2 f i40_1)), (7, .int s83_0), (8, .int s99_0)], [.int s35_0], M_40)) rfl rfl rfl ?_
                      refine ml_if (S1 := (157, [(0, .ref m0), (1, .int i40_1), (2, .int (f2 f mA)), (3, .int 0), (4, .int s35_0), (5, .int i40_5), (6, .int (f2 f i40_1)), (7, .int s83_0), (8, .int s99_0), (9, .int s115_0)], [], M_40)) (S2 := (137, [(0, .ref m0), (1, .int i40_1), (2, .int (f2 f mA)), (3, .int 0), (4, .int s35_0), (5, .int i40_5), (6, .int (f2 f i40_1)), (7, .int s83_0), (8, .int s99_0), (9, .int s115_0)], [], M_40)) rfl rfl rfl (fun c_134 => ?_) (fun c_134 => ?_)
                      · have c_134 : s35_0 = 0 := of_decide_eq_true c_134
                        exact J_157 
                      · have c_134 : ¬ (s35_0 = 0) := of_decide_eq_false c_134
                        refine ml_blk 3 (S' := (141, [(0, .ref m0), (1, .int i40_1), (2, .int (f2 f mA)), (3, .int 0), (4, .int s35_0), (5, .int i40_5), (6, .int (f2 f i40_1)), (7, .int s83_0), (8, .int s99_0), (9, .int s115_0)], [.int 0, .int s83_0, .ref m0], M_40)) rfl ?_
                        have hY268 : SK S cN sa sl ch I_40 R_40 := (hY.mono (cIx hI_40 (by decide)) (cRx hV_40 (by decide)))
                        refine ml_call (a := [.ref m0, .int s83_0, .int 0]) (rest := []) rfl (hR_40.okc rfl rfl rfl) rfl rfl (rm_unqualified hR_40 hY268 (hnm.1) (hnm.2) (by omega)) (fun v269 M270 h271 => ?_)
                        obtain ⟨⟨u272, rfl, z273⟩, h271⟩ := h271
                        rw [h271]
                        show ml _ _ _ (144, [(0, .ref m0), (1, .int i40_1), (2, .int (f2 f mA)), (3, .int 0), (4, .int s35_0), (5, .int i40_5), (6, .int (f2 f i40_1)), (7, .int s83_0), (8, .int s99_0), (9, .int s115_0)], [.int u272], M_40) _
                        refine ml_if (S1 := (157, [(0, .ref m0), (1, .int i40_1), (2, .int (f2 f mA)), (3, .int 0), (4, .int s35_0), (5, .int i40_5), (6, .int (f2 f i40_1)), (7, .int s83_0), (8, .int s99_0), (9, .int s115_0)], [], M_40)) (S2 := (147, [(0, .ref m0), (1, .int i40_1)], [], M_40)) rfl rfl rfl (fun c_144 => ?_) (fun c_144 => ?_)
                        · have c_144 : ¬ u272 = 0 := of_decide_eq_true c_144
                          exact J_157 
                        · have c_144 : ¬ (¬ u272 = 0) := of_decide_eq_false c_144
                          refine ml_blk 3 (S' := (151, [(0, .ref m0), (1, .int i40_1)], [.int i40_1, .int 24, .ref m0], M_40)) rfl ?_
                          refine ml_blk 2 (S' := (153, [(0, .ref m0), (1, .int i40_1)], [.int (i40_1 + 2), .int 24, .ref m0], M_40)) rfl ?_
                          refine ml_call (a := [.ref m0, .int 24, .int (i40_1 + 2)]) (rest := []) rfl (hR_40.okc rfl rfl rfl) rfl rfl (rm_wrong hR_40 (by omega)) (fun v274 M275 h276 => ?_)
                          obtain ⟨u282, I277, R278, rfl, hR279, hI280, hV281, z283, w284⟩ := h276
                          show ml _ _ _ (156, [(0, .ref m0), (1, .int i40_1)], [.int u282], M275) _
                          exact ml_ret rfl (r_z (z283)) (⟨_, _, _, rfl, hR279, ((eqI.rf.tr hI_40 (by decide)).tr hI280 (by decide)), ((eqR.rf.tr hV_40 (by decide)).tr hV281 (by decide)), z283, Or.inl w284⟩)
              refine ml_if2 (S1 := (114, [(8, .int s99_0), (0, .ref m0), (1, .int i40_1), (2, .int (f2 f mA)), (3, .int 0), (4, .int s35_0), (5, .int i40_5), (6, .int (f2 f i40_1)), (7, .int s83_0)], [], M_40)) (S2 := (110, [(8, .int s99_0), (0, .ref m0), (1, .int i40_1), (2, .int (f2 f mA)), (3, .int 0), (4, .int s35_0), (5, .int i40_5), (6, .int (f2 f i40_1)), (7, .int s83_0)], [], M_40)) rfl rfl rfl (fun c_107 => ?_) (fun c_107 => ?_)
              · have c_107 : ¬ s83_0 = sc := of_decide_eq_true c_107
                refine ml_st (S' := (115, [(0, .ref m0), (1, .int i40_1), (2, .int (f2 f mA)), (3, .int 0), (4, .int s35_0), (5, .int i40_5), (6, .int (f2 f i40_1)), (7, .int s83_0), (8, .int s99_0)], [.int 0], M_40)) rfl rfl rfl ?_
                exact J_115 0
              · have c_107 : ¬ (¬ s83_0 = sc) := of_decide_eq_false c_107
                refine ml_st (S' := (111, [(8, .int s99_0), (0, .ref m0), (1, .int i40_1), (2, .int (f2 f mA)), (3, .int 0), (4, .int s35_0), (5, .int i40_5), (6, .int (f2 f i40_1)), (7, .int s83_0)], [.int 1], M_40)) rfl rfl rfl ?_
                refine ml_st (S' := (115, [(0, .ref m0), (1, .int i40_1), (2, .int (f2 f mA)), (3, .int 0), (4, .int s35_0), (5, .int i40_5), (6, .int (f2 f i40_1)), (7, .int s83_0), (8, .int s99_0)], [.int 1], M_40)) rfl rfl rfl ?_
                exact J_115 1
            refine ml_if2 (S1 := (98, [(7, .int s83_0), (0, .ref m0), (1, .int i40_1), (2, .int (f2 f mA)), (3, .int 0), (4, .int s35_0), (5, .int i40_5), (6, .int (f2 f i40_1))], [], M_40)) (S2 := (94, [(7, .int s83_0), (0, .ref m0), (1, .int i40_1), (2, .int (f2 f mA)), (3, .int 0), (4, .int s35_0), (5, .int i40_5), (6, .int (f2 f i40_1))], [], M_40)) rfl rfl rfl (fun c_91 => ?_) (fun c_91 => ?_)
            · have c_91 : ¬ s83_0 = si := of_decide_eq_true c_91
              refine ml_st (S' := (99, [(0, .ref m0), (1, .int i40_1), (2, .int (f2 f mA)), (3, .int 0), (4, .int s35_0), (5, .int i40_5), (6, .int (f2 f i40_1)), (7, .int s83_0)], [.int 0], M_40)) rfl rfl rfl ?_
              exact J_99 0
            · have c_91 : ¬ (¬ s83_0 = si) := of_decide_eq_false c_91
              refine ml_st (S' := (95, [(7, .int s83_0), (0, .ref m0), (1, .int i40_1), (2, .int (f2 f mA)), (3, .int 0), (4, .int s35_0), (5, .int i40_5), (6, .int (f2 f i40_1))], [.int 1], M_40)) rfl rfl rfl ?_
              refine ml_st (S' := (99, [(0, .ref m0), (1, .int i40_1), (2, .int (f2 f mA)), (3, .int 0), (4, .int s35_0), (5, .int i40_5), (6, .int (f2 f i40_1)), (7, .int s83_0)], [.int 1], M_40)) rfl rfl rfl ?_
              exact J_99 1
          refine ml_if2 (S1 := (82, [(6, .int (f2 f i40_1)), (0, .ref m0), (1, .int i40_1), (2, .int (f2 f mA)), (3, .int 0), (4, .int s35_0), (5, .int i40_5)], [], M_40)) (S2 := (68, [(6, .int (f2 f i40_1)), (0, .ref m0), (1, .int i40_1), (2, .int (f2 f mA)), (3, .int 0), (4, .int s35_0), (5, .int i40_5)], [], M_40)) rfl rfl rfl (fun c_65 => ?_) (fun c_65 => ?_)
          · have c_65 : ¬ (tgf f cp pa (f2 f (i40_1 + 2))) = 1 := of_decide_eq_true c_65
            refine ml_st (S' := (83, [(0, .ref m0), (1, .int i40_1), (2, .int (f2 f mA)), (3, .int 0), (4, .int s35_0), (5, .int i40_5), (6, .int (f2 f i40_1))], [.int (-1)], M_40)) rfl rfl rfl ?_
            exact J_83 (-1) (Or.inl (by decide))
          · have c_65 : ¬ (¬ (tgf f cp pa (f2 f (i40_1 + 2))) = 1) := of_decide_eq_false c_65
            refine ml_blk 3 (S' := (71, [(6, .int (f2 f i40_1)), (0, .ref m0), (1, .int i40_1), (2, .int (f2 f mA)), (3, .int 0), (4, .int s35_0), (5, .int i40_5)], [.int i40_1, .ref m0, .ref m0], M_40)) rfl ?_
            refine ml_blk 2 (S' := (73, [(6, .int (f2 f i40_1)), (0, .ref m0), (1, .int i40_1), (2, .int (f2 f mA)), (3, .int 0), (4, .int s35_0), (5, .int i40_5)], [.int (i40_1 + 2), .ref m0, .ref m0], M_40)) rfl ?_
            refine ml_call (a := [.ref m0, .int (i40_1 + 2)]) (rest := [.ref m0]) rfl (hR_40.okc rfl rfl rfl) rfl rfl (rm_u2 hR_40 hF14 (by omega) (by omega) (by omega)) (fun v285 M286 h287 => ?_)
            obtain ⟨rfl, h287⟩ := h287
            rw [h287]
            show ml _ _ _ (76, [(6, .int (f2 f i40_1)), (0, .ref m0), (1, .int i40_1), (2, .int (f2 f mA)), (3, .int 0), (4, .int s35_0), (5, .int i40_5)], [.int (f2 f (i40_1 + 2)), .ref m0], M_40) _
            refine ml_call (a := [.ref m0, .int (f2 f (i40_1 + 2))]) (rest := []) rfl (hR_40.okc rfl rfl rfl) rfl rfl (rm_symOf hR_40 hP21 (Decidable.not_not.mp c_65) (by omega)) (fun v288 M289 h290 => ?_)
            obtain ⟨rfl, h290⟩ := h290
            rw [h290]
            show ml _ _ _ (79, [(6, .int (f2 f i40_1)), (0, .ref m0), (1, .int i40_1), (2, .int (f2 f mA)), (3, .int 0), (4, .int s35_0), (5, .int i40_5)], [.int (pyf py (f2 f (i40_1 + 2)))], M_40) _
            refine ml_st (S' := (83, [(0, .ref m0), (1, .int i40_1), (2, .int (f2 f mA)), (3, .int 0), (4, .int s35_0), (5, .int i40_5), (6, .int (f2 f i40_1))], [.int (pyf py (f2 f (i40_1 + 2)))], M_40)) rfl rfl rfl ?_
            exact J_83 (pyf py (f2 f (i40_1 + 2))) (Or.inr ⟨(hP.y (show tgf f cp pa (f2 f (i40_1 + 2)) = 1 from Decidable.not_not.mp c_65)).2.2.1, (hP.y (show tgf f cp pa (f2 f (i40_1 + 2)) = 1 from Decidable.not_not.mp c_65)).2.2.2⟩)
    exact L_40 _ (mA + 2) 0 _ _ _ (Nat.le_refl _) hR eqI.rf eqR.rf (⟨by decide, by show (0 : Int) ≤ _; exact f2_pos, hk26, by rw [show ((f2 f mA).toInt - (0 : Int32).toInt).toNat = (f2 f mA).toInt.toNat by have : (0 : Int32).toInt = 0 := rfl; omega]; exact hmb.2.2.1, by rw [eA2]; have : (0 : Int32).toInt = 0 := rfl; omega, fun x hx => absurd hx (Nat.not_lt_zero x)⟩)
  refine ml_if (S1 := (34, [(3, .int 0), (1, .int (mA + 2)), (2, .int (f2 f mA)), (0, .ref m0)], [], M)) (S2 := (30, [(3, .int 0), (1, .int (mA + 2)), (2, .int (f2 f mA)), (0, .ref m0)], [], M)) rfl rfl rfl (fun c_27 => ?_) (fun c_27 => ?_)
  · have c_27 : (nf &&& 512) = 0 := of_decide_eq_true c_27
    refine ml_st (S' := (35, [(0, .ref m0), (1, .int (mA + 2)), (2, .int (f2 f mA)), (3, .int 0)], [.int 0], M)) rfl rfl rfl ?_
    exact J_35 0
  · have c_27 : ¬ ((nf &&& 512) = 0) := of_decide_eq_false c_27
    refine ml_st (S' := (31, [(3, .int 0), (1, .int (mA + 2)), (2, .int (f2 f mA)), (0, .ref m0)], [.int 1], M)) rfl rfl rfl ?_
    refine ml_st (S' := (35, [(0, .ref m0), (1, .int (mA + 2)), (2, .int (f2 f mA)), (3, .int 0)], [.int 1], M)) rfl rfl rfl ?_
    exact J_35 1
end
section
/-! the reference: a file that was accepted (my own text) -/
section MIA4
def GD (n : Nat) (f : Nat → Int32) (I : rI) (R : rR) : Prop := ∃ (S cN : Nat) (sa sl ch : Nat → Int32) (cp mj : Int32) (pa py : Nat → Int32) (hA fA mA aA nf ni : Int32) (kf km : Nat), FK n f I R ∧ SK S cN sa sl ch I R ∧ PK n f S cp mj pa py I R ∧ EK f cp pa py sa sl ch ∧ FO f n cp mj hA fA mA aA ∧ I 54 = some hA ∧ I 58 = some nf ∧ I 61 = some ni ∧ kf ≤ 8192 ∧ I 25 = some (nI kf) ∧ FKN kf R ∧ km ≤ 8192 ∧ I 26 = some (nI km) ∧ MKN f n S sa sl ch km R ∧ NW f n I
theorem pk_of {n S : Nat} {f : Nat → Int32} {cp mj : Int32} {I : rI} {R : rR} (h : PEN f n S cp.toInt.toNat R) (hc : 1 ≤ cp.toInt ∧ cp.toInt ≤ 65535) (i1 : I 51 = some 0) (i2 : I 52 = some cp) (i3 : I 53 = some mj) : ∃ pa py, PK n f S cp mj pa py I R := by
  refine ⟨fun j => (R 21 j).getD 0, fun j => (R 22 j).getD 0, i1, i2, i3, hc, fun j h1 h2 => ?_⟩
  obtain ⟨a, b1, b2⟩ := h.2 j h1 h2
  simp only [b1, Option.getD_some]
  refine ⟨trivial, b2.imp id (fun ⟨c1, c2, c3⟩ => ⟨c1, c2, fun e => ?_⟩)⟩
  obtain ⟨sy, e1, e2, e3⟩ := c3 e
  simp only [e1, Option.getD_some]
  exact ⟨trivial, e2, e3⟩
theorem nw_0 {n : Nat} {f : Nat → Int32} {I : rI} (h : ∀ k, k ∈ [65, 66, 67, 68, 69, 72] → ∃ v, I k = some v) (h0 : I 70 = some (-1)) (h1 : I 71 = some 0) : NW f n I := ⟨h, -1, 0, h0, h1, by decide, Or.inl rfl⟩
end MIA4
end
section
/-! the reference: the whole check (laid by wip/p2/c71.py) -/
set_option maxHeartbeats 2000000 in
theorem rm_checkFile {g : xe_G}  {m0 : Nat} {q : Nat → Nat} {z : Nat × Nat} {I : rI} {R : rR} {M : mi_H} {si sc so : Int32} {n : Nat} {f : Nat → Int32} {S cN : Nat}  (hR : RS g m0 q z I R M) (hk20 : I 20 = some 0) (hk25 : I 25 = some 0) (hk26 : I 26 = some 0) (hk9 : I 9 = some si) (hk10 : I 10 = some sc) (hk11 : I 11 = some so) (hF : FK n f I R) (hZ : SYM S cN I R) (hK : KW I R) (hS3 : S ≤ 3) (hC3 : cN ≤ 30) {d : Nat} (hd : 9 ≤ d) : mt (mT g) d 190 [.ref m0] M (fun v M' => ∃ (x : Int32) (I' : rI) (R' : rR), v = some (.int x) ∧ RS g m0 q z I' R' M' ∧ eqI [3, 8, 20, 25, 26, 47, 48, 50, 51, 52, 53, 54, 55, 56, 57, 58, 59, 60, 61, 65, 66, 67, 68, 69, 70, 71, 72] I I' ∧ eqR [1, 2, 4, 5, 6, 7, 21, 22, 27, 28, 29, 30, 31, 32, 33, 34, 35, 36, 37, 38, 39, 40, 41, 42, 43, 44, 45, 46] R R' ∧ (x = 0 ∨ x = 1) ∧ (x = 0 ∨ GD n f I' R')) := by
  obtain ⟨d, rfl⟩ : ∃ e, d = e + 1 := ⟨d - 1, by omega⟩
  refine mt_in (b := mb_190 g) rfl rfl ?_
  show ml (mT g) d (mb_190 g).2 (0, [(0, .ref m0)], [], M) _
  have hn := hF.1
  refine ml_blk 2 (S' := (2, [(0, .ref m0)], [.int (-1), .ref m0], M)) rfl ?_
  refine rp_int rfl hR rfl (fun M11 I12 hR13 e14 f15 => ?_)
  show ml _ _ _ (5, [(0, .ref m0)], [], M11) _
  refine ml_blk 2 (S' := (7, [(0, .ref m0)], [.int 0, .ref m0], M11)) rfl ?_
  refine rp_int rfl hR13 rfl (fun M16 I17 hR18 e19 f20 => ?_)
  show ml _ _ _ (10, [(0, .ref m0)], [], M16) _
  refine ml_blk 2 (S' := (12, [(0, .ref m0)], [.int 0, .ref m0], M16)) rfl ?_
  refine rp_int rfl hR18 rfl (fun M21 I22 hR23 e24 f25 => ?_)
  show ml _ _ _ (15, [(0, .ref m0)], [], M21) _
  refine ml_blk 2 (S' := (17, [(0, .ref m0)], [.int 0, .ref m0], M21)) rfl ?_
  refine rp_int rfl hR23 rfl (fun M26 I27 hR28 e29 f30 => ?_)
  show ml _ _ _ (20, [(0, .ref m0)], [], M26) _
  refine ml_blk 2 (S' := (22, [(0, .ref m0)], [.int 0, .ref m0], M26)) rfl ?_
  refine rp_int rfl hR28 rfl (fun M31 I32 hR33 e34 f35 => ?_)
  show ml _ _ _ (25, [(0, .ref m0)], [], M31) _
  refine ml_blk 2 (S' := (27, [(0, .ref m0)], [.int (-1), .ref m0], M31)) rfl ?_
  refine rp_int rfl hR33 rfl (fun M36 I37 hR38 e39 f40 => ?_)
  show ml _ _ _ (30, [(0, .ref m0)], [], M36) _
  refine ml_blk 2 (S' := (32, [(0, .ref m0)], [.int 0, .ref m0], M36)) rfl ?_
  refine rp_int rfl hR38 rfl (fun M41 I42 hR43 e44 f45 => ?_)
  show ml _ _ _ (35, [(0, .ref m0)], [], M41) _
  refine ml_blk 2 (S' := (37, [(0, .ref m0)], [.int (-1), .ref m0], M41)) rfl ?_
  refine rp_int rfl hR43 rfl (fun M46 I47 hR48 e49 f50 => ?_)
  show ml _ _ _ (40, [(0, .ref m0)], [], M46) _
  have hN0 : NW f n I47 := nw_0 (fun k hk => by simp only [List.mem_cons, List.not_mem_nil, or_false] at hk; rcases hk with rfl | rfl | rfl | rfl | rfl | rfl; exact ⟨_, (f50 65 (by decide)).trans ((f45 65 (by decide)).trans ((f40 65 (by decide)).trans ((f35 65 (by decide)).trans (e29))))⟩; exact ⟨_, (f50 66 (by decide)).trans ((f45 66 (by decide)).trans ((f40 66 (by decide)).trans (e34)))⟩; exact ⟨_, (f50 67 (by decide)).trans ((f45 67 (by decide)).trans ((f40 67 (by decide)).trans ((f35 67 (by decide)).trans ((f30 67 (by decide)).trans ((f25 67 (by decide)).trans ((f20 67 (by decide)).trans (e14)))))))⟩; exact ⟨_, (f50 68 (by decide)).trans ((f45 68 (by decide)).trans ((f40 68 (by decide)).trans ((f35 68 (by decide)).trans ((f30 68 (by decide)).trans ((f25 68 (by decide)).trans (e19))))))⟩; exact ⟨_, (f50 69 (by decide)).trans ((f45 69 (by decide)).trans ((f40 69 (by decide)).trans ((f35 69 (by decide)).trans ((f30 69 (by decide)).trans (e24)))))⟩; exact ⟨_, e49⟩) ((f50 70 (by decide)).trans ((f45 70 (by decide)).trans (e39))) ((f50 71 (by decide)).trans (e44))
  refine ml_st (S' := (41, [(0, .ref m0)], [.ref m0], M46)) rfl rfl rfl ?_
  have hF51 : FK n f I47 R := ((((((((hF.mono (pIx f15 (by decide)) (fun _ _ => rfl)).mono (pIx f20 (by decide)) (fun _ _ => rfl)).mono (pIx f25 (by decide)) (fun _ _ => rfl)).mono (pIx f30 (by decide)) (fun _ _ => rfl)).mono (pIx f35 (by decide)) (fun _ _ => rfl)).mono (pIx f40 (by decide)) (fun _ _ => rfl)).mono (pIx f45 (by decide)) (fun _ _ => rfl)).mono (pIx f50 (by decide)) (fun _ _ => rfl))
  have hZ52 : SYM S cN I47 R := ((((((((hZ.mono (pIx f15 (by decide)) (fun _ _ => rfl)).mono (pIx f20 (by decide)) (fun _ _ => rfl)).mono (pIx f25 (by decide)) (fun _ _ => rfl)).mono (pIx f30 (by decide)) (fun _ _ => rfl)).mono (pIx f35 (by decide)) (fun _ _ => rfl)).mono (pIx f40 (by decide)) (fun _ _ => rfl)).mono (pIx f45 (by decide)) (fun _ _ => rfl)).mono (pIx f50 (by decide)) (fun _ _ => rfl))
  refine ml_call (a := [.ref m0]) (rest := []) rfl (hR48.okc rfl rfl rfl) rfl rfl (rm_readFile hR48 ((f50 20 (by decide)).trans ((f45 20 (by decide)).trans ((f40 20 (by decide)).trans ((f35 20 (by decide)).trans ((f30 20 (by decide)).trans ((f25 20 (by decide)).trans ((f20 20 (by decide)).trans ((f15 20 (by decide)).trans (hk20))))))))) hF51 hZ52 (hS3) (hC3) (by omega)) (fun v53 M54 h55 => ?_)
  obtain ⟨u61, I56, R57, rfl, hR58, hI59, hV60, z62, w63⟩ := h55
  show ml _ _ _ (44, [(0, .ref m0)], [.int u61], M54) _
  have hfr0 := w63
  refine ml_if (S1 := (75, [], [], M54)) (S2 := (47, [(0, .ref m0)], [], M54)) rfl rfl rfl (fun c_44 => ?_) (fun c_44 => ?_)
  · have c_44 : u61 = 0 := of_decide_eq_true c_44
    refine ml_st (S' := (76, [], [.int 0], M54)) rfl rfl rfl ?_
    exact ml_ret rfl (r_z (Or.inl rfl)) (⟨_, _, _, rfl, hR58, (((((((((eqI.rf.put f15 (by decide)).put f20 (by decide)).put f25 (by decide)).put f30 (by decide)).put f35 (by decide)).put f40 (by decide)).put f45 (by decide)).put f50 (by decide)).tr hI59 (by decide)), (eqR.rf.tr hV60 (by decide)), Or.inl rfl, Or.inl rfl⟩)
  · have c_44 : ¬ (u61 = 0) := of_decide_eq_false c_44
    obtain ⟨S, cN, cp, mj, hA, fA, mA, aA, ⟨sa, sl, ch, he, nx, hY9, hH9⟩, hpen, hFO, h51, h52, h53, h54, h55, h56, h57⟩ := hfr0.resolve_left c_44
    obtain ⟨pa, py, hP9⟩ := pk_of hpen hFO.1 h51 h52 h53
    obtain ⟨hcp, ⟨hh0, hh1, hh2⟩, hmb1, hmb2, eE, hatE⟩ := hFO
    refine ml_st (S' := (48, [(0, .ref m0)], [.ref m0], M54)) rfl rfl rfl ?_
    have hF64 : FK n f I56 R57 := (hF51.mono (cIx hI59 (by decide)) (cRx hV60 (by decide)))
    refine ml_call (a := [.ref m0]) (rest := []) rfl (hR58.okc rfl rfl rfl) rfl rfl (rm_checkPool hR58 ((hI59 9 (by decide)).trans ((f50 9 (by decide)).trans ((f45 9 (by decide)).trans ((f40 9 (by decide)).trans ((f35 9 (by decide)).trans ((f30 9 (by decide)).trans ((f25 9 (by decide)).trans ((f20 9 (by decide)).trans ((f15 9 (by decide)).trans (hk9)))))))))) hF64 hY9 hP9 (by omega)) (fun v65 M66 h67 => ?_)
    obtain ⟨u73, I68, R69, rfl, hR70, hI71, hV72, z74, w75⟩ := h67
    show ml _ _ _ (51, [(0, .ref m0)], [.int u73], M66) _
    refine ml_if (S1 := (75, [], [], M66)) (S2 := (54, [(0, .ref m0)], [], M66)) rfl rfl rfl (fun c_51 => ?_) (fun c_51 => ?_)
    · have c_51 : u73 = 0 := of_decide_eq_true c_51
      refine ml_st (S' := (76, [], [.int 0], M66)) rfl rfl rfl ?_
      exact ml_ret rfl (r_z (Or.inl rfl)) (⟨_, _, _, rfl, hR70, ((((((((((eqI.rf.put f15 (by decide)).put f20 (by decide)).put f25 (by decide)).put f30 (by decide)).put f35 (by decide)).put f40 (by decide)).put f45 (by decide)).put f50 (by decide)).tr hI59 (by decide)).tr hI71 (by decide)), ((eqR.rf.tr hV60 (by decide)).tr hV72 (by decide)), Or.inl rfl, Or.inl rfl⟩)
    · have c_51 : ¬ (u73 = 0) := of_decide_eq_false c_51
      have hE9 := w75.resolve_left c_51
      refine ml_st (S' := (55, [(0, .ref m0)], [.ref m0], M66)) rfl rfl rfl ?_
      have hF76 : FK n f I68 R69 := (hF64.mono (cIx hI71 (by decide)) (cRx hV72 (by decide)))
      have hY77 : SK S cN sa sl ch I68 R69 := (hY9.mono (cIx hI71 (by decide)) (cRx hV72 (by decide)))
      have hP78 : PK n f S cp mj pa py I68 R69 := (hP9.mono (cIx hI71 (by decide)) (cRx hV72 (by decide)))
      refine ml_call (a := [.ref m0]) (rest := []) rfl (hR70.okc rfl rfl rfl) rfl rfl (rm_checkClass hR70 ((hI71 54 (by decide)).trans (h54)) ((hI71 11 (by decide)).trans ((hI59 11 (by decide)).trans ((f50 11 (by decide)).trans ((f45 11 (by decide)).trans ((f40 11 (by decide)).trans ((f35 11 (by decide)).trans ((f30 11 (by decide)).trans ((f25 11 (by decide)).trans ((f20 11 (by decide)).trans ((f15 11 (by decide)).trans (hk11))))))))))) hF76 hY77 hP78 hE9 (by omega) (by omega) (by omega)) (fun v79 M80 h81 => ?_)
      obtain ⟨u87, I82, R83, rfl, hR84, hI85, hV86, z88, w89⟩ := h81
      show ml _ _ _ (58, [(0, .ref m0)], [.int u87], M80) _
      refine ml_if (S1 := (75, [], [], M80)) (S2 := (61, [(0, .ref m0)], [], M80)) rfl rfl rfl (fun c_58 => ?_) (fun c_58 => ?_)
      · have c_58 : u87 = 0 := of_decide_eq_true c_58
        refine ml_st (S' := (76, [], [.int 0], M80)) rfl rfl rfl ?_
        exact ml_ret rfl (r_z (Or.inl rfl)) (⟨_, _, _, rfl, hR84, (((((((((((eqI.rf.put f15 (by decide)).put f20 (by decide)).put f25 (by decide)).put f30 (by decide)).put f35 (by decide)).put f40 (by decide)).put f45 (by decide)).put f50 (by decide)).tr hI59 (by decide)).tr hI71 (by decide)).tr hI85 (by decide)), (((eqR.rf.tr hV60 (by decide)).tr hV72 (by decide)).tr hV86 (by decide)), Or.inl rfl, Or.inl rfl⟩)
      · have c_58 : ¬ (u87 = 0) := of_decide_eq_false c_58
        obtain ⟨⟨nf, hnf⟩, ni, hni⟩ := w89.resolve_left c_58
        refine ml_st (S' := (62, [(0, .ref m0)], [.ref m0], M80)) rfl rfl rfl ?_
        have hF90 : FK n f I82 R83 := (hF76.mono (cIx hI85 (by decide)) (cRx hV86 (by decide)))
        have hY91 : SK S cN sa sl ch I82 R83 := (hY77.mono (cIx hI85 (by decide)) (cRx hV86 (by decide)))
        have hP92 : PK n f S cp mj pa py I82 R83 := (hP78.mono (cIx hI85 (by decide)) (cRx hV86 (by decide)))
        have hK93 : KW I82 R83 := (((((((((((hK.mono (pIx f15 (by decide)) (fun _ _ => rfl)).mono (pIx f20 (by decide)) (fun _ _ => rfl)).mono (pIx f25 (by decide)) (fun _ _ => rfl)).mono (pIx f30 (by decide)) (fun _ _ => rfl)).mono (pIx f35 (by decide)) (fun _ _ => rfl)).mono (pIx f40 (by decide)) (fun _ _ => rfl)).mono (pIx f45 (by decide)) (fun _ _ => rfl)).mono (pIx f50 (by decide)) (fun _ _ => rfl)).mono (cIx hI59 (by decide)) (cRx hV60 (by decide))).mono (cIx hI71 (by decide)) (cRx hV72 (by decide))).mono (cIx hI85 (by decide)) (cRx hV86 (by decide)))
        refine ml_call (a := [.ref m0]) (rest := []) rfl (hR84.okc rfl rfl rfl) rfl rfl (rm_checkFields hR84 ((hI85 55 (by decide)).trans ((hI71 55 (by decide)).trans (h55))) ((hI85 25 (by decide)).trans ((hI71 25 (by decide)).trans ((hI59 25 (by decide)).trans ((f50 25 (by decide)).trans ((f45 25 (by decide)).trans ((f40 25 (by decide)).trans ((f35 25 (by decide)).trans ((f30 25 (by decide)).trans ((f25 25 (by decide)).trans ((f20 25 (by decide)).trans ((f15 25 (by decide)).trans (hk25)))))))))))) (hnf) hF90 hY91 hP92 hK93 (hmb1) (by omega)) (fun v94 M95 h96 => ?_)
        obtain ⟨u102, I97, R98, rfl, hR99, hI100, hV101, z103, w104⟩ := h96
        show ml _ _ _ (65, [(0, .ref m0)], [.int u102], M95) _
        refine ml_if (S1 := (75, [], [], M95)) (S2 := (68, [(0, .ref m0)], [], M95)) rfl rfl rfl (fun c_65 => ?_) (fun c_65 => ?_)
        · have c_65 : u102 = 0 := of_decide_eq_true c_65
          refine ml_st (S' := (76, [], [.int 0], M95)) rfl rfl rfl ?_
          exact ml_ret rfl (r_z (Or.inl rfl)) (⟨_, _, _, rfl, hR99, ((((((((((((eqI.rf.put f15 (by decide)).put f20 (by decide)).put f25 (by decide)).put f30 (by decide)).put f35 (by decide)).put f40 (by decide)).put f45 (by decide)).put f50 (by decide)).tr hI59 (by decide)).tr hI71 (by decide)).tr hI85 (by decide)).tr hI100 (by decide)), ((((eqR.rf.tr hV60 (by decide)).tr hV72 (by decide)).tr hV86 (by decide)).tr hV101 (by decide)), Or.inl rfl, Or.inl rfl⟩)
        · have c_65 : ¬ (u102 = 0) := of_decide_eq_false c_65
          obtain ⟨kf, hkf, hkf2, hfk⟩ := w104.resolve_left c_65
          refine ml_st (S' := (69, [(0, .ref m0)], [.ref m0], M95)) rfl rfl rfl ?_
          have hF105 : FK n f I97 R98 := (hF90.mono (cIx hI100 (by decide)) (cRx hV101 (by decide)))
          have hY106 : SK S cN sa sl ch I97 R98 := (hY91.mono (cIx hI100 (by decide)) (cRx hV101 (by decide)))
          have hP107 : PK n f S cp mj pa py I97 R98 := (hP92.mono (cIx hI100 (by decide)) (cRx hV101 (by decide)))
          have hK108 : KW I97 R98 := (hK93.mono (cIx hI100 (by decide)) (cRx hV101 (by decide)))
          refine ml_call (a := [.ref m0]) (rest := []) rfl (hR99.okc rfl rfl rfl) rfl rfl (rm_checkMethods hR99 ((hI100 56 (by decide)).trans ((hI85 56 (by decide)).trans ((hI71 56 (by decide)).trans (h56)))) ((hI100 26 (by decide)).trans ((hI85 26 (by decide)).trans ((hI71 26 (by decide)).trans ((hI59 26 (by decide)).trans ((f50 26 (by decide)).trans ((f45 26 (by decide)).trans ((f40 26 (by decide)).trans ((f35 26 (by decide)).trans ((f30 26 (by decide)).trans ((f25 26 (by decide)).trans ((f20 26 (by decide)).trans ((f15 26 (by decide)).trans (hk26))))))))))))) ((hI100 58 (by decide)).trans (hnf)) ((hI100 9 (by decide)).trans ((hI85 9 (by decide)).trans ((hI71 9 (by decide)).trans ((hI59 9 (by decide)).trans ((f50 9 (by decide)).trans ((f45 9 (by decide)).trans ((f40 9 (by decide)).trans ((f35 9 (by decide)).trans ((f30 9 (by decide)).trans ((f25 9 (by decide)).trans ((f20 9 (by decide)).trans ((f15 9 (by decide)).trans (hk9))))))))))))) ((hI100 10 (by decide)).trans ((hI85 10 (by decide)).trans ((hI71 10 (by decide)).trans ((hI59 10 (by decide)).trans ((f50 10 (by decide)).trans ((f45 10 (by decide)).trans ((f40 10 (by decide)).trans ((f35 10 (by decide)).trans ((f30 10 (by decide)).trans ((f25 10 (by decide)).trans ((f20 10 (by decide)).trans ((f15 10 (by decide)).trans (hk10))))))))))))) hF105 hY106 hP107 hK108 (hmb2) (by omega)) (fun v109 M110 h111 => ?_)
          obtain ⟨u117, I112, R113, rfl, hR114, hI115, hV116, z118, w119⟩ := h111
          show ml _ _ _ (72, [(0, .ref m0)], [.int u117], M110) _
          refine ml_if (S1 := (77, [(0, .ref m0)], [], M110)) (S2 := (75, [], [], M110)) rfl rfl rfl (fun c_72 => ?_) (fun c_72 => ?_)
          · have c_72 : ¬ u117 = 0 := of_decide_eq_true c_72
            obtain ⟨km, hkm, hkm2, hmk⟩ := w119.resolve_left c_72
            refine ml_blk 2 (S' := (79, [(0, .ref m0)], [.ref m0, .ref m0], M110)) rfl ?_
            refine rg_int (S' := (82, [(0, .ref m0)], [.int aA, .ref m0], M110)) rfl hR114 rfl ((hI115 57 (by decide)).trans ((hI100 57 (by decide)).trans ((hI85 57 (by decide)).trans ((hI71 57 (by decide)).trans (h57))))) rfl ?_
            refine ml_blk 2 (S' := (84, [(0, .ref m0)], [.int 0, .int 4, .int aA, .ref m0], M110)) rfl ?_
            have hF120 : FK n f I112 R113 := (hF105.mono (cIx hI115 (by decide)) (cRx hV116 (by decide)))
            have hY121 : SK S cN sa sl ch I112 R113 := (hY106.mono (cIx hI115 (by decide)) (cRx hV116 (by decide)))
            have hP122 : PK n f S cp mj pa py I112 R113 := (hP107.mono (cIx hI115 (by decide)) (cRx hV116 (by decide)))
            have hK123 : KW I112 R113 := (hK108.mono (cIx hI115 (by decide)) (cRx hV116 (by decide)))
            refine ml_call (a := [.ref m0, .int aA, .int 4, .int 0]) (rest := []) rfl (hR114.okc rfl rfl rfl) rfl rfl (rm_checkAttributes4 hR114 ((hI115 58 (by decide)).trans ((hI100 58 (by decide)).trans (hnf))) hF120 hY121 hP122 hK123 (rfl) (hatE) ((((((hN0.fr (cIx hI59 (by decide))).fr (cIx hI71 (by decide))).fr (cIx hI85 (by decide))).fr (cIx hI100 (by decide))).fr (cIx hI115 (by decide)))) (by omega)) (fun v124 M125 h126 => ?_)
            obtain ⟨u132, I127, R128, rfl, hR129, hI130, hV131, w133⟩ := h126
            show ml _ _ _ (87, [(0, .ref m0)], [.int u132], M125) _
            obtain ⟨-, hN9⟩ := w133
            refine ml_if (S1 := (92, [(0, .ref m0)], [], M125)) (S2 := (90, [(0, .ref m0)], [], M125)) rfl rfl rfl (fun c_87 => ?_) (fun c_87 => ?_)
            · have c_87 : 0 ≤ u132 := of_decide_eq_true c_87
              have hN8 := hN9
              obtain ⟨hNk, nb, nbn, hnb, hnbn, hnc, hnd⟩ := hN8
              refine ml_st (S' := (93, [(0, .ref m0)], [.int 1], M125)) rfl rfl rfl ?_
              refine ml_st (S' := (94, [(0, .ref m0), (1, .int 1)], [], M125)) rfl rfl rfl ?_
              have L_94 : ∀ (n_94 : Nat) (i94_1 : Int32), (2147483648 - i94_1.toInt).toNat ≤ n_94 → 1 ≤ i94_1.toInt → ml (mT g) d (mb_190 g).2 (94, [(0, .ref m0), (1, .int i94_1)], [], M125) (fun v M' => ∃ (x : Int32) (I' : rI) (R' : rR), v = some (.int x) ∧ RS g m0 q z I' R' M' ∧ eqI [3, 8, 20, 25, 26, 47, 48, 50, 51, 52, 53, 54, 55, 56, 57, 58, 59, 60, 61, 65, 66, 67, 68, 69, 70, 71, 72] I I' ∧ eqR [1, 2, 4, 5, 6, 7, 21, 22, 27, 28, 29, 30, 31, 32, 33, 34, 35, 36, 37, 38, 39, 40, 41, 42, 43, 44, 45, 46] R R' ∧ (x = 0 ∨ x = 1) ∧ (x = 0 ∨ GD n f I' R')) := by
                intro n_94
                induction n_94 with
                | zero => intro i94_1 hn; exact (loop_zero hn).elim
                | succ n_94 ih_94 =>
                  intro i94_1 hn_94 hi_94
                  refine ml_blk 2 (S' := (96, [(0, .ref m0), (1, .int i94_1)], [.ref m0, .int i94_1], M125)) rfl ?_
                  refine rg_int (S' := (99, [(0, .ref m0), (1, .int i94_1)], [.int cp, .int i94_1], M125)) rfl hR129 rfl ((hI130 52 (by decide)).trans ((hI115 52 (by decide)).trans ((hI100 52 (by decide)).trans ((hI85 52 (by decide)).trans ((hI71 52 (by decide)).trans (h52)))))) rfl ?_
                  refine ml_if2 (S1 := (157, [(0, .ref m0), (1, .int i94_1)], [], M125)) (S2 := (102, [(0, .ref m0), (1, .int i94_1)], [], M125)) rfl rfl rfl (fun c_99 => ?_) (fun c_99 => ?_)
                  · have c_99 : cp ≤ i94_1 := of_decide_eq_true c_99
                    refine ml_st (S' := (158, [(0, .ref m0), (1, .int i94_1)], [.int 1], M125)) rfl rfl rfl ?_
                    have hF134 : FK n f I127 R128 := (hF120.mono (cIx hI130 (by decide)) (cRx hV131 (by decide)))
                    have hY135 : SK S cN sa sl ch I127 R128 := (hY121.mono (cIx hI130 (by decide)) (cRx hV131 (by decide)))
                    have hP136 : PK n f S cp mj pa py I127 R128 := (hP122.mono (cIx hI130 (by decide)) (cRx hV131 (by decide)))
                    exact ml_ret rfl (r_z (Or.inr rfl)) (⟨_, _, _, rfl, hR129, ((((((((((((((eqI.rf.put f15 (by decide)).put f20 (by decide)).put f25 (by decide)).put f30 (by decide)).put f35 (by decide)).put f40 (by decide)).put f45 (by decide)).put f50 (by decide)).tr hI59 (by decide)).tr hI71 (by decide)).tr hI85 (by decide)).tr hI100 (by decide)).tr hI115 (by decide)).tr hI130 (by decide)), ((((((eqR.rf.tr hV60 (by decide)).tr hV72 (by decide)).tr hV86 (by decide)).tr hV101 (by decide)).tr hV116 (by decide)).tr hV131 (by decide)), Or.inr rfl, Or.inr ⟨S, cN, sa, sl, ch, cp, mj, pa, py, hA, fA, mA, aA, nf, ni, kf, km, hF134, hY135, hP136, hE9, ⟨hcp, ⟨hh0, hh1, hh2⟩, hmb1, hmb2, eE, hatE⟩, (hI130 54 (by decide)).trans ((hI115 54 (by decide)).trans ((hI100 54 (by decide)).trans ((hI85 54 (by decide)).trans ((hI71 54 (by decide)).trans (h54))))), (hI130 58 (by decide)).trans ((hI115 58 (by decide)).trans ((hI100 58 (by decide)).trans (hnf))), (hI130 61 (by decide)).trans ((hI115 61 (by decide)).trans ((hI100 61 (by decide)).trans (hni))), hkf, (hI130 25 (by decide)).trans ((hI115 25 (by decide)).trans (hkf2)), ((hfk.eq hV116 (by decide)).eq hV131 (by decide)), hkm, (hI130 26 (by decide)).trans (hkm2), (hmk.eq hV131), hN9⟩⟩)
                  · have c_99 : ¬ (cp ≤ i94_1) := of_decide_eq_false c_99
                    refine ml_blk 2 (S' := (104, [(0, .ref m0), (1, .int i94_1)], [.int i94_1, .ref m0], M125)) rfl ?_
                    have hF137 : FK n f I127 R128 := (hF120.mono (cIx hI130 (by decide)) (cRx hV131 (by decide)))
                    have hP138 : PK n f S cp mj pa py I127 R128 := (hP122.mono (cIx hI130 (by decide)) (cRx hV131 (by decide)))
                    refine ml_call (a := [.ref m0, .int i94_1]) (rest := []) rfl (hR129.okc rfl rfl rfl) rfl rfl (rm_tag hR129 hF137 hP138 (by omega)) (fun v139 M140 h141 => ?_)
                    obtain ⟨rfl, h141⟩ := h141
                    rw [h141]
                    show ml _ _ _ (107, [(0, .ref m0), (1, .int i94_1)], [.int (tgf f cp pa i94_1)], M125) _
                    refine ml_st (S' := (108, [(2, .int (tgf f cp pa i94_1)), (0, .ref m0), (1, .int i94_1)], [], M125)) rfl rfl rfl ?_
                    refine ml_blk 2 (S' := (111, [(2, .int (tgf f cp pa i94_1)), (0, .ref m0), (1, .int i94_1)], [.int 17, .int (tgf f cp pa i94_1)], M125)) rfl ?_
                    have J_120 : (tgf f cp pa i94_1 = 17 ∨ tgf f cp pa i94_1 = 18) → ml (mT g) d (mb_190 g).2 (120, [(0, .ref m0), (1, .int i94_1)], [], M125) (fun v M' => ∃ (x : Int32) (I' : rI) (R' : rR), v = some (.int x) ∧ RS g m0 q z I' R' M' ∧ eqI [3, 8, 20, 25, 26, 47, 48, 50, 51, 52, 53, 54, 55, 56, 57, 58, 59, 60, 61, 65, 66, 67, 68, 69, 70, 71, 72] I I' ∧ eqR [1, 2, 4, 5, 6, 7, 21, 22, 27, 28, 29, 30, 31, 32, 33, 34, 35, 36, 37, 38, 39, 40, 41, 42, 43, 44, 45, 46] R R' ∧ (x = 0 ∨ x = 1) ∧ (x = 0 ∨ GD n f I' R')) := by
                      intro hj_120
                      have hz17 : tgf f cp pa i94_1 ≠ 0 := (fun e => by rcases hj_120 with h | h <;> rw [h] at e <;> exact absurd e (by decide))
                      have h17 := hP138.tg (rfl : tgf f cp pa i94_1 = _) hz17
                      have q17 : (pa (Int32.toNatClampNeg i94_1)).toInt + 5 ≤ n := by have q := h17.2.2.2.2; rw [show esz _ = 5 from esz_17 hj_120] at q; exact q
                      refine ml_blk 3 (S' := (123, [(0, .ref m0), (1, .int i94_1)], [.int 1, .int i94_1, .ref m0], M125)) rfl ?_
                      refine ml_call (a := [.ref m0, .int i94_1, .int 1]) (rest := []) rfl (hR129.okc rfl rfl rfl) rfl rfl (rm_index hR129 hF137 hP138 (h17.1) (h17.2.1) (h17.2.2.1) (by decide) (by have : (1 : Int32).toInt = 1 := rfl; omega) (by omega)) (fun v142 M143 h144 => ?_)
                      obtain ⟨rfl, h144⟩ := h144
                      rw [h144]
                      show ml _ _ _ (126, [(0, .ref m0), (1, .int i94_1)], [.int (ixf f pa i94_1 1)], M125) _
                      refine ml_st (S' := (127, [(0, .ref m0), (1, .int i94_1)], [.ref m0, .int (ixf f pa i94_1 1)], M125)) rfl rfl rfl ?_
                      refine rg_int (S' := (130, [(0, .ref m0), (1, .int i94_1)], [.int nbn, .int (ixf f pa i94_1 1)], M125)) rfl hR129 rfl (hnbn) rfl ?_
                      refine ml_if2 (S1 := (151, [(0, .ref m0), (1, .int i94_1)], [], M125)) (S2 := (133, [(0, .ref m0), (1, .int i94_1)], [], M125)) rfl rfl rfl (fun c_130 => ?_) (fun c_130 => ?_)
                      · have c_130 : (ixf f pa i94_1 1) < nbn := of_decide_eq_true c_130
                        refine ml_st (S' := (154, [(1, .int (i94_1 + 1)), (0, .ref m0)], [], M125)) rfl rfl rfl ?_
                        refine ml_st (S' := (94, [(0, .ref m0), (1, .int (i94_1 + 1))], [], M125)) rfl rfl rfl ?_
                        exact ih_94 (i94_1 + 1) (loop_inc (Int32.not_le.mp c_99) hn_94) (by rw [inc_lt (Int32.not_le.mp c_99)]; omega)
                      · have c_130 : ¬ ((ixf f pa i94_1 1) < nbn) := of_decide_eq_false c_130
                        refine ml_blk 3 (S' := (137, [(0, .ref m0), (1, .int i94_1)], [.ref m0, .int 40, .ref m0], M125)) rfl ?_
                        refine rg_ref (S' := (140, [(0, .ref m0), (1, .int i94_1)], [.ref (q 21), .int 40, .ref m0], M125)) rfl hR129 rfl rfl ?_
                        refine ml_st (S' := (141, [(0, .ref m0), (1, .int i94_1)], [.ref m0, .ref (q 21), .int 40, .ref m0], M125)) rfl rfl rfl ?_
                        refine rg_int (S' := (144, [(0, .ref m0), (1, .int i94_1)], [.int 0, .ref (q 21), .int 40, .ref m0], M125)) rfl hR129 rfl ((hI130 51 (by decide)).trans ((hI115 51 (by decide)).trans ((hI100 51 (by decide)).trans ((hI85 51 (by decide)).trans ((hI71 51 (by decide)).trans (h51)))))) rfl ?_
                        refine ml_blk 2 (S' := (146, [(0, .ref m0), (1, .int i94_1)], [.int (0 + i94_1), .ref (q 21), .int 40, .ref m0], M125)) rfl ?_
                        refine ra_ld (k := 21) (S' := (147, [(0, .ref m0), (1, .int i94_1)], [.int (pa (Int32.toNatClampNeg i94_1)), .int 40, .ref m0], M125)) rfl hR129 rfl ((hP138.e h17.1 h17.2.1).2.1) ((hP138.e h17.1 h17.2.1).1) rfl ?_
                        refine ml_call (a := [.ref m0, .int 40, .int (pa (Int32.toNatClampNeg i94_1))]) (rest := []) rfl (hR129.okc rfl rfl rfl) rfl rfl (rm_wrong hR129 (by omega)) (fun v145 M146 h147 => ?_)
                        obtain ⟨u153, I148, R149, rfl, hR150, hI151, hV152, z154, w155⟩ := h147
                        show ml _ _ _ (150, [(0, .ref m0), (1, .int i94_1)], [.int u153], M146) _
                        exact ml_ret rfl (r_z (z154)) (⟨_, _, _, rfl, hR150, (((((((((((((((eqI.rf.put f15 (by decide)).put f20 (by decide)).put f25 (by decide)).put f30 (by decide)).put f35 (by decide)).put f40 (by decide)).put f45 (by decide)).put f50 (by decide)).tr hI59 (by decide)).tr hI71 (by decide)).tr hI85 (by decide)).tr hI100 (by decide)).tr hI115 (by decide)).tr hI130 (by decide)).tr hI151 (by decide)), (((((((eqR.rf.tr hV60 (by decide)).tr hV72 (by decide)).tr hV86 (by decide)).tr hV101 (by decide)).tr hV116 (by decide)).tr hV131 (by decide)).tr hV152 (by decide)), z154, Or.inl w155⟩)
                    refine ml_if2 (S1 := (120, [(0, .ref m0), (1, .int i94_1)], [], M125)) (S2 := (114, [(2, .int (tgf f cp pa i94_1)), (0, .ref m0), (1, .int i94_1)], [], M125)) rfl rfl rfl (fun c_111 => ?_) (fun c_111 => ?_)
                    · have c_111 : (tgf f cp pa i94_1) = 17 := of_decide_eq_true c_111
                      exact J_120  (Or.inl c_111)
                    · have c_111 : ¬ ((tgf f cp pa i94_1) = 17) := of_decide_eq_false c_111
                      refine ml_blk 2 (S' := (117, [(2, .int (tgf f cp pa i94_1)), (0, .ref m0), (1, .int i94_1)], [.int 18, .int (tgf f cp pa i94_1)], M125)) rfl ?_
                      refine ml_if2 (S1 := (151, [(0, .ref m0), (1, .int i94_1)], [], M125)) (S2 := (120, [(0, .ref m0), (1, .int i94_1)], [], M125)) rfl rfl rfl (fun c_117 => ?_) (fun c_117 => ?_)
                      · have c_117 : ¬ (tgf f cp pa i94_1) = 18 := of_decide_eq_true c_117
                        refine ml_st (S' := (154, [(1, .int (i94_1 + 1)), (0, .ref m0)], [], M125)) rfl rfl rfl ?_
                        refine ml_st (S' := (94, [(0, .ref m0), (1, .int (i94_1 + 1))], [], M125)) rfl rfl rfl ?_
                        exact ih_94 (i94_1 + 1) (loop_inc (Int32.not_le.mp c_99) hn_94) (by rw [inc_lt (Int32.not_le.mp c_99)]; omega)
                      · have c_117 : ¬ (¬ (tgf f cp pa i94_1) = 18) := of_decide_eq_false c_117
                        exact J_120  (Or.inr (Decidable.not_not.mp c_117))
              exact L_94 _ 1 (Nat.le_refl _) (by decide)
            · have c_87 : ¬ (0 ≤ u132) := of_decide_eq_false c_87
              refine ml_st (S' := (91, [(0, .ref m0)], [.int 0], M125)) rfl rfl rfl ?_
              exact ml_ret rfl (r_z (Or.inl rfl)) (⟨_, _, _, rfl, hR129, ((((((((((((((eqI.rf.put f15 (by decide)).put f20 (by decide)).put f25 (by decide)).put f30 (by decide)).put f35 (by decide)).put f40 (by decide)).put f45 (by decide)).put f50 (by decide)).tr hI59 (by decide)).tr hI71 (by decide)).tr hI85 (by decide)).tr hI100 (by decide)).tr hI115 (by decide)).tr hI130 (by decide)), ((((((eqR.rf.tr hV60 (by decide)).tr hV72 (by decide)).tr hV86 (by decide)).tr hV101 (by decide)).tr hV116 (by decide)).tr hV131 (by decide)), Or.inl rfl, Or.inl rfl⟩)
          · have c_72 : ¬ (¬ u117 = 0) := of_decide_eq_false c_72
            refine ml_st (S' := (76, [], [.int 0], M110)) rfl rfl rfl ?_
            exact ml_ret rfl (r_z (Or.inl rfl)) (⟨_, _, _, rfl, hR114, (((((((((((((eqI.rf.put f15 (by decide)).put f20 (by decide)).put f25 (by decide)).put f30 (by decide)).put f35 (by decide)).put f40 (by decide)).put f45 (by decide)).put f50 (by decide)).tr hI59 (by decide)).tr hI71 (by decide)).tr hI85 (by decide)).tr hI100 (by decide)).tr hI115 (by decide)), (((((eqR.rf.tr hV60 (by decide)).tr hV72 (by decide)).tr hV86 (by decide)).tr hV101 (by decide)).tr hV116 (by decide)), Or.inl rfl, Or.inl rfl⟩)
end
section
/-! a run from less knowledge is a run from more (my own text) -/
section MIZ
def cle (c c' : mi_C) : Prop := match c, c' with
  | .inl a, .inl b => a.1 = b.1 ∧ a.2.1 = b.2.1 ∧ ∀ i v, a.2.2 i = some v → b.2.2 i = some v
  | .inr a, .inr b => a.1 = b.1 ∧ ∀ k v, a.2 k = some v → b.2 k = some v
  | _, _ => False
def hle (M M' : mi_H) : Prop := ∀ a c, M.1 a = some c → ∃ c', M'.1 a = some c' ∧ cle c c'
/-- what was known of an object's fields stays known -/
def hkp (M M' : mi_H) : Prop := ∀ (a ci : Nat) (f : Nat → Option Value) (k : Nat) (v : Value), M.1 a = some (.inr (ci, f)) → f k = some v → ∃ (f' : Nat → Option Value) (v' : Value), M'.1 a = some (.inr (ci, f')) ∧ f' k = some v'
theorem hkp.rf {M : mi_H} : hkp M M := fun _ _ f _ v h1 h2 => ⟨f, v, h1, h2⟩
theorem hkp.tr {M M1 M2 : mi_H} (h : hkp M M1) (h' : hkp M1 M2) : hkp M M2 := fun a ci f k v h1 h2 => by
  obtain ⟨f', v', h3, h4⟩ := h a ci f k v h1 h2
  exact h' a ci f' k v' h3 h4
def mnk (o : mi_O) : Prop := (∀ pc lv st M S' M2, o (pc, lv, st, M) = some S' → hle M M2 → ∃ M2', o (pc, lv, st, M2) = some (S'.1, S'.2.1, S'.2.2.1, M2') ∧ hle S'.2.2.2 M2' ∧ M2'.2 = M2.2) ∧ ∀ pc lv st M S', o (pc, lv, st, M) = some S' → hkp M S'.2.2.2 ∧ S'.2.2.2.2 = M.2

theorem mn_push {v : Value} {n : Nat} : mnk (o_push v n) := by
  refine ⟨fun pc lv st M S' M2 h hl => ?_, fun pc lv st M S' h => ?_⟩
  · unfold o_push at h ⊢
    dsimp only at h ⊢
    repeat' split at h
    all_goals first | (cases h; done) | (cases h; exact ⟨M2, rfl, hl, rfl⟩) | (cases h; refine ⟨M2, ?_, hl, rfl⟩; first | (rw [if_pos (by assumption)]; done) | (rw [if_neg (by assumption)]; done) | (simp only [*]; done))
  · unfold o_push at h
    dsimp only at h
    repeat' split at h
    all_goals first | (cases h; done) | (cases h; exact ⟨hkp.rf, rfl⟩)
theorem mn_iload {i n : Nat} : mnk (o_iload i n) := by
  refine ⟨fun pc lv st M S' M2 h hl => ?_, fun pc lv st M S' h => ?_⟩
  · unfold o_iload at h ⊢
    dsimp only at h ⊢
    repeat' split at h
    all_goals first | (cases h; done) | (cases h; exact ⟨M2, rfl, hl, rfl⟩) | (cases h; refine ⟨M2, ?_, hl, rfl⟩; first | (rw [if_pos (by assumption)]; done) | (rw [if_neg (by assumption)]; done) | (simp only [*]; done))
  · unfold o_iload at h
    dsimp only at h
    repeat' split at h
    all_goals first | (cases h; done) | (cases h; exact ⟨hkp.rf, rfl⟩)
theorem mn_lload {i n : Nat} : mnk (o_lload i n) := by
  refine ⟨fun pc lv st M S' M2 h hl => ?_, fun pc lv st M S' h => ?_⟩
  · unfold o_lload at h ⊢
    dsimp only at h ⊢
    repeat' split at h
    all_goals first | (cases h; done) | (cases h; exact ⟨M2, rfl, hl, rfl⟩) | (cases h; refine ⟨M2, ?_, hl, rfl⟩; first | (rw [if_pos (by assumption)]; done) | (rw [if_neg (by assumption)]; done) | (simp only [*]; done))
  · unfold o_lload at h
    dsimp only at h
    repeat' split at h
    all_goals first | (cases h; done) | (cases h; exact ⟨hkp.rf, rfl⟩)
theorem mn_aload {i n : Nat} : mnk (o_aload i n) := by
  refine ⟨fun pc lv st M S' M2 h hl => ?_, fun pc lv st M S' h => ?_⟩
  · unfold o_aload at h ⊢
    dsimp only at h ⊢
    repeat' split at h
    all_goals first | (cases h; done) | (cases h; exact ⟨M2, rfl, hl, rfl⟩) | (cases h; refine ⟨M2, ?_, hl, rfl⟩; first | (rw [if_pos (by assumption)]; done) | (rw [if_neg (by assumption)]; done) | (simp only [*]; done))
  · unfold o_aload at h
    dsimp only at h
    repeat' split at h
    all_goals first | (cases h; done) | (cases h; exact ⟨hkp.rf, rfl⟩)
theorem mn_bin {f : Int32 → Int32 → Int32} {n : Nat} : mnk (o_bin f n) := by
  refine ⟨fun pc lv st M S' M2 h hl => ?_, fun pc lv st M S' h => ?_⟩
  · unfold o_bin at h ⊢
    dsimp only at h ⊢
    repeat' split at h
    all_goals first | (cases h; done) | (cases h; exact ⟨M2, rfl, hl, rfl⟩) | (cases h; refine ⟨M2, ?_, hl, rfl⟩; first | (rw [if_pos (by assumption)]; done) | (rw [if_neg (by assumption)]; done) | (simp only [*]; done))
  · unfold o_bin at h
    dsimp only at h
    repeat' split at h
    all_goals first | (cases h; done) | (cases h; exact ⟨hkp.rf, rfl⟩)
theorem mn_binL {f : Int64 → Int64 → Int64} : mnk (o_binL f) := by
  refine ⟨fun pc lv st M S' M2 h hl => ?_, fun pc lv st M S' h => ?_⟩
  · unfold o_binL at h ⊢
    dsimp only at h ⊢
    repeat' split at h
    all_goals first | (cases h; done) | (cases h; exact ⟨M2, rfl, hl, rfl⟩) | (cases h; refine ⟨M2, ?_, hl, rfl⟩; first | (rw [if_pos (by assumption)]; done) | (rw [if_neg (by assumption)]; done) | (simp only [*]; done))
  · unfold o_binL at h
    dsimp only at h
    repeat' split at h
    all_goals first | (cases h; done) | (cases h; exact ⟨hkp.rf, rfl⟩)
theorem mn_un {f : Int32 → Int32} : mnk (o_un f) := by
  refine ⟨fun pc lv st M S' M2 h hl => ?_, fun pc lv st M S' h => ?_⟩
  · unfold o_un at h ⊢
    dsimp only at h ⊢
    repeat' split at h
    all_goals first | (cases h; done) | (cases h; exact ⟨M2, rfl, hl, rfl⟩) | (cases h; refine ⟨M2, ?_, hl, rfl⟩; first | (rw [if_pos (by assumption)]; done) | (rw [if_neg (by assumption)]; done) | (simp only [*]; done))
  · unfold o_un at h
    dsimp only at h
    repeat' split at h
    all_goals first | (cases h; done) | (cases h; exact ⟨hkp.rf, rfl⟩)
theorem mn_lshl  : mnk (o_lshl ) := by
  refine ⟨fun pc lv st M S' M2 h hl => ?_, fun pc lv st M S' h => ?_⟩
  · unfold o_lshl at h ⊢
    dsimp only at h ⊢
    repeat' split at h
    all_goals first | (cases h; done) | (cases h; exact ⟨M2, rfl, hl, rfl⟩) | (cases h; refine ⟨M2, ?_, hl, rfl⟩; first | (rw [if_pos (by assumption)]; done) | (rw [if_neg (by assumption)]; done) | (simp only [*]; done))
  · unfold o_lshl at h
    dsimp only at h
    repeat' split at h
    all_goals first | (cases h; done) | (cases h; exact ⟨hkp.rf, rfl⟩)
theorem mn_lcmp  : mnk (o_lcmp ) := by
  refine ⟨fun pc lv st M S' M2 h hl => ?_, fun pc lv st M S' h => ?_⟩
  · unfold o_lcmp at h ⊢
    dsimp only at h ⊢
    repeat' split at h
    all_goals first | (cases h; done) | (cases h; exact ⟨M2, rfl, hl, rfl⟩) | (cases h; refine ⟨M2, ?_, hl, rfl⟩; first | (rw [if_pos (by assumption)]; done) | (rw [if_neg (by assumption)]; done) | (simp only [*]; done))
  · unfold o_lcmp at h
    dsimp only at h
    repeat' split at h
    all_goals first | (cases h; done) | (cases h; exact ⟨hkp.rf, rfl⟩)
theorem mn_i2l  : mnk (o_i2l ) := by
  refine ⟨fun pc lv st M S' M2 h hl => ?_, fun pc lv st M S' h => ?_⟩
  · unfold o_i2l at h ⊢
    dsimp only at h ⊢
    repeat' split at h
    all_goals first | (cases h; done) | (cases h; exact ⟨M2, rfl, hl, rfl⟩) | (cases h; refine ⟨M2, ?_, hl, rfl⟩; first | (rw [if_pos (by assumption)]; done) | (rw [if_neg (by assumption)]; done) | (simp only [*]; done))
  · unfold o_i2l at h
    dsimp only at h
    repeat' split at h
    all_goals first | (cases h; done) | (cases h; exact ⟨hkp.rf, rfl⟩)
theorem mn_l2i  : mnk (o_l2i ) := by
  refine ⟨fun pc lv st M S' M2 h hl => ?_, fun pc lv st M S' h => ?_⟩
  · unfold o_l2i at h ⊢
    dsimp only at h ⊢
    repeat' split at h
    all_goals first | (cases h; done) | (cases h; exact ⟨M2, rfl, hl, rfl⟩) | (cases h; refine ⟨M2, ?_, hl, rfl⟩; first | (rw [if_pos (by assumption)]; done) | (rw [if_neg (by assumption)]; done) | (simp only [*]; done))
  · unfold o_l2i at h
    dsimp only at h
    repeat' split at h
    all_goals first | (cases h; done) | (cases h; exact ⟨hkp.rf, rfl⟩)
theorem mn_dup  : mnk (o_dup ) := by
  refine ⟨fun pc lv st M S' M2 h hl => ?_, fun pc lv st M S' h => ?_⟩
  · unfold o_dup at h ⊢
    dsimp only at h ⊢
    repeat' split at h
    all_goals first | (cases h; done) | (cases h; exact ⟨M2, rfl, hl, rfl⟩) | (cases h; refine ⟨M2, ?_, hl, rfl⟩; first | (rw [if_pos (by assumption)]; done) | (rw [if_neg (by assumption)]; done) | (simp only [*]; done))
  · unfold o_dup at h
    dsimp only at h
    repeat' split at h
    all_goals first | (cases h; done) | (cases h; exact ⟨hkp.rf, rfl⟩)
theorem mn_pop  : mnk (o_pop ) := by
  refine ⟨fun pc lv st M S' M2 h hl => ?_, fun pc lv st M S' h => ?_⟩
  · unfold o_pop at h ⊢
    dsimp only at h ⊢
    repeat' split at h
    all_goals first | (cases h; done) | (cases h; exact ⟨M2, rfl, hl, rfl⟩) | (cases h; refine ⟨M2, ?_, hl, rfl⟩; first | (rw [if_pos (by assumption)]; done) | (rw [if_neg (by assumption)]; done) | (simp only [*]; done))
  · unfold o_pop at h
    dsimp only at h
    repeat' split at h
    all_goals first | (cases h; done) | (cases h; exact ⟨hkp.rf, rfl⟩)
theorem mn_dup_x1  : mnk (o_dup_x1 ) := by
  refine ⟨fun pc lv st M S' M2 h hl => ?_, fun pc lv st M S' h => ?_⟩
  · unfold o_dup_x1 at h ⊢
    dsimp only at h ⊢
    repeat' split at h
    all_goals first | (cases h; done) | (cases h; exact ⟨M2, rfl, hl, rfl⟩) | (cases h; refine ⟨M2, ?_, hl, rfl⟩; first | (rw [if_pos (by assumption)]; done) | (rw [if_neg (by assumption)]; done) | (simp only [*]; done))
  · unfold o_dup_x1 at h
    dsimp only at h
    repeat' split at h
    all_goals first | (cases h; done) | (cases h; exact ⟨hkp.rf, rfl⟩)
theorem mn_dup2  : mnk (o_dup2 ) := by
  refine ⟨fun pc lv st M S' M2 h hl => ?_, fun pc lv st M S' h => ?_⟩
  · unfold o_dup2 at h ⊢
    dsimp only at h ⊢
    repeat' split at h
    all_goals first | (cases h; done) | (cases h; exact ⟨M2, rfl, hl, rfl⟩) | (cases h; refine ⟨M2, ?_, hl, rfl⟩; first | (rw [if_pos (by assumption)]; done) | (rw [if_neg (by assumption)]; done) | (simp only [*]; done))
  · unfold o_dup2 at h
    dsimp only at h
    repeat' split at h
    all_goals first | (cases h; done) | (cases h; exact ⟨hkp.rf, rfl⟩)
theorem mn_if {f : Int32 → Bool} {t : Nat} : mnk (o_if f t) := by
  refine ⟨fun pc lv st M S' M2 h hl => ?_, fun pc lv st M S' h => ?_⟩
  · unfold o_if at h ⊢
    dsimp only at h ⊢
    repeat' split at h
    all_goals first | (cases h; done) | (cases h; exact ⟨M2, rfl, hl, rfl⟩) | (cases h; refine ⟨M2, ?_, hl, rfl⟩; first | (rw [if_pos (by assumption)]; done) | (rw [if_neg (by assumption)]; done) | (simp only [*]; done))
  · unfold o_if at h
    dsimp only at h
    repeat' split at h
    all_goals first | (cases h; done) | (cases h; exact ⟨hkp.rf, rfl⟩)
theorem mn_if2 {f : Int32 → Int32 → Bool} {t : Nat} : mnk (o_if2 f t) := by
  refine ⟨fun pc lv st M S' M2 h hl => ?_, fun pc lv st M S' h => ?_⟩
  · unfold o_if2 at h ⊢
    dsimp only at h ⊢
    repeat' split at h
    all_goals first | (cases h; done) | (cases h; exact ⟨M2, rfl, hl, rfl⟩) | (cases h; refine ⟨M2, ?_, hl, rfl⟩; first | (rw [if_pos (by assumption)]; done) | (rw [if_neg (by assumption)]; done) | (simp only [*]; done))
  · unfold o_if2 at h
    dsimp only at h
    repeat' split at h
    all_goals first | (cases h; done) | (cases h; exact ⟨hkp.rf, rfl⟩)
theorem mn_goto {t : Nat} : mnk (o_goto t) := by
  refine ⟨fun pc lv st M S' M2 h hl => ?_, fun pc lv st M S' h => ?_⟩
  · unfold o_goto at h ⊢
    dsimp only at h ⊢
    repeat' split at h
    all_goals first | (cases h; done) | (cases h; exact ⟨M2, rfl, hl, rfl⟩) | (cases h; refine ⟨M2, ?_, hl, rfl⟩; first | (rw [if_pos (by assumption)]; done) | (rw [if_neg (by assumption)]; done) | (simp only [*]; done))
  · unfold o_goto at h
    dsimp only at h
    repeat' split at h
    all_goals first | (cases h; done) | (cases h; exact ⟨hkp.rf, rfl⟩)
theorem mn_sw {ps : List (Int × Nat)} {dt : Nat} : mnk (o_sw ps dt) := by
  refine ⟨fun pc lv st M S' M2 h hl => ?_, fun pc lv st M S' h => ?_⟩
  · unfold o_sw at h ⊢
    dsimp only at h ⊢
    repeat' split at h
    all_goals first | (cases h; done) | (cases h; exact ⟨M2, rfl, hl, rfl⟩) | (cases h; refine ⟨M2, ?_, hl, rfl⟩; first | (rw [if_pos (by assumption)]; done) | (rw [if_neg (by assumption)]; done) | (simp only [*]; done))
  · unfold o_sw at h
    dsimp only at h
    repeat' split at h
    all_goals first | (cases h; done) | (cases h; exact ⟨hkp.rf, rfl⟩)
theorem mn_isto {i n : Nat} : mnk (o_isto i n) := by
  refine ⟨fun pc lv st M S' M2 h hl => ?_, fun pc lv st M S' h => ?_⟩
  · unfold o_isto at h ⊢
    dsimp only at h ⊢
    repeat' split at h
    all_goals first | (cases h; done) | (cases h; exact ⟨M2, rfl, hl, rfl⟩) | (cases h; refine ⟨M2, ?_, hl, rfl⟩; first | (rw [if_pos (by assumption)]; done) | (rw [if_neg (by assumption)]; done) | (simp only [*]; done))
  · unfold o_isto at h
    dsimp only at h
    repeat' split at h
    all_goals first | (cases h; done) | (cases h; exact ⟨hkp.rf, rfl⟩)
theorem mn_lsto {i n : Nat} : mnk (o_lsto i n) := by
  refine ⟨fun pc lv st M S' M2 h hl => ?_, fun pc lv st M S' h => ?_⟩
  · unfold o_lsto at h ⊢
    dsimp only at h ⊢
    repeat' split at h
    all_goals first | (cases h; done) | (cases h; exact ⟨M2, rfl, hl, rfl⟩) | (cases h; refine ⟨M2, ?_, hl, rfl⟩; first | (rw [if_pos (by assumption)]; done) | (rw [if_neg (by assumption)]; done) | (simp only [*]; done))
  · unfold o_lsto at h
    dsimp only at h
    repeat' split at h
    all_goals first | (cases h; done) | (cases h; exact ⟨hkp.rf, rfl⟩)
theorem mn_iinc {i : Nat} {n : Int32} : mnk (o_iinc i n) := by
  refine ⟨fun pc lv st M S' M2 h hl => ?_, fun pc lv st M S' h => ?_⟩
  · unfold o_iinc at h ⊢
    dsimp only at h ⊢
    repeat' split at h
    all_goals first | (cases h; done) | (cases h; exact ⟨M2, rfl, hl, rfl⟩) | (cases h; refine ⟨M2, ?_, hl, rfl⟩; first | (rw [if_pos (by assumption)]; done) | (rw [if_neg (by assumption)]; done) | (simp only [*]; done))
  · unfold o_iinc at h
    dsimp only at h
    repeat' split at h
    all_goals first | (cases h; done) | (cases h; exact ⟨hkp.rf, rfl⟩)
variable {M M2 : mi_H}
theorem gf_le {a ci k : Nat} {v : Value} (h : mi_gf M a ci k = some v) (hl : hle M M2) : mi_gf M2 a ci k = some v := by
  unfold mi_gf at h ⊢
  split at h
  · rename_i o hM
    obtain ⟨c', h1, h2⟩ := hl a _ hM
    rw [h1]
    cases c' with
    | inl b => exact h2.elim
    | inr b =>
      obtain ⟨e, h3⟩ := h2
      split at h
      · rename_i ho
        show (if b.1 = ci then b.2 k else none) = some v
        rw [if_pos (e.symm.trans ho)]
        exact h3 k v h
      · cases h
  · cases h
theorem ga_le {a : Nat} {ty : FieldType} {r : Nat × (Nat → Option Value)} (h : mi_ga M a ty = some r) (hl : hle M M2) : ∃ f', mi_ga M2 a ty = some (r.1, f') ∧ ∀ i v, r.2 i = some v → f' i = some v := by
  unfold mi_ga at h ⊢
  split at h
  · rename_i o hM
    obtain ⟨c', h1, h2⟩ := hl a _ hM
    rw [h1]
    cases c' with
    | inr b => exact h2.elim
    | inl b =>
      obtain ⟨e1, e2, h3⟩ := h2
      split at h
      · rename_i ho
        cases h
        refine ⟨b.2.2, ?_, h3⟩
        show (if b.1 = ty then some b.2 else none) = _
        rw [if_pos (e1.symm.trans ho), e2]
      · cases h
  · cases h
theorem ga_cell {a : Nat} {ty : FieldType} {r : Nat × (Nat → Option Value)} (h : mi_ga M a ty = some r) : M.1 a = some (.inl (ty, r)) := by
  unfold mi_ga at h
  split at h
  · rename_i o hM
    split at h
    · rename_i ho
      cases h
      rw [hM, ← ho]
    · cases h
  · cases h
theorem hle.up {a : Nat} {c c' : mi_C} (hl : hle M M2) (hc : cle c c') : hle (va_up M.1 a (some c), M.2) (va_up M2.1 a (some c'), M2.2) := by
  intro b d hd
  by_cases e : b = a
  · subst e
    have : some c = some d := by simpa [va_up] using hd
    cases this
    exact ⟨c', by simp [va_up], hc⟩
  · have : M.1 b = some d := by simpa [va_up, e] using hd
    obtain ⟨d', h1, h2⟩ := hl b d this
    exact ⟨d', by simpa [va_up, e] using h1, h2⟩
theorem va_le {f f' : Nat → Option Value} {k : Nat} {v : Value} (h : ∀ i w, f i = some w → f' i = some w) : ∀ i w, va_up f k (some v) i = some w → va_up f' k (some v) i = some w := by
  intro i w hw
  by_cases e : i = k
  · subst e
    simpa [va_up] using hw
  · simp only [va_up, if_neg e] at hw ⊢
    exact h i w hw
theorem mn_get {ci k : Nat} : mnk (o_get ci k) := by
  refine ⟨fun pc lv st M S' M2 h hl => ?_, fun pc lv st M S' h => ?_⟩
  · unfold o_get at h ⊢
    dsimp only at h ⊢
    split at h
    · split at h
      · rename_i v hv
        cases h
        refine ⟨M2, ?_, hl, rfl⟩
        simp only [gf_le hv hl]
      · cases h
    · cases h
  · unfold o_get at h
    dsimp only at h
    split at h
    · split at h
      · cases h
        exact ⟨hkp.rf, rfl⟩
      · cases h
    · cases h
theorem mn_ald {ty : FieldType} : mnk (o_ald ty) := by
  refine ⟨fun pc lv st M S' M2 h hl => ?_, fun pc lv st M S' h => ?_⟩
  · unfold o_ald at h ⊢
    dsimp only at h ⊢
    split at h
    · split at h
      · rename_i r hr
        obtain ⟨f', h1, h2⟩ := ga_le hr hl
        split at h
        · cases h
        · rename_i hin
          split at h
          · rename_i v hv
            cases h
            refine ⟨M2, ?_, hl, rfl⟩
            simp only [h1]
            rw [if_neg hin]
            simp only [h2 _ _ hv]
          · cases h
      · cases h
    · cases h
  · unfold o_ald at h
    dsimp only at h
    repeat' split at h
    all_goals first | (cases h; done) | (cases h; exact ⟨hkp.rf, rfl⟩)
theorem mn_alen {ty : FieldType} : mnk (o_alen ty) := by
  refine ⟨fun pc lv st M S' M2 h hl => ?_, fun pc lv st M S' h => ?_⟩
  · unfold o_alen at h ⊢
    dsimp only at h ⊢
    split at h
    · split at h
      · rename_i r hr
        obtain ⟨f', h1, h2⟩ := ga_le hr hl
        cases h
        refine ⟨M2, ?_, hl, rfl⟩
        simp only [h1]
      · cases h
    · cases h
  · unfold o_alen at h
    dsimp only at h
    repeat' split at h
    all_goals first | (cases h; done) | (cases h; exact ⟨hkp.rf, rfl⟩)
theorem mn_ast {ty : FieldType} {nar : Int32 → Int32} : mnk (o_ast ty nar) := by
  refine ⟨fun pc lv st M S' M2 h hl => ?_, fun pc lv st M S' h => ?_⟩
  · unfold o_ast at h ⊢
    dsimp only at h ⊢
    split at h
    · rename_i x i a st
      split at h
      · rename_i r hr
        obtain ⟨f', h1, h2⟩ := ga_le hr hl
        split at h
        · cases h
        · rename_i hin
          cases h
          refine ⟨(va_up M2.1 a (some (.inl (ty, r.1, va_up f' i.toNatClampNeg (some (.int (nar x)))))), M2.2), ?_, hl.up ⟨rfl, rfl, va_le h2⟩, rfl⟩
          simp only [h1]
          rw [if_neg hin]
      · cases h
    · cases h
  · unfold o_ast at h
    dsimp only at h
    split at h
    · rename_i x i a st
      split at h
      · rename_i r hr
        split at h
        · cases h
        · cases h
          refine ⟨fun b ci f k v h1 h2 => ⟨f, v, ?_, h2⟩, rfl⟩
          have hne : b ≠ a := by
            intro e
            rw [e, ga_cell hr] at h1
            cases h1
          simpa [va_up, hne] using h1
      · cases h
    · cases h
theorem mn_put {ci k : Nat} {ty : FieldType} : mnk (o_put ci k ty) := by
  refine ⟨fun pc lv st M S' M2 h hl => ?_, fun pc lv st M S' h => ?_⟩
  · unfold o_put at h ⊢
    dsimp only at h ⊢
    split at h
    · rename_i v a st
      split at h
      · rename_i o hM
        obtain ⟨c', h1, h2⟩ := hl a _ hM
        cases c' with
        | inl b => exact h2.elim
        | inr b =>
          obtain ⟨e, h3⟩ := h2
          split at h
          · rename_i hc
            cases h
            refine ⟨(va_up M2.1 a (some (.inr (ci, va_up b.2 k (some v)))), M2.2), ?_, hl.up ⟨rfl, va_le h3⟩, rfl⟩
            simp only [h1]
            rw [if_pos ⟨e.symm.trans hc.1, hc.2⟩]
          · cases h
      · cases h
    · cases h
  · unfold o_put at h
    dsimp only at h
    split at h
    · rename_i v a st
      split at h
      · rename_i o hM
        split at h
        · rename_i hc
          cases h
          refine ⟨fun b c1 f j w h1 h2 => ?_, rfl⟩
          by_cases e : b = a
          · subst e
            rw [hM] at h1
            cases h1
            refine ⟨va_up f k (some v), if j = k then v else w, by simp [va_up, ← hc.1], ?_⟩
            by_cases e2 : j = k
            · simp [va_up, e2]
            · simp [va_up, e2, h2]
          · exact ⟨f, w, by simpa [va_up, e] using h1, h2⟩
        · cases h
      · cases h
    · cases h
theorem mn_slength : mnk o_slength := by
  refine ⟨fun pc lv st M S' M2 h hl => ?_, fun pc lv st M S' h => ?_⟩
  · unfold o_slength at h ⊢
    dsimp only at h ⊢
    split at h
    · split at h
      · rename_i o hM
        obtain ⟨c', h1, h2⟩ := hl _ _ hM
        cases c' with
        | inl b => exact h2.elim
        | inr b =>
          obtain ⟨e, h3⟩ := h2
          split at h
          · rename_i hc
            cases h
            refine ⟨M2, ?_, hl, rfl⟩
            simp only [h1, ← e]
            rw [if_pos hc]
          · cases h
      · cases h
    · cases h
  · unfold o_slength at h
    dsimp only at h
    repeat' split at h
    all_goals first | (cases h; done) | (cases h; exact ⟨hkp.rf, rfl⟩)
theorem mn_scharAt : mnk o_scharAt := by
  refine ⟨fun pc lv st M S' M2 h hl => ?_, fun pc lv st M S' h => ?_⟩
  · unfold o_scharAt at h ⊢
    dsimp only at h ⊢
    split at h
    · split at h
      · rename_i o hM
        obtain ⟨c', h1, h2⟩ := hl _ _ hM
        cases c' with
        | inl b => exact h2.elim
        | inr b =>
          obtain ⟨e, h3⟩ := h2
          split at h
          · rename_i hc
            cases h
            refine ⟨M2, ?_, hl, rfl⟩
            simp only [h1, ← e]
            rw [if_pos hc]
          · cases h
      · cases h
    · cases h
  · unfold o_scharAt at h
    dsimp only at h
    repeat' split at h
    all_goals first | (cases h; done) | (cases h; exact ⟨hkp.rf, rfl⟩)
def mnP (L : List Nat) (_ : Nat) (e : mi_N) : Prop := match e with
  | .inl o => mnk o
  | .inr (.inl c) => L.elem c.1 = true
  | .inr (.inr _) => True
def mnT (T : Nat → Option (Nat × mi_B)) (L : List Nat) : Prop := ∀ y b, y ∈ L → T y = some b → mt_all (mnP L) b.2.1
theorem okc_le {k : Option Nat} {na pc : Nat} {lv : List (Nat × Value)} {st : List Value} (h : mi_okc k na (pc, lv, st, M) = true) (hl : hle M M2) : mi_okc k na (pc, lv, st, M2) = true := by
  unfold mi_okc at h ⊢
  simp only [Bool.and_eq_true] at h ⊢
  refine ⟨h.1, ?_⟩
  have h2 := h.2
  cases k with
  | none => rfl
  | some ci =>
    dsimp only at h2 ⊢
    split at h2
    · rename_i b _ hst
      split at h2
      · rename_i c f hM
        obtain ⟨c', h3, h4⟩ := hl b _ hM
        simp only [h3]
        cases c' with
        | inl x => exact h4.elim
        | inr x =>
          obtain ⟨e, -⟩ := h4
          dsimp only at e ⊢
          rw [← e]
          exact h2
      · cases h2
    · cases h2
theorem nk_le {kl : Nat → Option (List Nat)} {S : mi_S} {M2 : mi_H} : mi_nk kl (S.1, S.2.1, S.2.2.1, M2) = ((mi_nk kl S).1, (mi_nk kl S).2.1, (mi_nk kl S).2.2.1, M2) := by
  unfold mi_nk
  dsimp only
  split <;> rfl
theorem nk_h {kl : Nat → Option (List Nat)} {S : mi_S} : (mi_nk kl S).2.2.2 = S.2.2.2 := by
  unfold mi_nk
  split <;> rfl
theorem loop_mn {L : List Nat} {tb : mi_B} {call : Nat → List Value → mi_H → Option mi_R} (ht : mt_all (mnP L) tb.1)
    (hc : ∀ y a M r, y ∈ L → call y a M = some r → (hkp M r.2 ∧ r.2.2 = M.2) ∧ ∀ M2, hle M M2 → ∃ M2', call y a M2 = some (r.1, M2') ∧ hle r.2 M2' ∧ M2'.2 = M2.2) :
    ∀ (n : Nat) (S : mi_S) (r : mi_R), mi_loop tb call n S = some r → (hkp S.2.2.2 r.2 ∧ r.2.2 = S.2.2.2.2) ∧ ∀ M2, hle S.2.2.2 M2 → ∃ M2', mi_loop tb call n (S.1, S.2.1, S.2.2.1, M2) = some (r.1, M2') ∧ hle r.2 M2' ∧ M2'.2 = M2.2 := by
  intro n
  induction n with
  | zero => intro S r h; cases h
  | succ n ih =>
    intro S r h
    rw [mi_loop] at h
    split at h
    · rename_i o ho
      split at h
      · rename_i S1 hS1
        have hm : mnk o := ht S.1 _ ho
        obtain ⟨k1, k2⟩ := ih _ r h
        rw [nk_h] at k1 k2
        obtain ⟨a1, a2⟩ := hm.2 S.1 S.2.1 S.2.2.1 S.2.2.2 S1 hS1
        refine ⟨⟨a1.tr k1.1, k1.2.trans a2⟩, fun M2 hl => ?_⟩
        obtain ⟨M3, b1, b2, b3⟩ := hm.1 S.1 S.2.1 S.2.2.1 S.2.2.2 S1 M2 hS1 hl
        obtain ⟨M4, c1, c2, c3⟩ := k2 M3 b2
        refine ⟨M4, ?_, c2, c3.trans b3⟩
        rw [mi_loop]
        simp only [ho, b1]
        rw [nk_le]
        exact c1
      · cases h
    · rename_i c ho
      split at h
      · rename_i hok
        split at h
        · rename_i r1 hr1
          have hL : L.elem c.1 = true := ht S.1 _ ho
          have hL2 : c.1 ∈ L := List.elem_iff.mp hL
          obtain ⟨d1, d2⟩ := hc _ _ _ _ hL2 hr1
          obtain ⟨k1, k2⟩ := ih _ r h
          rw [nk_h] at k1 k2
          refine ⟨⟨d1.1.tr k1.1, k1.2.trans d1.2⟩, fun M2 hl => ?_⟩
          obtain ⟨M3, b1, b2, b3⟩ := d2 M2 hl
          obtain ⟨M4, c1, c2, c3⟩ := k2 M3 b2
          refine ⟨M4, ?_, c2, c3.trans b3⟩
          rw [mi_loop]
          simp only [ho, okc_le hok hl, b1]
          have e := nk_le (kl := tb.2) (S := (S.1 + 3, S.2.1, r1.1.toList ++ S.2.2.1.drop c.2.1, r1.2)) (M2 := M3)
          dsimp only at e
          rw [e]
          exact c1
        · cases h
      · cases h
    · rename_i f ho
      obtain ⟨v, hv, e⟩ := Option.map_eq_some_iff.mp h
      subst e
      refine ⟨⟨hkp.rf, rfl⟩, fun M2 hl => ⟨M2, ?_, hl, rfl⟩⟩
      rw [mi_loop]
      simp only [ho, hv, Option.map_some]
    · cases h
theorem run_mn {L : List Nat} {T : Nat → Option (Nat × mi_B)} (hT : mnT T L) {n : Nat} : ∀ (d y : Nat) (a : List Value) (M : mi_H) (r : mi_R), y ∈ L → mi_run T n d y a M = some r → (hkp M r.2 ∧ r.2.2 = M.2) ∧ ∀ M2, hle M M2 → ∃ M2', mi_run T n d y a M2 = some (r.1, M2') ∧ hle r.2 M2' ∧ M2'.2 = M2.2 := by
  intro d
  induction d with
  | zero => intro y a M r _ h; cases h
  | succ d ih =>
    intro y a M r hy h
    rw [mi_run] at h
    split at h
    · cases h
    · rename_i b hb
      split at h
      · rename_i hd
        obtain ⟨k1, k2⟩ := loop_mn (hT y b hy hb) (fun y a M r => ih y a M r) n _ r h
        refine ⟨k1, fun M2 hl => ?_⟩
        obtain ⟨M3, c1, c2, c3⟩ := k2 M2 hl
        refine ⟨M3, ?_, c2, c3⟩
        rw [mi_run]
        simp only [hb, hd]
        exact c1
      · cases h
/-- a run that ends from less knowledge and one from more: the answers agree -/
theorem mt.more {L : List Nat} {T : Nat → Option (Nat × mi_B)} (hT : mnT T L) {d d' y : Nat} {a : List Value} {Q Q' : Option Value → mi_H → Prop} (hy : y ∈ L) (h : mt T d y a M Q) (h' : mt T d' y a M2 Q') (hl : hle M M2) : mt T d' y a M2 (fun v M' => Q' v M' ∧ hkp M2 M' ∧ ∃ M0, Q v M0 ∧ hle M0 M') := by
  obtain ⟨r, ⟨n0, h1⟩, h2⟩ := h.deeper d'
  obtain ⟨r', ⟨n1, h3⟩, h4⟩ := h'
  obtain ⟨r9, ⟨n2, h5⟩, h6⟩ := (show mt T d' y a M2 (fun v M' => v = r'.1 ∧ M' = r'.2) from ⟨r', ⟨n1, h3⟩, rfl, rfl⟩).deeper d
  obtain ⟨a1, a2⟩ := run_mn hT (d + d') y a M r hy (h1 (max (max n0 n1) n2) (by omega))
  obtain ⟨M3, b1, b2, b3⟩ := a2 M2 hl
  have e := h5 (max (max n0 n1) n2) (by omega)
  rw [Nat.add_comm d' d] at e
  have e2 : r9 = (r.1, M3) := Option.some.inj (e.symm.trans b1)
  have e3 : r' = (r.1, M3) := by
    obtain ⟨h7, h8⟩ := h6
    rw [e2] at h7 h8
    exact Prod.ext h7.symm h8.symm
  have e4 := h3 (max (max n0 n1) n2) (by omega)
  have k := (run_mn hT d' y a M2 r' hy e4).1.1
  refine ⟨r', ⟨n1, h3⟩, h4, k, r.2, ?_, ?_⟩
  · rw [e3]
    exact h2
  · rw [e3]
    exact b2
end MIZ
end
section
def mS : List Nat := [175, 176, 177, 178, 185, 187, 188, 189, 190, 191, 192, 193, 194, 195, 196, 197, 203, 206, 209, 212, 213, 214, 216, 217, 218, 219, 221, 224, 226, 230, 233, 235, 237, 238, 242, 244, 245, 246, 247, 249, 250, 251, 252, 253, 257]
theorem mz_175_0 {g : xe_G} : mt_all (mnP mS) (mb_175_0 g) := mt_node_ok (mt_node_ok (mt_node_ok (mt_node_ok (mt_leaf_ok (mn_push)) (mt_node_ok (mt_leaf_ok (mn_isto)) (mt_leaf_ok (mn_iload)))) (mt_node_ok (mt_leaf_ok (mn_aload)) (mt_node_ok (mt_leaf_ok (mn_iload)) (mt_leaf_ok (rfl))))) (mt_node_ok (mt_node_ok (mt_leaf_ok (mn_if2)) (mt_node_ok (mt_leaf_ok (mn_aload)) (mt_leaf_ok (mn_iload)))) (mt_node_ok (mt_leaf_ok (mn_iload)) (mt_node_ok (mt_leaf_ok (rfl)) (mt_leaf_ok (mn_push)))))) (mt_node_ok (mt_node_ok (mt_node_ok (mt_leaf_ok (mn_if2)) (mt_node_ok (mt_leaf_ok (mn_aload)) (mt_leaf_ok (mn_iload)))) (mt_node_ok (mt_leaf_ok (mn_iload)) (mt_node_ok (mt_leaf_ok (rfl)) (mt_leaf_ok (mn_push))))) (mt_node_ok (mt_node_ok (mt_leaf_ok (mn_if2)) (mt_node_ok (mt_leaf_ok (mn_push)) (mt_leaf_ok (trivial)))) (mt_node_ok (mt_node_ok (mt_leaf_ok (mn_iinc)) (mt_leaf_ok (mn_goto))) (mt_node_ok (mt_leaf_ok (mn_push)) (mt_leaf_ok (trivial))))))
theorem mz_175 {g : xe_G} : mt_all (mnP mS) (mb_175 g).2.1 := (mz_175_0 (g := g))
theorem mz_176_0 {g : xe_G} : mt_all (mnP mS) (mb_176_0 g) := mt_node_ok (mt_node_ok (mt_node_ok (mt_leaf_ok (mn_aload)) (mt_leaf_ok (mn_get))) (mt_node_ok (mt_leaf_ok (mn_aload)) (mt_node_ok (mt_leaf_ok (mn_get)) (mt_leaf_ok (mn_iload))))) (mt_node_ok (mt_node_ok (mt_leaf_ok (mn_ald)) (mt_leaf_ok (mn_iload))) (mt_node_ok (mt_leaf_ok (mn_bin)) (mt_node_ok (mt_leaf_ok (mn_ald)) (mt_leaf_ok (trivial)))))
theorem mz_176 {g : xe_G} : mt_all (mnP mS) (mb_176 g).2.1 := (mz_176_0 (g := g))
theorem mz_177_0 {g : xe_G} : mt_all (mnP mS) (mb_177_0 g) := mt_node_ok (mt_node_ok (mt_node_ok (mt_node_ok (mt_node_ok (mt_leaf_ok (mn_iload)) (mt_node_ok (mt_leaf_ok (mn_sw)) (mt_leaf_ok (mn_iload)))) (mt_node_ok (mt_leaf_ok (mn_iload)) (mt_node_ok (mt_leaf_ok (mn_bin)) (mt_leaf_ok (mn_push))))) (mt_node_ok (mt_node_ok (mt_leaf_ok (mn_if2)) (mt_node_ok (mt_leaf_ok (mn_push)) (mt_leaf_ok (trivial)))) (mt_node_ok (mt_leaf_ok (mn_aload)) (mt_node_ok (mt_leaf_ok (mn_get)) (mt_leaf_ok (mn_iload)))))) (mt_node_ok (mt_node_ok (mt_node_ok (mt_leaf_ok (mn_ald)) (mt_node_ok (mt_leaf_ok (mn_push)) (mt_leaf_ok (mn_bin)))) (mt_node_ok (mt_leaf_ok (mn_if)) (mt_node_ok (mt_leaf_ok (mn_push)) (mt_leaf_ok (trivial))))) (mt_node_ok (mt_node_ok (mt_leaf_ok (mn_aload)) (mt_node_ok (mt_leaf_ok (mn_aload)) (mt_leaf_ok (mn_get)))) (mt_node_ok (mt_leaf_ok (mn_iload)) (mt_node_ok (mt_leaf_ok (mn_ald)) (mt_leaf_ok (mn_push))))))) (mt_node_ok (mt_node_ok (mt_node_ok (mt_node_ok (mt_leaf_ok (rfl)) (mt_node_ok (mt_leaf_ok (mn_isto)) (mt_leaf_ok (mn_iload)))) (mt_node_ok (mt_leaf_ok (mn_push)) (mt_node_ok (mt_leaf_ok (mn_if2)) (mt_leaf_ok (mn_push))))) (mt_node_ok (mt_node_ok (mt_leaf_ok (mn_goto)) (mt_node_ok (mt_leaf_ok (mn_iload)) (mt_leaf_ok (mn_push)))) (mt_node_ok (mt_leaf_ok (mn_if2)) (mt_node_ok (mt_leaf_ok (mn_push)) (mt_leaf_ok (mn_goto)))))) (mt_node_ok (mt_node_ok (mt_node_ok (mt_leaf_ok (mn_iload)) (mt_node_ok (mt_leaf_ok (mn_push)) (mt_leaf_ok (mn_if2)))) (mt_node_ok (mt_leaf_ok (mn_push)) (mt_node_ok (mt_leaf_ok (mn_goto)) (mt_leaf_ok (mn_iload))))) (mt_node_ok (mt_node_ok (mt_leaf_ok (mn_push)) (mt_node_ok (mt_leaf_ok (mn_if2)) (mt_leaf_ok (mn_aload)))) (mt_node_ok (mt_leaf_ok (mn_aload)) (mt_node_ok (mt_leaf_ok (mn_get)) (mt_leaf_ok (mn_iload)))))))
theorem mz_177_1 {g : xe_G} : mt_all (mnP mS) (mb_177_1 g) := mt_node_ok (mt_node_ok (mt_node_ok (mt_node_ok (mt_node_ok (mt_leaf_ok (mn_ald)) (mt_node_ok (mt_leaf_ok (mn_push)) (mt_leaf_ok (rfl)))) (mt_node_ok (mt_leaf_ok (mn_if)) (mt_node_ok (mt_leaf_ok (mn_push)) (mt_leaf_ok (mn_goto))))) (mt_node_ok (mt_node_ok (mt_leaf_ok (mn_push)) (mt_node_ok (mt_leaf_ok (mn_goto)) (mt_leaf_ok (mn_iload)))) (mt_node_ok (mt_leaf_ok (mn_push)) (mt_node_ok (mt_leaf_ok (mn_if2)) (mt_leaf_ok (mn_push)))))) (mt_node_ok (mt_node_ok (mt_node_ok (mt_leaf_ok (mn_goto)) (mt_node_ok (mt_leaf_ok (mn_push)) (mt_leaf_ok (mn_isto)))) (mt_node_ok (mt_leaf_ok (mn_aload)) (mt_node_ok (mt_leaf_ok (mn_aload)) (mt_leaf_ok (mn_iload))))) (mt_node_ok (mt_node_ok (mt_leaf_ok (rfl)) (mt_node_ok (mt_leaf_ok (rfl)) (mt_leaf_ok (mn_iload)))) (mt_node_ok (mt_leaf_ok (mn_if2)) (mt_node_ok (mt_leaf_ok (mn_push)) (mt_leaf_ok (trivial))))))) (mt_node_ok (mt_node_ok (mt_node_ok (mt_node_ok (mt_leaf_ok (mn_aload)) (mt_node_ok (mt_leaf_ok (mn_get)) (mt_leaf_ok (mn_iload)))) (mt_node_ok (mt_leaf_ok (mn_aload)) (mt_node_ok (mt_leaf_ok (mn_iload)) (mt_leaf_ok (rfl))))) (mt_node_ok (mt_node_ok (mt_leaf_ok (mn_ast)) (mt_node_ok (mt_leaf_ok (mn_push)) (mt_leaf_ok (trivial)))) (mt_node_ok (mt_leaf_ok (mn_aload)) (mt_node_ok (mt_leaf_ok (mn_iload)) (mt_leaf_ok (mn_iload)))))) (mt_node_ok (mt_node_ok (mt_node_ok (mt_leaf_ok (mn_iload)) (mt_node_ok (mt_leaf_ok (mn_iload)) (mt_leaf_ok (rfl)))) (mt_node_ok (mt_leaf_ok (trivial)) (mt_node_ok (mt_leaf_ok (mn_iload)) (mt_leaf_ok (mn_iload))))) (mt_node_ok (mt_node_ok (mt_leaf_ok (mn_bin)) (mt_node_ok (mt_leaf_ok (mn_push)) (mt_leaf_ok (mn_if2)))) (mt_node_ok (mt_leaf_ok (mn_iload)) (mt_node_ok (mt_leaf_ok (mn_iload)) (mt_leaf_ok (mn_bin)))))))
theorem mz_177_2 {g : xe_G} : mt_all (mnP mS) (mb_177_2 g) := mt_node_ok (mt_node_ok (mt_node_ok (mt_node_ok (mt_node_ok (mt_leaf_ok (mn_push)) (mt_node_ok (mt_leaf_ok (mn_push)) (mt_leaf_ok (mn_aload)))) (mt_node_ok (mt_leaf_ok (mn_iload)) (mt_node_ok (mt_leaf_ok (rfl)) (mt_leaf_ok (mn_bin))))) (mt_node_ok (mt_node_ok (mt_leaf_ok (mn_bin)) (mt_node_ok (mt_leaf_ok (mn_if2)) (mt_leaf_ok (mn_push)))) (mt_node_ok (mt_leaf_ok (trivial)) (mt_node_ok (mt_leaf_ok (mn_iload)) (mt_leaf_ok (mn_push)))))) (mt_node_ok (mt_node_ok (mt_node_ok (mt_leaf_ok (mn_if2)) (mt_node_ok (mt_leaf_ok (mn_aload)) (mt_leaf_ok (mn_get)))) (mt_node_ok (mt_leaf_ok (mn_push)) (mt_node_ok (mt_leaf_ok (mn_bin)) (mt_leaf_ok (mn_if))))) (mt_node_ok (mt_node_ok (mt_leaf_ok (mn_push)) (mt_node_ok (mt_leaf_ok (trivial)) (mt_leaf_ok (mn_push)))) (mt_node_ok (mt_leaf_ok (mn_isto)) (mt_node_ok (mt_leaf_ok (mn_iload)) (mt_leaf_ok (mn_aload))))))) (mt_node_ok (mt_node_ok (mt_node_ok (mt_node_ok (mt_leaf_ok (mn_iload)) (mt_node_ok (mt_leaf_ok (rfl)) (mt_leaf_ok (mn_if2)))) (mt_node_ok (mt_leaf_ok (mn_aload)) (mt_node_ok (mt_leaf_ok (mn_aload)) (mt_leaf_ok (mn_iload))))) (mt_node_ok (mt_node_ok (mt_leaf_ok (mn_push)) (mt_node_ok (mt_leaf_ok (mn_bin)) (mt_leaf_ok (mn_push)))) (mt_node_ok (mt_leaf_ok (mn_iload)) (mt_node_ok (mt_leaf_ok (mn_bin)) (mt_leaf_ok (mn_bin)))))) (mt_node_ok (mt_node_ok (mt_node_ok (mt_leaf_ok (rfl)) (mt_node_ok (mt_leaf_ok (rfl)) (mt_leaf_ok (mn_push)))) (mt_node_ok (mt_leaf_ok (mn_if2)) (mt_node_ok (mt_leaf_ok (mn_iload)) (mt_leaf_ok (mn_push))))) (mt_node_ok (mt_node_ok (mt_leaf_ok (mn_if2)) (mt_node_ok (mt_leaf_ok (mn_push)) (mt_leaf_ok (mn_goto)))) (mt_node_ok (mt_leaf_ok (mn_iload)) (mt_node_ok (mt_leaf_ok (mn_push)) (mt_leaf_ok (mn_if2)))))))
theorem mz_177_3 {g : xe_G} : mt_all (mnP mS) (mb_177_3 g) := mt_node_ok (mt_node_ok (mt_node_ok (mt_node_ok (mt_node_ok (mt_leaf_ok (mn_push)) (mt_node_ok (mt_leaf_ok (mn_goto)) (mt_leaf_ok (mn_push)))) (mt_node_ok (mt_leaf_ok (trivial)) (mt_node_ok (mt_leaf_ok (mn_iinc)) (mt_leaf_ok (mn_goto))))) (mt_node_ok (mt_node_ok (mt_leaf_ok (mn_iload)) (mt_node_ok (mt_leaf_ok (mn_push)) (mt_leaf_ok (mn_if2)))) (mt_node_ok (mt_leaf_ok (mn_iload)) (mt_node_ok (mt_leaf_ok (mn_push)) (mt_leaf_ok (mn_bin)))))) (mt_node_ok (mt_node_ok (mt_node_ok (mt_leaf_ok (mn_push)) (mt_node_ok (mt_leaf_ok (mn_bin)) (mt_leaf_ok (mn_push)))) (mt_node_ok (mt_leaf_ok (mn_if2)) (mt_node_ok (mt_leaf_ok (mn_push)) (mt_leaf_ok (trivial))))) (mt_node_ok (mt_node_ok (mt_leaf_ok (mn_iload)) (mt_node_ok (mt_leaf_ok (mn_push)) (mt_leaf_ok (mn_if2)))) (mt_node_ok (mt_leaf_ok (mn_aload)) (mt_node_ok (mt_leaf_ok (mn_get)) (mt_leaf_ok (mn_iload))))))) (mt_node_ok (mt_node_ok (mt_node_ok (mt_node_ok (mt_leaf_ok (mn_aload)) (mt_node_ok (mt_leaf_ok (mn_iload)) (mt_leaf_ok (rfl)))) (mt_node_ok (mt_leaf_ok (mn_ast)) (mt_node_ok (mt_leaf_ok (mn_iload)) (mt_leaf_ok (mn_push))))) (mt_node_ok (mt_node_ok (mt_leaf_ok (mn_if2)) (mt_node_ok (mt_leaf_ok (mn_aload)) (mt_leaf_ok (mn_aload)))) (mt_node_ok (mt_leaf_ok (mn_iload)) (mt_node_ok (mt_leaf_ok (rfl)) (mt_leaf_ok (mn_put)))))) (mt_node_ok (mt_node_ok (mt_node_ok (mt_leaf_ok (mn_iload)) (mt_node_ok (mt_leaf_ok (mn_push)) (mt_leaf_ok (mn_if2)))) (mt_node_ok (mt_leaf_ok (mn_aload)) (mt_node_ok (mt_leaf_ok (mn_aload)) (mt_leaf_ok (mn_iload))))) (mt_node_ok (mt_node_ok (mt_leaf_ok (rfl)) (mt_node_ok (mt_leaf_ok (mn_put)) (mt_leaf_ok (mn_push)))) (mt_node_ok (mt_leaf_ok (trivial)) (mt_node_ok (mt_leaf_ok (mn_push)) (mt_leaf_ok (trivial)))))))
theorem mz_177_4 {g : xe_G} : mt_all (mnP mS) (mb_177_4 g) := mt_node_ok (mt_node_ok (mt_node_ok (mt_node_ok (mt_node_ok (mt_leaf_ok (mn_iload)) (mt_node_ok (mt_leaf_ok (mn_iload)) (mt_leaf_ok (mn_bin)))) (mt_node_ok (mt_leaf_ok (mn_push)) (mt_node_ok (mt_leaf_ok (mn_if2)) (mt_leaf_ok (mn_iload))))) (mt_node_ok (mt_node_ok (mt_leaf_ok (mn_iload)) (mt_node_ok (mt_leaf_ok (mn_bin)) (mt_leaf_ok (mn_push)))) (mt_node_ok (mt_leaf_ok (mn_push)) (mt_node_ok (mt_leaf_ok (mn_aload)) (mt_leaf_ok (mn_iload)))))) (mt_node_ok (mt_node_ok (mt_node_ok (mt_leaf_ok (rfl)) (mt_node_ok (mt_leaf_ok (mn_bin)) (mt_leaf_ok (mn_bin)))) (mt_node_ok (mt_leaf_ok (mn_if2)) (mt_node_ok (mt_leaf_ok (mn_push)) (mt_leaf_ok (trivial))))) (mt_node_ok (mt_node_ok (mt_leaf_ok (mn_push)) (mt_node_ok (mt_leaf_ok (mn_isto)) (mt_leaf_ok (mn_iload)))) (mt_node_ok (mt_leaf_ok (mn_aload)) (mt_node_ok (mt_leaf_ok (mn_iload)) (mt_leaf_ok (rfl))))))) (mt_node_ok (mt_node_ok (mt_node_ok (mt_node_ok (mt_leaf_ok (mn_if2)) (mt_node_ok (mt_leaf_ok (mn_iload)) (mt_leaf_ok (mn_push)))) (mt_node_ok (mt_leaf_ok (mn_bin)) (mt_node_ok (mt_leaf_ok (mn_push)) (mt_leaf_ok (mn_iload))))) (mt_node_ok (mt_node_ok (mt_leaf_ok (mn_bin)) (mt_node_ok (mt_leaf_ok (mn_bin)) (mt_leaf_ok (mn_isto)))) (mt_node_ok (mt_leaf_ok (mn_aload)) (mt_node_ok (mt_leaf_ok (mn_aload)) (mt_leaf_ok (mn_iload)))))) (mt_node_ok (mt_node_ok (mt_node_ok (mt_leaf_ok (rfl)) (mt_node_ok (mt_leaf_ok (rfl)) (mt_leaf_ok (mn_push)))) (mt_node_ok (mt_leaf_ok (mn_if2)) (mt_node_ok (mt_leaf_ok (mn_aload)) (mt_leaf_ok (mn_iload))))) (mt_node_ok (mt_node_ok (mt_leaf_ok (mn_push)) (mt_node_ok (mt_leaf_ok (mn_bin)) (mt_leaf_ok (rfl)))) (mt_node_ok (mt_leaf_ok (mn_if)) (mt_node_ok (mt_leaf_ok (mn_aload)) (mt_leaf_ok (mn_aload)))))))
theorem mz_177_5 {g : xe_G} : mt_all (mnP mS) (mb_177_5 g) := mt_node_ok (mt_node_ok (mt_node_ok (mt_node_ok (mt_node_ok (mt_leaf_ok (mn_iload)) (mt_node_ok (mt_leaf_ok (mn_push)) (mt_leaf_ok (mn_bin)))) (mt_node_ok (mt_leaf_ok (rfl)) (mt_node_ok (mt_leaf_ok (rfl)) (mt_leaf_ok (mn_push))))) (mt_node_ok (mt_node_ok (mt_leaf_ok (mn_if2)) (mt_node_ok (mt_leaf_ok (mn_aload)) (mt_leaf_ok (mn_iload)))) (mt_node_ok (mt_leaf_ok (mn_push)) (mt_node_ok (mt_leaf_ok (mn_bin)) (mt_leaf_ok (rfl)))))) (mt_node_ok (mt_node_ok (mt_node_ok (mt_leaf_ok (mn_if)) (mt_node_ok (mt_leaf_ok (mn_aload)) (mt_leaf_ok (mn_aload)))) (mt_node_ok (mt_leaf_ok (mn_iload)) (mt_node_ok (mt_leaf_ok (mn_push)) (mt_leaf_ok (mn_bin))))) (mt_node_ok (mt_node_ok (mt_leaf_ok (rfl)) (mt_node_ok (mt_leaf_ok (rfl)) (mt_leaf_ok (mn_push)))) (mt_node_ok (mt_leaf_ok (mn_if2)) (mt_node_ok (mt_leaf_ok (mn_push)) (mt_leaf_ok (trivial))))))) (mt_node_ok (mt_node_ok (mt_node_ok (mt_node_ok (mt_leaf_ok (mn_iinc)) (mt_node_ok (mt_leaf_ok (mn_goto)) (mt_leaf_ok (mn_aload)))) (mt_node_ok (mt_leaf_ok (mn_aload)) (mt_node_ok (mt_leaf_ok (mn_iload)) (mt_leaf_ok (rfl))))) (mt_node_ok (mt_node_ok (mt_leaf_ok (mn_put)) (mt_node_ok (mt_leaf_ok (mn_push)) (mt_leaf_ok (trivial)))) (mt_node_ok (mt_leaf_ok (mn_aload)) (mt_node_ok (mt_leaf_ok (mn_iload)) (mt_leaf_ok (mn_iload)))))) (mt_node_ok (mt_node_ok (mt_node_ok (mt_leaf_ok (rfl)) (mt_node_ok (mt_leaf_ok (trivial)) (mt_leaf_ok (mn_iload)))) (mt_node_ok (mt_leaf_ok (mn_iload)) (mt_node_ok (mt_leaf_ok (mn_bin)) (mt_leaf_ok (mn_push))))) (mt_node_ok (mt_node_ok (mt_leaf_ok (mn_if2)) (mt_node_ok (mt_leaf_ok (mn_push)) (mt_leaf_ok (trivial)))) (mt_node_ok (mt_leaf_ok (mn_aload)) (mt_node_ok (mt_leaf_ok (mn_aload)) (mt_leaf_ok (mn_iload)))))))
theorem mz_177_6 {g : xe_G} : mt_all (mnP mS) (mb_177_6 g) := mt_node_ok (mt_node_ok (mt_node_ok (mt_node_ok (mt_leaf_ok (rfl)) (mt_node_ok (mt_leaf_ok (rfl)) (mt_leaf_ok (mn_push)))) (mt_node_ok (mt_leaf_ok (mn_if2)) (mt_node_ok (mt_leaf_ok (mn_iload)) (mt_leaf_ok (mn_push))))) (mt_node_ok (mt_node_ok (mt_leaf_ok (mn_bin)) (mt_node_ok (mt_leaf_ok (mn_push)) (mt_leaf_ok (mn_bin)))) (mt_node_ok (mt_leaf_ok (mn_push)) (mt_node_ok (mt_leaf_ok (mn_if2)) (mt_leaf_ok (mn_push)))))) (mt_node_ok (mt_node_ok (mt_node_ok (mt_leaf_ok (trivial)) (mt_node_ok (mt_leaf_ok (mn_aload)) (mt_leaf_ok (mn_aload)))) (mt_node_ok (mt_leaf_ok (mn_iload)) (mt_node_ok (mt_leaf_ok (rfl)) (mt_leaf_ok (mn_put))))) (mt_node_ok (mt_node_ok (mt_leaf_ok (mn_push)) (mt_node_ok (mt_leaf_ok (trivial)) (mt_leaf_ok (mn_aload)))) (mt_node_ok (mt_node_ok (mt_leaf_ok (mn_iload)) (mt_leaf_ok (mn_iload))) (mt_node_ok (mt_leaf_ok (rfl)) (mt_leaf_ok (trivial))))))
theorem mz_177 {g : xe_G} : mt_all (mnP mS) (mb_177 g).2.1 := mt_node_ok (mt_node_ok ((mz_177_0 (g := g))) (mt_node_ok ((mz_177_1 (g := g))) ((mz_177_2 (g := g))))) (mt_node_ok (mt_node_ok ((mz_177_3 (g := g))) ((mz_177_4 (g := g)))) (mt_node_ok ((mz_177_5 (g := g))) ((mz_177_6 (g := g)))))
theorem mz_178_0 {g : xe_G} : mt_all (mnP mS) (mb_178_0 g) := mt_node_ok (mt_node_ok (mt_node_ok (mt_node_ok (mt_node_ok (mt_leaf_ok (mn_aload)) (mt_node_ok (mt_leaf_ok (mn_push)) (mt_leaf_ok (rfl)))) (mt_node_ok (mt_leaf_ok (mn_if)) (mt_node_ok (mt_leaf_ok (mn_push)) (mt_leaf_ok (trivial))))) (mt_node_ok (mt_node_ok (mt_leaf_ok (mn_aload)) (mt_node_ok (mt_leaf_ok (mn_aload)) (mt_leaf_ok (mn_get)))) (mt_node_ok (mt_leaf_ok (rfl)) (mt_node_ok (mt_leaf_ok (mn_isto)) (mt_leaf_ok (mn_aload)))))) (mt_node_ok (mt_node_ok (mt_node_ok (mt_leaf_ok (mn_dup)) (mt_node_ok (mt_leaf_ok (mn_get)) (mt_leaf_ok (mn_push)))) (mt_node_ok (mt_leaf_ok (mn_bin)) (mt_node_ok (mt_leaf_ok (mn_put)) (mt_leaf_ok (mn_push))))) (mt_node_ok (mt_node_ok (mt_leaf_ok (mn_isto)) (mt_node_ok (mt_leaf_ok (mn_iload)) (mt_leaf_ok (mn_iload)))) (mt_node_ok (mt_leaf_ok (mn_if2)) (mt_node_ok (mt_leaf_ok (mn_aload)) (mt_leaf_ok (mn_push))))))) (mt_node_ok (mt_node_ok (mt_node_ok (mt_node_ok (mt_leaf_ok (rfl)) (mt_node_ok (mt_leaf_ok (mn_if)) (mt_leaf_ok (mn_push)))) (mt_node_ok (mt_leaf_ok (trivial)) (mt_node_ok (mt_leaf_ok (mn_aload)) (mt_leaf_ok (mn_dup))))) (mt_node_ok (mt_node_ok (mt_leaf_ok (mn_get)) (mt_node_ok (mt_leaf_ok (mn_push)) (mt_leaf_ok (mn_bin)))) (mt_node_ok (mt_leaf_ok (mn_put)) (mt_node_ok (mt_leaf_ok (mn_aload)) (mt_leaf_ok (mn_push)))))) (mt_node_ok (mt_node_ok (mt_node_ok (mt_leaf_ok (rfl)) (mt_node_ok (mt_leaf_ok (mn_if)) (mt_leaf_ok (mn_push)))) (mt_node_ok (mt_leaf_ok (trivial)) (mt_node_ok (mt_leaf_ok (mn_aload)) (mt_leaf_ok (mn_aload))))) (mt_node_ok (mt_node_ok (mt_leaf_ok (mn_get)) (mt_node_ok (mt_leaf_ok (rfl)) (mt_leaf_ok (mn_lsto)))) (mt_node_ok (mt_leaf_ok (mn_aload)) (mt_node_ok (mt_leaf_ok (mn_dup)) (mt_leaf_ok (mn_get)))))))
theorem mz_178_1 {g : xe_G} : mt_all (mnP mS) (mb_178_1 g) := mt_node_ok (mt_node_ok (mt_node_ok (mt_node_ok (mt_leaf_ok (mn_push)) (mt_leaf_ok (mn_bin))) (mt_node_ok (mt_leaf_ok (mn_put)) (mt_node_ok (mt_leaf_ok (mn_aload)) (mt_leaf_ok (mn_lload))))) (mt_node_ok (mt_node_ok (mt_leaf_ok (rfl)) (mt_leaf_ok (mn_if))) (mt_node_ok (mt_leaf_ok (mn_push)) (mt_node_ok (mt_leaf_ok (trivial)) (mt_leaf_ok (mn_aload)))))) (mt_node_ok (mt_node_ok (mt_node_ok (mt_leaf_ok (mn_dup)) (mt_leaf_ok (mn_get))) (mt_node_ok (mt_leaf_ok (mn_lload)) (mt_node_ok (mt_leaf_ok (mn_l2i)) (mt_leaf_ok (mn_bin))))) (mt_node_ok (mt_node_ok (mt_leaf_ok (mn_put)) (mt_leaf_ok (mn_iinc))) (mt_node_ok (mt_leaf_ok (mn_goto)) (mt_node_ok (mt_leaf_ok (mn_push)) (mt_leaf_ok (trivial))))))
theorem mz_178 {g : xe_G} : mt_all (mnP mS) (mb_178 g).2.1 := mt_node_ok ((mz_178_0 (g := g))) ((mz_178_1 (g := g)))
theorem mz_185_0 {g : xe_G} : mt_all (mnP mS) (mb_185_0 g) := mt_node_ok (mt_node_ok (mt_node_ok (mt_node_ok (mt_node_ok (mt_leaf_ok (mn_iload)) (mt_node_ok (mt_leaf_ok (mn_iload)) (mt_leaf_ok (mn_bin)))) (mt_node_ok (mt_leaf_ok (mn_push)) (mt_node_ok (mt_leaf_ok (mn_if2)) (mt_leaf_ok (mn_push))))) (mt_node_ok (mt_node_ok (mt_leaf_ok (trivial)) (mt_node_ok (mt_leaf_ok (mn_aload)) (mt_leaf_ok (mn_iload)))) (mt_node_ok (mt_leaf_ok (rfl)) (mt_node_ok (mt_leaf_ok (mn_isto)) (mt_leaf_ok (mn_iload)))))) (mt_node_ok (mt_node_ok (mt_node_ok (mt_leaf_ok (mn_push)) (mt_node_ok (mt_leaf_ok (mn_bin)) (mt_leaf_ok (mn_isto)))) (mt_node_ok (mt_leaf_ok (mn_push)) (mt_node_ok (mt_leaf_ok (mn_isto)) (mt_leaf_ok (mn_iload))))) (mt_node_ok (mt_node_ok (mt_leaf_ok (mn_iload)) (mt_node_ok (mt_leaf_ok (mn_if2)) (mt_leaf_ok (mn_iload)))) (mt_node_ok (mt_leaf_ok (mn_push)) (mt_node_ok (mt_leaf_ok (mn_bin)) (mt_leaf_ok (mn_iload))))))) (mt_node_ok (mt_node_ok (mt_node_ok (mt_node_ok (mt_leaf_ok (mn_if2)) (mt_node_ok (mt_leaf_ok (mn_iload)) (mt_leaf_ok (mn_push)))) (mt_node_ok (mt_leaf_ok (mn_bin)) (mt_node_ok (mt_leaf_ok (mn_push)) (mt_leaf_ok (mn_aload))))) (mt_node_ok (mt_node_ok (mt_leaf_ok (mn_iload)) (mt_node_ok (mt_leaf_ok (mn_push)) (mt_leaf_ok (mn_bin)))) (mt_node_ok (mt_leaf_ok (rfl)) (mt_node_ok (mt_leaf_ok (mn_bin)) (mt_leaf_ok (mn_bin)))))) (mt_node_ok (mt_node_ok (mt_node_ok (mt_leaf_ok (mn_iload)) (mt_node_ok (mt_leaf_ok (mn_if2)) (mt_leaf_ok (mn_push)))) (mt_node_ok (mt_leaf_ok (trivial)) (mt_node_ok (mt_leaf_ok (mn_iload)) (mt_leaf_ok (mn_push))))) (mt_node_ok (mt_node_ok (mt_leaf_ok (mn_push)) (mt_node_ok (mt_leaf_ok (mn_aload)) (mt_leaf_ok (mn_iload)))) (mt_node_ok (mt_leaf_ok (mn_push)) (mt_node_ok (mt_leaf_ok (mn_bin)) (mt_leaf_ok (rfl)))))))
theorem mz_185_1 {g : xe_G} : mt_all (mnP mS) (mb_185_1 g) := mt_node_ok (mt_node_ok (mt_node_ok (mt_node_ok (mt_node_ok (mt_leaf_ok (mn_bin)) (mt_node_ok (mt_leaf_ok (mn_bin)) (mt_leaf_ok (mn_bin)))) (mt_node_ok (mt_leaf_ok (mn_isto)) (mt_node_ok (mt_leaf_ok (mn_iinc)) (mt_leaf_ok (mn_goto))))) (mt_node_ok (mt_node_ok (mt_leaf_ok (mn_iload)) (mt_node_ok (mt_leaf_ok (mn_iload)) (mt_leaf_ok (mn_if2)))) (mt_node_ok (mt_leaf_ok (mn_push)) (mt_node_ok (mt_leaf_ok (trivial)) (mt_leaf_ok (mn_iload)))))) (mt_node_ok (mt_node_ok (mt_node_ok (mt_leaf_ok (mn_push)) (mt_node_ok (mt_leaf_ok (mn_bin)) (mt_leaf_ok (mn_isto)))) (mt_node_ok (mt_leaf_ok (mn_push)) (mt_node_ok (mt_leaf_ok (mn_isto)) (mt_leaf_ok (mn_iload))))) (mt_node_ok (mt_node_ok (mt_leaf_ok (mn_iload)) (mt_node_ok (mt_leaf_ok (mn_if2)) (mt_leaf_ok (mn_aload)))) (mt_node_ok (mt_leaf_ok (mn_aload)) (mt_node_ok (mt_leaf_ok (mn_iload)) (mt_leaf_ok (rfl))))))) (mt_node_ok (mt_node_ok (mt_node_ok (mt_node_ok (mt_leaf_ok (rfl)) (mt_node_ok (mt_leaf_ok (mn_push)) (mt_leaf_ok (mn_if2)))) (mt_node_ok (mt_leaf_ok (mn_push)) (mt_node_ok (mt_leaf_ok (trivial)) (mt_leaf_ok (mn_push))))) (mt_node_ok (mt_node_ok (mt_leaf_ok (mn_isto)) (mt_node_ok (mt_leaf_ok (mn_iload)) (mt_leaf_ok (mn_aload)))) (mt_node_ok (mt_leaf_ok (mn_iload)) (mt_node_ok (mt_leaf_ok (mn_push)) (mt_leaf_ok (mn_bin)))))) (mt_node_ok (mt_node_ok (mt_node_ok (mt_leaf_ok (rfl)) (mt_node_ok (mt_leaf_ok (mn_if2)) (mt_leaf_ok (mn_aload)))) (mt_node_ok (mt_leaf_ok (mn_aload)) (mt_node_ok (mt_leaf_ok (mn_iload)) (mt_leaf_ok (mn_push))))) (mt_node_ok (mt_node_ok (mt_leaf_ok (mn_bin)) (mt_node_ok (mt_leaf_ok (mn_push)) (mt_leaf_ok (mn_iload)))) (mt_node_ok (mt_leaf_ok (mn_bin)) (mt_node_ok (mt_leaf_ok (mn_bin)) (mt_leaf_ok (rfl)))))))
theorem mz_185_2 {g : xe_G} : mt_all (mnP mS) (mb_185_2 g) := mt_node_ok (mt_node_ok (mt_node_ok (mt_node_ok (mt_node_ok (mt_leaf_ok (rfl)) (mt_leaf_ok (mn_isto))) (mt_node_ok (mt_leaf_ok (mn_iload)) (mt_node_ok (mt_leaf_ok (mn_push)) (mt_leaf_ok (mn_if2))))) (mt_node_ok (mt_node_ok (mt_leaf_ok (mn_iload)) (mt_leaf_ok (mn_push))) (mt_node_ok (mt_leaf_ok (mn_if2)) (mt_node_ok (mt_leaf_ok (mn_iload)) (mt_leaf_ok (mn_push)))))) (mt_node_ok (mt_node_ok (mt_node_ok (mt_leaf_ok (mn_if2)) (mt_leaf_ok (mn_iload))) (mt_node_ok (mt_leaf_ok (mn_push)) (mt_node_ok (mt_leaf_ok (mn_if2)) (mt_leaf_ok (mn_push))))) (mt_node_ok (mt_node_ok (mt_leaf_ok (trivial)) (mt_leaf_ok (mn_iinc))) (mt_node_ok (mt_leaf_ok (mn_goto)) (mt_node_ok (mt_leaf_ok (mn_iload)) (mt_leaf_ok (mn_push))))))) (mt_node_ok (mt_node_ok (mt_node_ok (mt_node_ok (mt_leaf_ok (mn_push)) (mt_leaf_ok (mn_aload))) (mt_node_ok (mt_leaf_ok (mn_iload)) (mt_node_ok (mt_leaf_ok (mn_push)) (mt_leaf_ok (mn_bin))))) (mt_node_ok (mt_node_ok (mt_leaf_ok (rfl)) (mt_leaf_ok (mn_bin))) (mt_node_ok (mt_leaf_ok (mn_bin)) (mt_node_ok (mt_leaf_ok (mn_bin)) (mt_leaf_ok (mn_isto)))))) (mt_node_ok (mt_node_ok (mt_node_ok (mt_leaf_ok (mn_iinc)) (mt_leaf_ok (mn_goto))) (mt_node_ok (mt_leaf_ok (mn_aload)) (mt_node_ok (mt_leaf_ok (mn_iload)) (mt_leaf_ok (mn_put))))) (mt_node_ok (mt_node_ok (mt_leaf_ok (mn_aload)) (mt_leaf_ok (mn_iload))) (mt_node_ok (mt_leaf_ok (mn_put)) (mt_node_ok (mt_leaf_ok (mn_push)) (mt_leaf_ok (trivial)))))))
theorem mz_185 {g : xe_G} : mt_all (mnP mS) (mb_185 g).2.1 := mt_node_ok ((mz_185_0 (g := g))) (mt_node_ok ((mz_185_1 (g := g))) ((mz_185_2 (g := g))))
theorem mz_187_0 {g : xe_G} : mt_all (mnP mS) (mb_187_0 g) := mt_node_ok (mt_node_ok (mt_node_ok (mt_node_ok (mt_node_ok (mt_leaf_ok (mn_aload)) (mt_node_ok (mt_leaf_ok (mn_iload)) (mt_leaf_ok (rfl)))) (mt_node_ok (mt_leaf_ok (mn_isto)) (mt_node_ok (mt_leaf_ok (mn_iload)) (mt_leaf_ok (mn_push))))) (mt_node_ok (mt_node_ok (mt_leaf_ok (mn_bin)) (mt_node_ok (mt_leaf_ok (mn_isto)) (mt_leaf_ok (mn_push)))) (mt_node_ok (mt_leaf_ok (mn_isto)) (mt_node_ok (mt_leaf_ok (mn_push)) (mt_leaf_ok (mn_isto)))))) (mt_node_ok (mt_node_ok (mt_node_ok (mt_leaf_ok (mn_iload)) (mt_node_ok (mt_leaf_ok (mn_iload)) (mt_leaf_ok (mn_if2)))) (mt_node_ok (mt_leaf_ok (mn_aload)) (mt_node_ok (mt_leaf_ok (mn_iload)) (mt_leaf_ok (mn_push))))) (mt_node_ok (mt_node_ok (mt_leaf_ok (mn_bin)) (mt_node_ok (mt_leaf_ok (rfl)) (mt_leaf_ok (mn_l2i)))) (mt_node_ok (mt_leaf_ok (mn_isto)) (mt_node_ok (mt_leaf_ok (mn_aload)) (mt_leaf_ok (mn_aload))))))) (mt_node_ok (mt_node_ok (mt_node_ok (mt_node_ok (mt_leaf_ok (mn_iload)) (mt_node_ok (mt_leaf_ok (rfl)) (mt_leaf_ok (rfl)))) (mt_node_ok (mt_leaf_ok (mn_push)) (mt_node_ok (mt_leaf_ok (mn_if2)) (mt_leaf_ok (mn_aload))))) (mt_node_ok (mt_node_ok (mt_leaf_ok (mn_push)) (mt_node_ok (mt_leaf_ok (mn_iload)) (mt_leaf_ok (rfl)))) (mt_node_ok (mt_leaf_ok (mn_pop)) (mt_node_ok (mt_leaf_ok (mn_push)) (mt_leaf_ok (trivial)))))) (mt_node_ok (mt_node_ok (mt_node_ok (mt_leaf_ok (mn_aload)) (mt_node_ok (mt_leaf_ok (mn_aload)) (mt_leaf_ok (mn_iload)))) (mt_node_ok (mt_leaf_ok (rfl)) (mt_node_ok (mt_leaf_ok (rfl)) (mt_leaf_ok (mn_isto))))) (mt_node_ok (mt_node_ok (mt_leaf_ok (mn_push)) (mt_node_ok (mt_leaf_ok (mn_isto)) (mt_leaf_ok (mn_push)))) (mt_node_ok (mt_leaf_ok (mn_isto)) (mt_node_ok (mt_leaf_ok (mn_iload)) (mt_leaf_ok (mn_aload)))))))
theorem mz_187_1 {g : xe_G} : mt_all (mnP mS) (mb_187_1 g) := mt_node_ok (mt_node_ok (mt_node_ok (mt_node_ok (mt_node_ok (mt_leaf_ok (mn_get)) (mt_node_ok (mt_leaf_ok (mn_alen)) (mt_leaf_ok (mn_if2)))) (mt_node_ok (mt_leaf_ok (mn_aload)) (mt_node_ok (mt_leaf_ok (mn_get)) (mt_leaf_ok (mn_iload))))) (mt_node_ok (mt_node_ok (mt_leaf_ok (mn_ald)) (mt_node_ok (mt_leaf_ok (mn_iload)) (mt_leaf_ok (mn_if2)))) (mt_node_ok (mt_leaf_ok (mn_aload)) (mt_node_ok (mt_leaf_ok (mn_get)) (mt_leaf_ok (mn_aload)))))) (mt_node_ok (mt_node_ok (mt_node_ok (mt_leaf_ok (mn_get)) (mt_node_ok (mt_leaf_ok (mn_iload)) (mt_leaf_ok (mn_ald)))) (mt_node_ok (mt_leaf_ok (mn_if2)) (mt_node_ok (mt_leaf_ok (mn_aload)) (mt_leaf_ok (mn_iload))))) (mt_node_ok (mt_node_ok (mt_leaf_ok (mn_aload)) (mt_node_ok (mt_leaf_ok (mn_get)) (mt_leaf_ok (mn_iload)))) (mt_node_ok (mt_leaf_ok (mn_ald)) (mt_node_ok (mt_leaf_ok (rfl)) (mt_leaf_ok (mn_if))))))) (mt_node_ok (mt_node_ok (mt_node_ok (mt_node_ok (mt_leaf_ok (mn_iload)) (mt_node_ok (mt_leaf_ok (mn_isto)) (mt_leaf_ok (mn_iinc)))) (mt_node_ok (mt_leaf_ok (mn_goto)) (mt_node_ok (mt_leaf_ok (mn_iload)) (mt_leaf_ok (mn_if))))) (mt_node_ok (mt_node_ok (mt_leaf_ok (mn_iload)) (mt_node_ok (mt_leaf_ok (mn_push)) (mt_leaf_ok (mn_if2)))) (mt_node_ok (mt_leaf_ok (mn_aload)) (mt_node_ok (mt_leaf_ok (mn_get)) (mt_leaf_ok (mn_iload)))))) (mt_node_ok (mt_node_ok (mt_node_ok (mt_leaf_ok (mn_dup2)) (mt_node_ok (mt_leaf_ok (mn_ald)) (mt_leaf_ok (mn_push)))) (mt_node_ok (mt_leaf_ok (mn_bin)) (mt_node_ok (mt_leaf_ok (mn_ast)) (mt_leaf_ok (mn_iload))))) (mt_node_ok (mt_node_ok (mt_leaf_ok (mn_push)) (mt_node_ok (mt_leaf_ok (mn_if2)) (mt_leaf_ok (mn_aload)))) (mt_node_ok (mt_leaf_ok (mn_get)) (mt_node_ok (mt_leaf_ok (mn_iload)) (mt_leaf_ok (mn_dup2)))))))
theorem mz_187_2 {g : xe_G} : mt_all (mnP mS) (mb_187_2 g) := mt_node_ok (mt_node_ok (mt_node_ok (mt_node_ok (mt_node_ok (mt_leaf_ok (mn_ald)) (mt_node_ok (mt_leaf_ok (mn_push)) (mt_leaf_ok (mn_bin)))) (mt_node_ok (mt_leaf_ok (mn_ast)) (mt_node_ok (mt_leaf_ok (mn_iload)) (mt_leaf_ok (mn_push))))) (mt_node_ok (mt_node_ok (mt_leaf_ok (mn_if2)) (mt_node_ok (mt_leaf_ok (mn_aload)) (mt_leaf_ok (mn_dup)))) (mt_node_ok (mt_leaf_ok (mn_get)) (mt_node_ok (mt_leaf_ok (mn_push)) (mt_leaf_ok (mn_bin)))))) (mt_node_ok (mt_node_ok (mt_node_ok (mt_leaf_ok (mn_put)) (mt_node_ok (mt_leaf_ok (mn_iload)) (mt_leaf_ok (mn_iload)))) (mt_node_ok (mt_leaf_ok (mn_bin)) (mt_node_ok (mt_leaf_ok (mn_push)) (mt_leaf_ok (mn_bin))))) (mt_node_ok (mt_node_ok (mt_leaf_ok (mn_push)) (mt_node_ok (mt_leaf_ok (mn_if2)) (mt_leaf_ok (mn_aload)))) (mt_node_ok (mt_leaf_ok (mn_push)) (mt_node_ok (mt_leaf_ok (mn_iload)) (mt_leaf_ok (rfl))))))) (mt_node_ok (mt_node_ok (mt_node_ok (mt_node_ok (mt_leaf_ok (mn_pop)) (mt_node_ok (mt_leaf_ok (mn_push)) (mt_leaf_ok (trivial)))) (mt_node_ok (mt_leaf_ok (mn_aload)) (mt_node_ok (mt_leaf_ok (mn_iload)) (mt_leaf_ok (mn_iload))))) (mt_node_ok (mt_node_ok (mt_leaf_ok (mn_iload)) (mt_node_ok (mt_leaf_ok (mn_push)) (mt_leaf_ok (mn_bin)))) (mt_node_ok (mt_leaf_ok (mn_iload)) (mt_node_ok (mt_leaf_ok (mn_push)) (mt_leaf_ok (mn_bin)))))) (mt_node_ok (mt_node_ok (mt_node_ok (mt_leaf_ok (mn_iload)) (mt_node_ok (mt_leaf_ok (mn_bin)) (mt_leaf_ok (mn_iload)))) (mt_node_ok (mt_leaf_ok (mn_iload)) (mt_node_ok (mt_leaf_ok (rfl)) (mt_leaf_ok (mn_isto))))) (mt_node_ok (mt_node_ok (mt_leaf_ok (mn_iload)) (mt_node_ok (mt_leaf_ok (mn_push)) (mt_leaf_ok (mn_iload)))) (mt_node_ok (mt_leaf_ok (mn_bin)) (mt_node_ok (mt_leaf_ok (mn_bin)) (mt_leaf_ok (mn_isto)))))))
theorem mz_187_3 {g : xe_G} : mt_all (mnP mS) (mb_187_3 g) := mt_node_ok (mt_node_ok (mt_node_ok (mt_node_ok (mt_leaf_ok (mn_iload)) (mt_leaf_ok (mn_if))) (mt_node_ok (mt_leaf_ok (mn_aload)) (mt_node_ok (mt_leaf_ok (mn_iload)) (mt_leaf_ok (mn_iload))))) (mt_node_ok (mt_node_ok (mt_leaf_ok (rfl)) (mt_leaf_ok (mn_pop))) (mt_node_ok (mt_leaf_ok (mn_iload)) (mt_node_ok (mt_leaf_ok (mn_if)) (mt_leaf_ok (mn_push)))))) (mt_node_ok (mt_node_ok (mt_node_ok (mt_leaf_ok (trivial)) (mt_leaf_ok (mn_iload))) (mt_node_ok (mt_leaf_ok (mn_push)) (mt_node_ok (mt_leaf_ok (mn_iload)) (mt_leaf_ok (mn_bin))))) (mt_node_ok (mt_node_ok (mt_leaf_ok (mn_bin)) (mt_node_ok (mt_leaf_ok (mn_isto)) (mt_leaf_ok (mn_iinc)))) (mt_node_ok (mt_leaf_ok (mn_goto)) (mt_node_ok (mt_leaf_ok (mn_iload)) (mt_leaf_ok (trivial))))))
theorem mz_187 {g : xe_G} : mt_all (mnP mS) (mb_187 g).2.1 := mt_node_ok (mt_node_ok ((mz_187_0 (g := g))) ((mz_187_1 (g := g)))) (mt_node_ok ((mz_187_2 (g := g))) ((mz_187_3 (g := g))))
theorem mz_188_0 {g : xe_G} : mt_all (mnP mS) (mb_188_0 g) := mt_node_ok (mt_node_ok (mt_node_ok (mt_node_ok (mt_node_ok (mt_leaf_ok (mn_aload)) (mt_node_ok (mt_leaf_ok (mn_aload)) (mt_leaf_ok (mn_get)))) (mt_node_ok (mt_leaf_ok (rfl)) (mt_node_ok (mt_leaf_ok (mn_isto)) (mt_leaf_ok (mn_aload))))) (mt_node_ok (mt_node_ok (mt_leaf_ok (mn_iload)) (mt_node_ok (mt_leaf_ok (mn_put)) (mt_leaf_ok (mn_iload)))) (mt_node_ok (mt_leaf_ok (mn_push)) (mt_node_ok (mt_leaf_ok (mn_bin)) (mt_leaf_ok (mn_if)))))) (mt_node_ok (mt_node_ok (mt_node_ok (mt_leaf_ok (mn_push)) (mt_node_ok (mt_leaf_ok (mn_goto)) (mt_leaf_ok (mn_push)))) (mt_node_ok (mt_leaf_ok (mn_isto)) (mt_node_ok (mt_leaf_ok (mn_iload)) (mt_leaf_ok (mn_push))))) (mt_node_ok (mt_node_ok (mt_leaf_ok (mn_bin)) (mt_node_ok (mt_leaf_ok (mn_if)) (mt_leaf_ok (mn_iload)))) (mt_node_ok (mt_leaf_ok (mn_if)) (mt_node_ok (mt_leaf_ok (mn_iload)) (mt_leaf_ok (mn_push))))))) (mt_node_ok (mt_node_ok (mt_node_ok (mt_node_ok (mt_leaf_ok (mn_bin)) (mt_node_ok (mt_leaf_ok (mn_if)) (mt_leaf_ok (mn_iload)))) (mt_node_ok (mt_leaf_ok (mn_push)) (mt_node_ok (mt_leaf_ok (mn_bin)) (mt_leaf_ok (mn_if))))) (mt_node_ok (mt_node_ok (mt_leaf_ok (mn_goto)) (mt_node_ok (mt_leaf_ok (mn_iload)) (mt_leaf_ok (mn_push)))) (mt_node_ok (mt_leaf_ok (mn_bin)) (mt_node_ok (mt_leaf_ok (mn_if)) (mt_leaf_ok (mn_iload)))))) (mt_node_ok (mt_node_ok (mt_node_ok (mt_leaf_ok (mn_push)) (mt_node_ok (mt_leaf_ok (mn_bin)) (mt_leaf_ok (mn_if)))) (mt_node_ok (mt_leaf_ok (mn_iload)) (mt_node_ok (mt_leaf_ok (mn_push)) (mt_leaf_ok (mn_bin))))) (mt_node_ok (mt_node_ok (mt_leaf_ok (mn_if)) (mt_node_ok (mt_leaf_ok (mn_iload)) (mt_leaf_ok (mn_if)))) (mt_node_ok (mt_leaf_ok (mn_iload)) (mt_node_ok (mt_leaf_ok (mn_push)) (mt_leaf_ok (mn_bin)))))))
theorem mz_188_1 {g : xe_G} : mt_all (mnP mS) (mb_188_1 g) := mt_node_ok (mt_node_ok (mt_node_ok (mt_node_ok (mt_node_ok (mt_leaf_ok (mn_if)) (mt_node_ok (mt_leaf_ok (mn_iload)) (mt_leaf_ok (mn_push)))) (mt_node_ok (mt_leaf_ok (mn_bin)) (mt_node_ok (mt_leaf_ok (mn_if)) (mt_leaf_ok (mn_iload))))) (mt_node_ok (mt_node_ok (mt_leaf_ok (mn_push)) (mt_node_ok (mt_leaf_ok (mn_bin)) (mt_leaf_ok (mn_if)))) (mt_node_ok (mt_leaf_ok (mn_aload)) (mt_node_ok (mt_leaf_ok (mn_push)) (mt_leaf_ok (mn_aload)))))) (mt_node_ok (mt_node_ok (mt_node_ok (mt_leaf_ok (mn_get)) (mt_node_ok (mt_leaf_ok (rfl)) (mt_leaf_ok (trivial)))) (mt_node_ok (mt_leaf_ok (mn_aload)) (mt_node_ok (mt_leaf_ok (mn_aload)) (mt_leaf_ok (mn_aload))))) (mt_node_ok (mt_node_ok (mt_leaf_ok (mn_get)) (mt_node_ok (mt_leaf_ok (mn_push)) (mt_leaf_ok (mn_bin)))) (mt_node_ok (mt_leaf_ok (rfl)) (mt_node_ok (mt_leaf_ok (rfl)) (mt_leaf_ok (mn_if))))))) (mt_node_ok (mt_node_ok (mt_node_ok (mt_node_ok (mt_leaf_ok (mn_aload)) (mt_node_ok (mt_leaf_ok (mn_push)) (mt_leaf_ok (mn_aload)))) (mt_node_ok (mt_leaf_ok (mn_get)) (mt_node_ok (mt_leaf_ok (mn_push)) (mt_leaf_ok (mn_bin))))) (mt_node_ok (mt_node_ok (mt_leaf_ok (rfl)) (mt_node_ok (mt_leaf_ok (trivial)) (mt_leaf_ok (mn_aload)))) (mt_node_ok (mt_leaf_ok (mn_aload)) (mt_node_ok (mt_leaf_ok (mn_aload)) (mt_leaf_ok (mn_aload)))))) (mt_node_ok (mt_node_ok (mt_node_ok (mt_leaf_ok (mn_get)) (mt_node_ok (mt_leaf_ok (mn_push)) (mt_leaf_ok (mn_bin)))) (mt_node_ok (mt_leaf_ok (rfl)) (mt_node_ok (mt_leaf_ok (rfl)) (mt_leaf_ok (mn_put))))) (mt_node_ok (mt_node_ok (mt_leaf_ok (mn_aload)) (mt_node_ok (mt_leaf_ok (mn_aload)) (mt_leaf_ok (mn_get)))) (mt_node_ok (mt_leaf_ok (mn_push)) (mt_node_ok (mt_leaf_ok (mn_bin)) (mt_leaf_ok (rfl)))))))
theorem mz_188_2 {g : xe_G} : mt_all (mnP mS) (mb_188_2 g) := mt_node_ok (mt_node_ok (mt_node_ok (mt_node_ok (mt_node_ok (mt_leaf_ok (mn_isto)) (mt_node_ok (mt_leaf_ok (mn_aload)) (mt_leaf_ok (mn_iload)))) (mt_node_ok (mt_leaf_ok (rfl)) (mt_node_ok (mt_leaf_ok (mn_if)) (mt_leaf_ok (mn_iload))))) (mt_node_ok (mt_node_ok (mt_leaf_ok (mn_if)) (mt_node_ok (mt_leaf_ok (mn_aload)) (mt_leaf_ok (mn_iload)))) (mt_node_ok (mt_leaf_ok (rfl)) (mt_node_ok (mt_leaf_ok (mn_aload)) (mt_leaf_ok (mn_get)))))) (mt_node_ok (mt_node_ok (mt_node_ok (mt_leaf_ok (mn_if2)) (mt_node_ok (mt_leaf_ok (mn_aload)) (mt_leaf_ok (mn_push)))) (mt_node_ok (mt_leaf_ok (mn_aload)) (mt_node_ok (mt_leaf_ok (mn_get)) (mt_leaf_ok (mn_push))))) (mt_node_ok (mt_node_ok (mt_leaf_ok (mn_bin)) (mt_node_ok (mt_leaf_ok (rfl)) (mt_leaf_ok (trivial)))) (mt_node_ok (mt_leaf_ok (mn_aload)) (mt_node_ok (mt_leaf_ok (mn_aload)) (mt_leaf_ok (mn_iload))))))) (mt_node_ok (mt_node_ok (mt_node_ok (mt_node_ok (mt_leaf_ok (rfl)) (mt_node_ok (mt_leaf_ok (mn_put)) (mt_leaf_ok (mn_aload)))) (mt_node_ok (mt_leaf_ok (mn_aload)) (mt_node_ok (mt_leaf_ok (mn_get)) (mt_leaf_ok (mn_push))))) (mt_node_ok (mt_node_ok (mt_leaf_ok (mn_bin)) (mt_node_ok (mt_leaf_ok (rfl)) (mt_leaf_ok (mn_isto)))) (mt_node_ok (mt_leaf_ok (mn_push)) (mt_node_ok (mt_leaf_ok (mn_isto)) (mt_leaf_ok (mn_iload)))))) (mt_node_ok (mt_node_ok (mt_node_ok (mt_leaf_ok (mn_iload)) (mt_node_ok (mt_leaf_ok (mn_if2)) (mt_leaf_ok (mn_aload)))) (mt_node_ok (mt_leaf_ok (mn_get)) (mt_node_ok (mt_leaf_ok (mn_push)) (mt_leaf_ok (mn_bin))))) (mt_node_ok (mt_node_ok (mt_leaf_ok (mn_push)) (mt_node_ok (mt_leaf_ok (mn_iload)) (mt_leaf_ok (mn_bin)))) (mt_node_ok (mt_leaf_ok (mn_bin)) (mt_node_ok (mt_leaf_ok (mn_isto)) (mt_leaf_ok (mn_aload)))))))
theorem mz_188_3 {g : xe_G} : mt_all (mnP mS) (mb_188_3 g) := mt_node_ok (mt_node_ok (mt_node_ok (mt_node_ok (mt_node_ok (mt_leaf_ok (mn_aload)) (mt_leaf_ok (mn_iload))) (mt_node_ok (mt_leaf_ok (rfl)) (mt_node_ok (mt_leaf_ok (rfl)) (mt_leaf_ok (mn_if))))) (mt_node_ok (mt_node_ok (mt_leaf_ok (mn_aload)) (mt_node_ok (mt_leaf_ok (mn_push)) (mt_leaf_ok (mn_iload)))) (mt_node_ok (mt_leaf_ok (rfl)) (mt_node_ok (mt_leaf_ok (trivial)) (mt_leaf_ok (mn_push)))))) (mt_node_ok (mt_node_ok (mt_node_ok (mt_leaf_ok (mn_isto)) (mt_node_ok (mt_leaf_ok (mn_iload)) (mt_leaf_ok (mn_iload)))) (mt_node_ok (mt_leaf_ok (mn_if2)) (mt_node_ok (mt_leaf_ok (mn_aload)) (mt_leaf_ok (mn_aload))))) (mt_node_ok (mt_node_ok (mt_leaf_ok (mn_aload)) (mt_node_ok (mt_leaf_ok (mn_get)) (mt_leaf_ok (mn_push)))) (mt_node_ok (mt_leaf_ok (mn_bin)) (mt_node_ok (mt_leaf_ok (mn_push)) (mt_leaf_ok (mn_iload))))))) (mt_node_ok (mt_node_ok (mt_node_ok (mt_node_ok (mt_leaf_ok (mn_bin)) (mt_node_ok (mt_leaf_ok (mn_bin)) (mt_leaf_ok (rfl)))) (mt_node_ok (mt_leaf_ok (rfl)) (mt_node_ok (mt_leaf_ok (mn_aload)) (mt_leaf_ok (mn_aload))))) (mt_node_ok (mt_node_ok (mt_leaf_ok (mn_iload)) (mt_node_ok (mt_leaf_ok (rfl)) (mt_leaf_ok (rfl)))) (mt_node_ok (mt_leaf_ok (mn_if2)) (mt_node_ok (mt_leaf_ok (mn_aload)) (mt_leaf_ok (mn_push)))))) (mt_node_ok (mt_node_ok (mt_node_ok (mt_leaf_ok (mn_iload)) (mt_node_ok (mt_leaf_ok (rfl)) (mt_leaf_ok (trivial)))) (mt_node_ok (mt_leaf_ok (mn_iinc)) (mt_node_ok (mt_leaf_ok (mn_goto)) (mt_leaf_ok (mn_iinc))))) (mt_node_ok (mt_node_ok (mt_leaf_ok (mn_goto)) (mt_node_ok (mt_leaf_ok (mn_aload)) (mt_leaf_ok (mn_iload)))) (mt_node_ok (mt_leaf_ok (mn_put)) (mt_node_ok (mt_leaf_ok (mn_push)) (mt_leaf_ok (trivial)))))))
theorem mz_188 {g : xe_G} : mt_all (mnP mS) (mb_188 g).2.1 := mt_node_ok (mt_node_ok ((mz_188_0 (g := g))) ((mz_188_1 (g := g)))) (mt_node_ok ((mz_188_2 (g := g))) ((mz_188_3 (g := g))))
theorem mz_189_0 {g : xe_G} : mt_all (mnP mS) (mb_189_0 g) := mt_node_ok (mt_node_ok (mt_node_ok (mt_node_ok (mt_node_ok (mt_leaf_ok (mn_aload)) (mt_node_ok (mt_leaf_ok (mn_get)) (mt_leaf_ok (mn_isto)))) (mt_node_ok (mt_leaf_ok (mn_aload)) (mt_node_ok (mt_leaf_ok (mn_iload)) (mt_leaf_ok (rfl))))) (mt_node_ok (mt_node_ok (mt_leaf_ok (mn_isto)) (mt_node_ok (mt_leaf_ok (mn_iinc)) (mt_leaf_ok (mn_aload)))) (mt_node_ok (mt_leaf_ok (mn_get)) (mt_node_ok (mt_leaf_ok (mn_isto)) (mt_leaf_ok (mn_push)))))) (mt_node_ok (mt_node_ok (mt_node_ok (mt_leaf_ok (mn_isto)) (mt_node_ok (mt_leaf_ok (mn_iload)) (mt_leaf_ok (mn_iload)))) (mt_node_ok (mt_leaf_ok (mn_if2)) (mt_node_ok (mt_leaf_ok (mn_aload)) (mt_leaf_ok (mn_iload))))) (mt_node_ok (mt_node_ok (mt_leaf_ok (rfl)) (mt_node_ok (mt_leaf_ok (mn_isto)) (mt_leaf_ok (mn_iload)))) (mt_node_ok (mt_leaf_ok (mn_push)) (mt_node_ok (mt_leaf_ok (mn_push)) (mt_leaf_ok (mn_push))))))) (mt_node_ok (mt_node_ok (mt_node_ok (mt_node_ok (mt_leaf_ok (rfl)) (mt_node_ok (mt_leaf_ok (mn_if)) (mt_leaf_ok (mn_iload)))) (mt_node_ok (mt_leaf_ok (mn_push)) (mt_node_ok (mt_leaf_ok (mn_bin)) (mt_leaf_ok (mn_if))))) (mt_node_ok (mt_node_ok (mt_leaf_ok (mn_iload)) (mt_node_ok (mt_leaf_ok (mn_push)) (mt_leaf_ok (mn_bin)))) (mt_node_ok (mt_leaf_ok (mn_if)) (mt_node_ok (mt_leaf_ok (mn_aload)) (mt_leaf_ok (mn_get)))))) (mt_node_ok (mt_node_ok (mt_node_ok (mt_leaf_ok (mn_push)) (mt_node_ok (mt_leaf_ok (mn_bin)) (mt_leaf_ok (mn_if)))) (mt_node_ok (mt_leaf_ok (mn_iload)) (mt_node_ok (mt_leaf_ok (mn_push)) (mt_leaf_ok (mn_bin))))) (mt_node_ok (mt_node_ok (mt_leaf_ok (mn_push)) (mt_node_ok (mt_leaf_ok (mn_if2)) (mt_leaf_ok (mn_aload)))) (mt_node_ok (mt_leaf_ok (mn_push)) (mt_node_ok (mt_leaf_ok (mn_iload)) (mt_leaf_ok (rfl)))))))
theorem mz_189_1 {g : xe_G} : mt_all (mnP mS) (mb_189_1 g) := mt_node_ok (mt_node_ok (mt_node_ok (mt_node_ok (mt_node_ok (mt_leaf_ok (trivial)) (mt_node_ok (mt_leaf_ok (mn_aload)) (mt_leaf_ok (mn_aload)))) (mt_node_ok (mt_leaf_ok (mn_iload)) (mt_node_ok (mt_leaf_ok (mn_push)) (mt_leaf_ok (mn_bin))))) (mt_node_ok (mt_node_ok (mt_leaf_ok (rfl)) (mt_node_ok (mt_leaf_ok (rfl)) (mt_leaf_ok (mn_push)))) (mt_node_ok (mt_leaf_ok (mn_if2)) (mt_node_ok (mt_leaf_ok (mn_aload)) (mt_leaf_ok (mn_aload)))))) (mt_node_ok (mt_node_ok (mt_node_ok (mt_leaf_ok (mn_aload)) (mt_node_ok (mt_leaf_ok (mn_iload)) (mt_leaf_ok (mn_push)))) (mt_node_ok (mt_leaf_ok (mn_bin)) (mt_node_ok (mt_leaf_ok (rfl)) (mt_leaf_ok (rfl))))) (mt_node_ok (mt_node_ok (mt_leaf_ok (mn_push)) (mt_node_ok (mt_leaf_ok (rfl)) (mt_leaf_ok (mn_if)))) (mt_node_ok (mt_leaf_ok (mn_aload)) (mt_node_ok (mt_leaf_ok (mn_push)) (mt_leaf_ok (mn_iload))))))) (mt_node_ok (mt_node_ok (mt_node_ok (mt_node_ok (mt_leaf_ok (mn_push)) (mt_node_ok (mt_leaf_ok (mn_bin)) (mt_leaf_ok (rfl)))) (mt_node_ok (mt_leaf_ok (trivial)) (mt_node_ok (mt_leaf_ok (mn_aload)) (mt_leaf_ok (mn_aload))))) (mt_node_ok (mt_node_ok (mt_leaf_ok (mn_iload)) (mt_node_ok (mt_leaf_ok (mn_push)) (mt_leaf_ok (mn_bin)))) (mt_node_ok (mt_leaf_ok (rfl)) (mt_node_ok (mt_leaf_ok (rfl)) (mt_leaf_ok (mn_push)))))) (mt_node_ok (mt_node_ok (mt_node_ok (mt_leaf_ok (mn_if2)) (mt_node_ok (mt_leaf_ok (mn_aload)) (mt_leaf_ok (mn_aload)))) (mt_node_ok (mt_leaf_ok (mn_aload)) (mt_node_ok (mt_leaf_ok (mn_iload)) (mt_leaf_ok (mn_push))))) (mt_node_ok (mt_node_ok (mt_leaf_ok (mn_bin)) (mt_node_ok (mt_leaf_ok (rfl)) (mt_leaf_ok (rfl)))) (mt_node_ok (mt_leaf_ok (rfl)) (mt_node_ok (mt_leaf_ok (mn_if)) (mt_leaf_ok (mn_aload)))))))
theorem mz_189_2 {g : xe_G} : mt_all (mnP mS) (mb_189_2 g) := mt_node_ok (mt_node_ok (mt_node_ok (mt_node_ok (mt_node_ok (mt_leaf_ok (mn_push)) (mt_node_ok (mt_leaf_ok (mn_iload)) (mt_leaf_ok (mn_push)))) (mt_node_ok (mt_leaf_ok (mn_bin)) (mt_node_ok (mt_leaf_ok (rfl)) (mt_leaf_ok (trivial))))) (mt_node_ok (mt_node_ok (mt_leaf_ok (mn_aload)) (mt_node_ok (mt_leaf_ok (mn_get)) (mt_leaf_ok (mn_isto)))) (mt_node_ok (mt_leaf_ok (mn_aload)) (mt_node_ok (mt_leaf_ok (mn_get)) (mt_leaf_ok (mn_iload)))))) (mt_node_ok (mt_node_ok (mt_node_ok (mt_leaf_ok (mn_iload)) (mt_node_ok (mt_leaf_ok (mn_ast)) (mt_leaf_ok (mn_aload)))) (mt_node_ok (mt_leaf_ok (mn_get)) (mt_node_ok (mt_leaf_ok (mn_iload)) (mt_leaf_ok (mn_aload))))) (mt_node_ok (mt_node_ok (mt_leaf_ok (mn_aload)) (mt_node_ok (mt_leaf_ok (mn_iload)) (mt_leaf_ok (mn_push)))) (mt_node_ok (mt_leaf_ok (mn_bin)) (mt_node_ok (mt_leaf_ok (rfl)) (mt_leaf_ok (rfl))))))) (mt_node_ok (mt_node_ok (mt_node_ok (mt_node_ok (mt_leaf_ok (mn_ast)) (mt_node_ok (mt_leaf_ok (mn_aload)) (mt_leaf_ok (mn_get)))) (mt_node_ok (mt_leaf_ok (mn_iload)) (mt_node_ok (mt_leaf_ok (mn_aload)) (mt_leaf_ok (mn_aload))))) (mt_node_ok (mt_node_ok (mt_leaf_ok (mn_iload)) (mt_node_ok (mt_leaf_ok (mn_push)) (mt_leaf_ok (mn_bin)))) (mt_node_ok (mt_leaf_ok (rfl)) (mt_node_ok (mt_leaf_ok (rfl)) (mt_leaf_ok (mn_ast)))))) (mt_node_ok (mt_node_ok (mt_node_ok (mt_leaf_ok (mn_aload)) (mt_node_ok (mt_leaf_ok (mn_get)) (mt_leaf_ok (mn_iload)))) (mt_node_ok (mt_leaf_ok (mn_push)) (mt_node_ok (mt_leaf_ok (mn_ast)) (mt_leaf_ok (mn_aload))))) (mt_node_ok (mt_node_ok (mt_leaf_ok (mn_get)) (mt_node_ok (mt_leaf_ok (mn_iload)) (mt_leaf_ok (mn_push)))) (mt_node_ok (mt_leaf_ok (mn_ast)) (mt_node_ok (mt_leaf_ok (mn_aload)) (mt_leaf_ok (mn_get)))))))
theorem mz_189_3 {g : xe_G} : mt_all (mnP mS) (mb_189_3 g) := mt_node_ok (mt_node_ok (mt_node_ok (mt_node_ok (mt_node_ok (mt_leaf_ok (mn_iload)) (mt_node_ok (mt_leaf_ok (mn_aload)) (mt_leaf_ok (mn_iload)))) (mt_node_ok (mt_leaf_ok (mn_push)) (mt_node_ok (mt_leaf_ok (mn_bin)) (mt_leaf_ok (rfl))))) (mt_node_ok (mt_node_ok (mt_leaf_ok (mn_ast)) (mt_node_ok (mt_leaf_ok (mn_aload)) (mt_leaf_ok (mn_get)))) (mt_node_ok (mt_leaf_ok (mn_iload)) (mt_node_ok (mt_leaf_ok (mn_aload)) (mt_leaf_ok (mn_iload)))))) (mt_node_ok (mt_node_ok (mt_node_ok (mt_leaf_ok (mn_push)) (mt_node_ok (mt_leaf_ok (mn_bin)) (mt_leaf_ok (rfl)))) (mt_node_ok (mt_leaf_ok (mn_ast)) (mt_node_ok (mt_leaf_ok (mn_iload)) (mt_leaf_ok (mn_isto))))) (mt_node_ok (mt_node_ok (mt_leaf_ok (mn_iload)) (mt_node_ok (mt_leaf_ok (mn_iload)) (mt_leaf_ok (mn_if2)))) (mt_node_ok (mt_leaf_ok (mn_aload)) (mt_node_ok (mt_leaf_ok (mn_get)) (mt_leaf_ok (mn_iload))))))) (mt_node_ok (mt_node_ok (mt_node_ok (mt_node_ok (mt_leaf_ok (mn_ald)) (mt_node_ok (mt_leaf_ok (mn_aload)) (mt_leaf_ok (mn_get)))) (mt_node_ok (mt_leaf_ok (mn_iload)) (mt_node_ok (mt_leaf_ok (mn_ald)) (mt_leaf_ok (mn_if2))))) (mt_node_ok (mt_node_ok (mt_leaf_ok (mn_aload)) (mt_node_ok (mt_leaf_ok (mn_get)) (mt_leaf_ok (mn_iload)))) (mt_node_ok (mt_leaf_ok (mn_ald)) (mt_node_ok (mt_leaf_ok (mn_aload)) (mt_leaf_ok (mn_get)))))) (mt_node_ok (mt_node_ok (mt_node_ok (mt_leaf_ok (mn_iload)) (mt_node_ok (mt_leaf_ok (mn_ald)) (mt_leaf_ok (mn_if2)))) (mt_node_ok (mt_leaf_ok (mn_aload)) (mt_node_ok (mt_leaf_ok (mn_push)) (mt_leaf_ok (mn_iload))))) (mt_node_ok (mt_node_ok (mt_leaf_ok (rfl)) (mt_node_ok (mt_leaf_ok (trivial)) (mt_leaf_ok (mn_iinc)))) (mt_node_ok (mt_leaf_ok (mn_goto)) (mt_node_ok (mt_leaf_ok (mn_aload)) (mt_leaf_ok (mn_dup)))))))
theorem mz_189_4 {g : xe_G} : mt_all (mnP mS) (mb_189_4 g) := mt_node_ok (mt_node_ok (mt_node_ok (mt_node_ok (mt_leaf_ok (mn_get)) (mt_leaf_ok (mn_push))) (mt_node_ok (mt_leaf_ok (mn_bin)) (mt_node_ok (mt_leaf_ok (mn_put)) (mt_leaf_ok (mn_aload))))) (mt_node_ok (mt_node_ok (mt_leaf_ok (mn_iload)) (mt_leaf_ok (mn_push))) (mt_node_ok (mt_leaf_ok (mn_bin)) (mt_node_ok (mt_leaf_ok (mn_push)) (mt_leaf_ok (mn_iload)))))) (mt_node_ok (mt_node_ok (mt_node_ok (mt_leaf_ok (rfl)) (mt_leaf_ok (mn_isto))) (mt_node_ok (mt_leaf_ok (mn_iload)) (mt_node_ok (mt_leaf_ok (mn_if)) (mt_leaf_ok (mn_push))))) (mt_node_ok (mt_node_ok (mt_leaf_ok (trivial)) (mt_leaf_ok (mn_iinc))) (mt_node_ok (mt_leaf_ok (mn_goto)) (mt_node_ok (mt_leaf_ok (mn_push)) (mt_leaf_ok (trivial))))))
theorem mz_189 {g : xe_G} : mt_all (mnP mS) (mb_189 g).2.1 := mt_node_ok (mt_node_ok ((mz_189_0 (g := g))) ((mz_189_1 (g := g)))) (mt_node_ok ((mz_189_2 (g := g))) (mt_node_ok ((mz_189_3 (g := g))) ((mz_189_4 (g := g)))))
theorem mz_190_0 {g : xe_G} : mt_all (mnP mS) (mb_190_0 g) := mt_node_ok (mt_node_ok (mt_node_ok (mt_node_ok (mt_node_ok (mt_leaf_ok (mn_aload)) (mt_node_ok (mt_leaf_ok (mn_push)) (mt_leaf_ok (mn_put)))) (mt_node_ok (mt_leaf_ok (mn_aload)) (mt_node_ok (mt_leaf_ok (mn_push)) (mt_leaf_ok (mn_put))))) (mt_node_ok (mt_node_ok (mt_leaf_ok (mn_aload)) (mt_node_ok (mt_leaf_ok (mn_push)) (mt_leaf_ok (mn_put)))) (mt_node_ok (mt_leaf_ok (mn_aload)) (mt_node_ok (mt_leaf_ok (mn_push)) (mt_leaf_ok (mn_put)))))) (mt_node_ok (mt_node_ok (mt_node_ok (mt_leaf_ok (mn_aload)) (mt_node_ok (mt_leaf_ok (mn_push)) (mt_leaf_ok (mn_put)))) (mt_node_ok (mt_leaf_ok (mn_aload)) (mt_node_ok (mt_leaf_ok (mn_push)) (mt_leaf_ok (mn_put))))) (mt_node_ok (mt_node_ok (mt_leaf_ok (mn_aload)) (mt_node_ok (mt_leaf_ok (mn_push)) (mt_leaf_ok (mn_put)))) (mt_node_ok (mt_leaf_ok (mn_aload)) (mt_node_ok (mt_leaf_ok (mn_push)) (mt_leaf_ok (mn_put))))))) (mt_node_ok (mt_node_ok (mt_node_ok (mt_node_ok (mt_leaf_ok (mn_aload)) (mt_node_ok (mt_leaf_ok (rfl)) (mt_leaf_ok (mn_if)))) (mt_node_ok (mt_leaf_ok (mn_aload)) (mt_node_ok (mt_leaf_ok (rfl)) (mt_leaf_ok (mn_if))))) (mt_node_ok (mt_node_ok (mt_leaf_ok (mn_aload)) (mt_node_ok (mt_leaf_ok (rfl)) (mt_leaf_ok (mn_if)))) (mt_node_ok (mt_leaf_ok (mn_aload)) (mt_node_ok (mt_leaf_ok (rfl)) (mt_leaf_ok (mn_if)))))) (mt_node_ok (mt_node_ok (mt_node_ok (mt_leaf_ok (mn_aload)) (mt_node_ok (mt_leaf_ok (rfl)) (mt_leaf_ok (mn_if)))) (mt_node_ok (mt_leaf_ok (mn_push)) (mt_node_ok (mt_leaf_ok (trivial)) (mt_leaf_ok (mn_aload))))) (mt_node_ok (mt_node_ok (mt_leaf_ok (mn_aload)) (mt_node_ok (mt_leaf_ok (mn_get)) (mt_leaf_ok (mn_push)))) (mt_node_ok (mt_leaf_ok (mn_push)) (mt_node_ok (mt_leaf_ok (rfl)) (mt_leaf_ok (mn_if)))))))
theorem mz_190_1 {g : xe_G} : mt_all (mnP mS) (mb_190_1 g) := mt_node_ok (mt_node_ok (mt_node_ok (mt_node_ok (mt_node_ok (mt_leaf_ok (mn_push)) (mt_leaf_ok (trivial))) (mt_node_ok (mt_leaf_ok (mn_push)) (mt_node_ok (mt_leaf_ok (mn_isto)) (mt_leaf_ok (mn_iload))))) (mt_node_ok (mt_node_ok (mt_leaf_ok (mn_aload)) (mt_leaf_ok (mn_get))) (mt_node_ok (mt_leaf_ok (mn_if2)) (mt_node_ok (mt_leaf_ok (mn_aload)) (mt_leaf_ok (mn_iload)))))) (mt_node_ok (mt_node_ok (mt_node_ok (mt_leaf_ok (rfl)) (mt_leaf_ok (mn_isto))) (mt_node_ok (mt_leaf_ok (mn_iload)) (mt_node_ok (mt_leaf_ok (mn_push)) (mt_leaf_ok (mn_if2))))) (mt_node_ok (mt_node_ok (mt_leaf_ok (mn_iload)) (mt_leaf_ok (mn_push))) (mt_node_ok (mt_leaf_ok (mn_if2)) (mt_node_ok (mt_leaf_ok (mn_aload)) (mt_leaf_ok (mn_iload))))))) (mt_node_ok (mt_node_ok (mt_node_ok (mt_node_ok (mt_leaf_ok (mn_push)) (mt_leaf_ok (rfl))) (mt_node_ok (mt_leaf_ok (mn_aload)) (mt_node_ok (mt_leaf_ok (mn_get)) (mt_leaf_ok (mn_if2))))) (mt_node_ok (mt_node_ok (mt_leaf_ok (mn_aload)) (mt_leaf_ok (mn_push))) (mt_node_ok (mt_leaf_ok (mn_aload)) (mt_node_ok (mt_leaf_ok (mn_get)) (mt_leaf_ok (mn_aload)))))) (mt_node_ok (mt_node_ok (mt_node_ok (mt_leaf_ok (mn_get)) (mt_leaf_ok (mn_iload))) (mt_node_ok (mt_leaf_ok (mn_bin)) (mt_node_ok (mt_leaf_ok (mn_ald)) (mt_leaf_ok (rfl))))) (mt_node_ok (mt_node_ok (mt_leaf_ok (trivial)) (mt_leaf_ok (mn_iinc))) (mt_node_ok (mt_leaf_ok (mn_goto)) (mt_node_ok (mt_leaf_ok (mn_push)) (mt_leaf_ok (trivial)))))))
theorem mz_190 {g : xe_G} : mt_all (mnP mS) (mb_190 g).2.1 := mt_node_ok ((mz_190_0 (g := g))) ((mz_190_1 (g := g)))
theorem mz_191_0 {g : xe_G} : mt_all (mnP mS) (mb_191_0 g) := mt_node_ok (mt_node_ok (mt_node_ok (mt_node_ok (mt_node_ok (mt_leaf_ok (mn_aload)) (mt_node_ok (mt_leaf_ok (mn_get)) (mt_leaf_ok (mn_isto)))) (mt_node_ok (mt_leaf_ok (mn_aload)) (mt_node_ok (mt_leaf_ok (mn_iload)) (mt_leaf_ok (rfl))))) (mt_node_ok (mt_node_ok (mt_leaf_ok (mn_isto)) (mt_node_ok (mt_leaf_ok (mn_iinc)) (mt_leaf_ok (mn_aload)))) (mt_node_ok (mt_leaf_ok (mn_get)) (mt_node_ok (mt_leaf_ok (mn_isto)) (mt_leaf_ok (mn_aload)))))) (mt_node_ok (mt_node_ok (mt_node_ok (mt_leaf_ok (mn_get)) (mt_node_ok (mt_leaf_ok (mn_push)) (mt_leaf_ok (mn_bin)))) (mt_node_ok (mt_leaf_ok (mn_if)) (mt_node_ok (mt_leaf_ok (mn_push)) (mt_leaf_ok (mn_goto))))) (mt_node_ok (mt_node_ok (mt_leaf_ok (mn_push)) (mt_node_ok (mt_leaf_ok (mn_isto)) (mt_leaf_ok (mn_push)))) (mt_node_ok (mt_leaf_ok (mn_isto)) (mt_node_ok (mt_leaf_ok (mn_iload)) (mt_leaf_ok (mn_iload))))))) (mt_node_ok (mt_node_ok (mt_node_ok (mt_node_ok (mt_leaf_ok (mn_if2)) (mt_node_ok (mt_leaf_ok (mn_aload)) (mt_leaf_ok (mn_iload)))) (mt_node_ok (mt_leaf_ok (rfl)) (mt_node_ok (mt_leaf_ok (mn_isto)) (mt_leaf_ok (mn_aload))))) (mt_node_ok (mt_node_ok (mt_leaf_ok (mn_aload)) (mt_node_ok (mt_leaf_ok (mn_iload)) (mt_leaf_ok (mn_push)))) (mt_node_ok (mt_leaf_ok (mn_bin)) (mt_node_ok (mt_leaf_ok (rfl)) (mt_leaf_ok (rfl)))))) (mt_node_ok (mt_node_ok (mt_node_ok (mt_leaf_ok (mn_push)) (mt_node_ok (mt_leaf_ok (mn_if2)) (mt_leaf_ok (mn_aload)))) (mt_node_ok (mt_leaf_ok (mn_aload)) (mt_node_ok (mt_leaf_ok (mn_iload)) (mt_leaf_ok (mn_push))))) (mt_node_ok (mt_node_ok (mt_leaf_ok (mn_bin)) (mt_node_ok (mt_leaf_ok (rfl)) (mt_leaf_ok (rfl)))) (mt_node_ok (mt_leaf_ok (mn_goto)) (mt_node_ok (mt_leaf_ok (mn_push)) (mt_leaf_ok (mn_isto)))))))
theorem mz_191_1 {g : xe_G} : mt_all (mnP mS) (mb_191_1 g) := mt_node_ok (mt_node_ok (mt_node_ok (mt_node_ok (mt_node_ok (mt_leaf_ok (mn_iload)) (mt_node_ok (mt_leaf_ok (mn_aload)) (mt_leaf_ok (mn_get)))) (mt_node_ok (mt_leaf_ok (mn_if2)) (mt_node_ok (mt_leaf_ok (mn_push)) (mt_leaf_ok (mn_goto))))) (mt_node_ok (mt_node_ok (mt_leaf_ok (mn_push)) (mt_node_ok (mt_leaf_ok (mn_isto)) (mt_leaf_ok (mn_iload)))) (mt_node_ok (mt_leaf_ok (mn_aload)) (mt_node_ok (mt_leaf_ok (mn_get)) (mt_leaf_ok (mn_if2)))))) (mt_node_ok (mt_node_ok (mt_node_ok (mt_leaf_ok (mn_push)) (mt_node_ok (mt_leaf_ok (mn_goto)) (mt_leaf_ok (mn_push)))) (mt_node_ok (mt_leaf_ok (mn_isto)) (mt_node_ok (mt_leaf_ok (mn_iload)) (mt_leaf_ok (mn_if))))) (mt_node_ok (mt_node_ok (mt_leaf_ok (mn_iload)) (mt_node_ok (mt_leaf_ok (mn_if)) (mt_leaf_ok (mn_iload)))) (mt_node_ok (mt_leaf_ok (mn_if)) (mt_node_ok (mt_leaf_ok (mn_iload)) (mt_leaf_ok (mn_if))))))) (mt_node_ok (mt_node_ok (mt_node_ok (mt_node_ok (mt_leaf_ok (mn_aload)) (mt_node_ok (mt_leaf_ok (mn_iload)) (mt_leaf_ok (mn_push)))) (mt_node_ok (mt_leaf_ok (rfl)) (mt_node_ok (mt_leaf_ok (mn_if)) (mt_leaf_ok (mn_aload))))) (mt_node_ok (mt_node_ok (mt_leaf_ok (mn_push)) (mt_node_ok (mt_leaf_ok (mn_iload)) (mt_leaf_ok (mn_push)))) (mt_node_ok (mt_leaf_ok (mn_bin)) (mt_node_ok (mt_leaf_ok (rfl)) (mt_leaf_ok (trivial)))))) (mt_node_ok (mt_node_ok (mt_node_ok (mt_leaf_ok (mn_iload)) (mt_node_ok (mt_leaf_ok (mn_if)) (mt_leaf_ok (mn_aload)))) (mt_node_ok (mt_leaf_ok (mn_iload)) (mt_node_ok (mt_leaf_ok (mn_iload)) (mt_leaf_ok (mn_iload))))) (mt_node_ok (mt_node_ok (mt_leaf_ok (rfl)) (mt_node_ok (mt_leaf_ok (mn_if)) (mt_leaf_ok (mn_aload)))) (mt_node_ok (mt_leaf_ok (mn_push)) (mt_node_ok (mt_leaf_ok (mn_iload)) (mt_leaf_ok (rfl)))))))
theorem mz_191_2 {g : xe_G} : mt_all (mnP mS) (mb_191_2 g) := mt_node_ok (mt_node_ok (mt_node_ok (mt_node_ok (mt_node_ok (mt_leaf_ok (trivial)) (mt_node_ok (mt_leaf_ok (mn_aload)) (mt_leaf_ok (mn_aload)))) (mt_node_ok (mt_leaf_ok (mn_iload)) (mt_node_ok (mt_leaf_ok (mn_push)) (mt_leaf_ok (mn_bin))))) (mt_node_ok (mt_node_ok (mt_leaf_ok (rfl)) (mt_node_ok (mt_leaf_ok (rfl)) (mt_leaf_ok (mn_push)))) (mt_node_ok (mt_leaf_ok (mn_if2)) (mt_node_ok (mt_leaf_ok (mn_aload)) (mt_leaf_ok (mn_aload)))))) (mt_node_ok (mt_node_ok (mt_node_ok (mt_leaf_ok (mn_iload)) (mt_node_ok (mt_leaf_ok (mn_push)) (mt_leaf_ok (mn_bin)))) (mt_node_ok (mt_leaf_ok (rfl)) (mt_node_ok (mt_leaf_ok (rfl)) (mt_leaf_ok (mn_goto))))) (mt_node_ok (mt_node_ok (mt_leaf_ok (mn_push)) (mt_node_ok (mt_leaf_ok (mn_isto)) (mt_leaf_ok (mn_iload)))) (mt_node_ok (mt_leaf_ok (mn_if)) (mt_node_ok (mt_leaf_ok (mn_aload)) (mt_leaf_ok (mn_iload))))))) (mt_node_ok (mt_node_ok (mt_node_ok (mt_node_ok (mt_leaf_ok (rfl)) (mt_node_ok (mt_leaf_ok (mn_if)) (mt_leaf_ok (mn_iload)))) (mt_node_ok (mt_leaf_ok (mn_if)) (mt_node_ok (mt_leaf_ok (mn_aload)) (mt_leaf_ok (mn_iload))))) (mt_node_ok (mt_node_ok (mt_leaf_ok (rfl)) (mt_node_ok (mt_leaf_ok (mn_if)) (mt_leaf_ok (mn_aload)))) (mt_node_ok (mt_leaf_ok (mn_iload)) (mt_node_ok (mt_leaf_ok (rfl)) (mt_leaf_ok (mn_iload)))))) (mt_node_ok (mt_node_ok (mt_node_ok (mt_leaf_ok (mn_push)) (mt_node_ok (mt_leaf_ok (mn_bin)) (mt_leaf_ok (mn_if)))) (mt_node_ok (mt_leaf_ok (mn_push)) (mt_node_ok (mt_leaf_ok (mn_goto)) (mt_leaf_ok (mn_push))))) (mt_node_ok (mt_node_ok (mt_leaf_ok (mn_bin)) (mt_node_ok (mt_leaf_ok (mn_push)) (mt_leaf_ok (mn_if2)))) (mt_node_ok (mt_leaf_ok (mn_aload)) (mt_node_ok (mt_leaf_ok (mn_push)) (mt_leaf_ok (mn_iload)))))))
theorem mz_191_3 {g : xe_G} : mt_all (mnP mS) (mb_191_3 g) := mt_node_ok (mt_node_ok (mt_node_ok (mt_node_ok (mt_node_ok (mt_leaf_ok (mn_push)) (mt_node_ok (mt_leaf_ok (mn_bin)) (mt_leaf_ok (rfl)))) (mt_node_ok (mt_leaf_ok (trivial)) (mt_node_ok (mt_leaf_ok (mn_aload)) (mt_leaf_ok (mn_get))))) (mt_node_ok (mt_node_ok (mt_leaf_ok (mn_isto)) (mt_node_ok (mt_leaf_ok (mn_aload)) (mt_leaf_ok (mn_get)))) (mt_node_ok (mt_leaf_ok (mn_iload)) (mt_node_ok (mt_leaf_ok (mn_iload)) (mt_leaf_ok (mn_ast)))))) (mt_node_ok (mt_node_ok (mt_node_ok (mt_leaf_ok (mn_aload)) (mt_node_ok (mt_leaf_ok (mn_get)) (mt_leaf_ok (mn_iload)))) (mt_node_ok (mt_leaf_ok (mn_iload)) (mt_node_ok (mt_leaf_ok (mn_ast)) (mt_leaf_ok (mn_aload))))) (mt_node_ok (mt_node_ok (mt_leaf_ok (mn_get)) (mt_node_ok (mt_leaf_ok (mn_iload)) (mt_leaf_ok (mn_iload)))) (mt_node_ok (mt_leaf_ok (mn_ast)) (mt_node_ok (mt_leaf_ok (mn_aload)) (mt_leaf_ok (mn_get))))))) (mt_node_ok (mt_node_ok (mt_node_ok (mt_node_ok (mt_leaf_ok (mn_iload)) (mt_node_ok (mt_leaf_ok (mn_push)) (mt_leaf_ok (mn_ast)))) (mt_node_ok (mt_leaf_ok (mn_aload)) (mt_node_ok (mt_leaf_ok (mn_get)) (mt_leaf_ok (mn_iload))))) (mt_node_ok (mt_node_ok (mt_leaf_ok (mn_push)) (mt_node_ok (mt_leaf_ok (mn_ast)) (mt_leaf_ok (mn_aload)))) (mt_node_ok (mt_leaf_ok (mn_get)) (mt_node_ok (mt_leaf_ok (mn_iload)) (mt_leaf_ok (mn_push)))))) (mt_node_ok (mt_node_ok (mt_node_ok (mt_leaf_ok (mn_ast)) (mt_node_ok (mt_leaf_ok (mn_aload)) (mt_leaf_ok (mn_get)))) (mt_node_ok (mt_leaf_ok (mn_iload)) (mt_node_ok (mt_leaf_ok (mn_push)) (mt_leaf_ok (mn_ast))))) (mt_node_ok (mt_node_ok (mt_leaf_ok (mn_aload)) (mt_node_ok (mt_leaf_ok (mn_get)) (mt_leaf_ok (mn_iload)))) (mt_node_ok (mt_leaf_ok (mn_push)) (mt_node_ok (mt_leaf_ok (mn_ast)) (mt_leaf_ok (mn_aload)))))))
theorem mz_191_4 {g : xe_G} : mt_all (mnP mS) (mb_191_4 g) := mt_node_ok (mt_node_ok (mt_node_ok (mt_node_ok (mt_node_ok (mt_leaf_ok (mn_get)) (mt_node_ok (mt_leaf_ok (mn_iload)) (mt_leaf_ok (mn_push)))) (mt_node_ok (mt_leaf_ok (mn_ast)) (mt_node_ok (mt_leaf_ok (mn_aload)) (mt_leaf_ok (mn_get))))) (mt_node_ok (mt_node_ok (mt_leaf_ok (mn_iload)) (mt_node_ok (mt_leaf_ok (mn_push)) (mt_leaf_ok (mn_ast)))) (mt_node_ok (mt_leaf_ok (mn_aload)) (mt_node_ok (mt_leaf_ok (mn_get)) (mt_leaf_ok (mn_iload)))))) (mt_node_ok (mt_node_ok (mt_node_ok (mt_leaf_ok (mn_aload)) (mt_node_ok (mt_leaf_ok (mn_iload)) (mt_leaf_ok (mn_push)))) (mt_node_ok (mt_leaf_ok (mn_bin)) (mt_node_ok (mt_leaf_ok (rfl)) (mt_leaf_ok (mn_ast))))) (mt_node_ok (mt_node_ok (mt_leaf_ok (mn_aload)) (mt_node_ok (mt_leaf_ok (mn_get)) (mt_leaf_ok (mn_iload)))) (mt_node_ok (mt_leaf_ok (mn_aload)) (mt_node_ok (mt_leaf_ok (mn_iload)) (mt_leaf_ok (mn_push))))))) (mt_node_ok (mt_node_ok (mt_node_ok (mt_node_ok (mt_leaf_ok (mn_bin)) (mt_node_ok (mt_leaf_ok (rfl)) (mt_leaf_ok (mn_ast)))) (mt_node_ok (mt_leaf_ok (mn_iload)) (mt_node_ok (mt_leaf_ok (mn_isto)) (mt_leaf_ok (mn_iload))))) (mt_node_ok (mt_node_ok (mt_leaf_ok (mn_iload)) (mt_node_ok (mt_leaf_ok (mn_if2)) (mt_leaf_ok (mn_aload)))) (mt_node_ok (mt_leaf_ok (mn_get)) (mt_node_ok (mt_leaf_ok (mn_iload)) (mt_leaf_ok (mn_ald)))))) (mt_node_ok (mt_node_ok (mt_node_ok (mt_leaf_ok (mn_iload)) (mt_node_ok (mt_leaf_ok (mn_if2)) (mt_leaf_ok (mn_aload)))) (mt_node_ok (mt_leaf_ok (mn_get)) (mt_node_ok (mt_leaf_ok (mn_iload)) (mt_leaf_ok (mn_ald))))) (mt_node_ok (mt_node_ok (mt_leaf_ok (mn_iload)) (mt_node_ok (mt_leaf_ok (mn_if2)) (mt_leaf_ok (mn_aload)))) (mt_node_ok (mt_leaf_ok (mn_push)) (mt_node_ok (mt_leaf_ok (mn_iload)) (mt_leaf_ok (rfl)))))))
theorem mz_191_5 {g : xe_G} : mt_all (mnP mS) (mb_191_5 g) := mt_node_ok (mt_node_ok (mt_node_ok (mt_node_ok (mt_node_ok (mt_leaf_ok (trivial)) (mt_node_ok (mt_leaf_ok (mn_iinc)) (mt_leaf_ok (mn_goto)))) (mt_node_ok (mt_leaf_ok (mn_aload)) (mt_node_ok (mt_leaf_ok (mn_dup)) (mt_leaf_ok (mn_get))))) (mt_node_ok (mt_node_ok (mt_leaf_ok (mn_push)) (mt_node_ok (mt_leaf_ok (mn_bin)) (mt_leaf_ok (mn_put)))) (mt_node_ok (mt_leaf_ok (mn_aload)) (mt_node_ok (mt_leaf_ok (mn_iload)) (mt_leaf_ok (mn_push)))))) (mt_node_ok (mt_node_ok (mt_node_ok (mt_leaf_ok (mn_bin)) (mt_node_ok (mt_leaf_ok (mn_push)) (mt_leaf_ok (mn_iload)))) (mt_node_ok (mt_leaf_ok (rfl)) (mt_node_ok (mt_leaf_ok (mn_isto)) (mt_leaf_ok (mn_iload))))) (mt_node_ok (mt_node_ok (mt_leaf_ok (mn_if)) (mt_node_ok (mt_leaf_ok (mn_push)) (mt_leaf_ok (trivial)))) (mt_node_ok (mt_leaf_ok (mn_iload)) (mt_node_ok (mt_leaf_ok (mn_push)) (mt_leaf_ok (mn_bin))))))) (mt_node_ok (mt_node_ok (mt_node_ok (mt_node_ok (mt_leaf_ok (mn_if)) (mt_node_ok (mt_leaf_ok (mn_iload)) (mt_leaf_ok (mn_if)))) (mt_node_ok (mt_leaf_ok (mn_push)) (mt_node_ok (mt_leaf_ok (mn_goto)) (mt_leaf_ok (mn_push))))) (mt_node_ok (mt_node_ok (mt_leaf_ok (mn_isto)) (mt_node_ok (mt_leaf_ok (mn_aload)) (mt_leaf_ok (mn_get)))) (mt_node_ok (mt_leaf_ok (mn_iload)) (mt_node_ok (mt_leaf_ok (mn_ald)) (mt_leaf_ok (mn_if)))))) (mt_node_ok (mt_node_ok (mt_node_ok (mt_leaf_ok (mn_push)) (mt_node_ok (mt_leaf_ok (mn_goto)) (mt_leaf_ok (mn_push)))) (mt_node_ok (mt_leaf_ok (mn_iload)) (mt_node_ok (mt_leaf_ok (mn_if2)) (mt_leaf_ok (mn_aload))))) (mt_node_ok (mt_node_ok (mt_leaf_ok (mn_push)) (mt_node_ok (mt_leaf_ok (mn_iload)) (mt_leaf_ok (rfl)))) (mt_node_ok (mt_leaf_ok (trivial)) (mt_node_ok (mt_leaf_ok (mn_iload)) (mt_leaf_ok (mn_isto)))))))
theorem mz_191_6 {g : xe_G} : mt_all (mnP mS) (mb_191_6 g) := mt_node_ok (mt_node_ok (mt_leaf_ok (mn_iinc)) (mt_leaf_ok (mn_goto))) (mt_node_ok (mt_leaf_ok (mn_push)) (mt_leaf_ok (trivial)))
theorem mz_191 {g : xe_G} : mt_all (mnP mS) (mb_191 g).2.1 := mt_node_ok (mt_node_ok ((mz_191_0 (g := g))) (mt_node_ok ((mz_191_1 (g := g))) ((mz_191_2 (g := g))))) (mt_node_ok (mt_node_ok ((mz_191_3 (g := g))) ((mz_191_4 (g := g)))) (mt_node_ok ((mz_191_5 (g := g))) ((mz_191_6 (g := g)))))
theorem mz_192_0 {g : xe_G} : mt_all (mnP mS) (mb_192_0 g) := mt_node_ok (mt_node_ok (mt_node_ok (mt_node_ok (mt_node_ok (mt_leaf_ok (mn_push)) (mt_node_ok (mt_leaf_ok (mn_isto)) (mt_leaf_ok (mn_iload)))) (mt_node_ok (mt_leaf_ok (mn_aload)) (mt_node_ok (mt_leaf_ok (mn_get)) (mt_leaf_ok (mn_if2))))) (mt_node_ok (mt_node_ok (mt_leaf_ok (mn_aload)) (mt_node_ok (mt_leaf_ok (mn_get)) (mt_leaf_ok (mn_aload)))) (mt_node_ok (mt_leaf_ok (mn_get)) (mt_node_ok (mt_leaf_ok (mn_iload)) (mt_leaf_ok (mn_bin)))))) (mt_node_ok (mt_node_ok (mt_node_ok (mt_leaf_ok (mn_ald)) (mt_node_ok (mt_leaf_ok (mn_isto)) (mt_leaf_ok (mn_iload)))) (mt_node_ok (mt_leaf_ok (mn_if)) (mt_node_ok (mt_leaf_ok (mn_goto)) (mt_leaf_ok (mn_aload))))) (mt_node_ok (mt_node_ok (mt_leaf_ok (mn_iload)) (mt_node_ok (mt_leaf_ok (rfl)) (mt_leaf_ok (mn_isto)))) (mt_node_ok (mt_leaf_ok (mn_aload)) (mt_node_ok (mt_leaf_ok (mn_iload)) (mt_leaf_ok (mn_iload))))))) (mt_node_ok (mt_node_ok (mt_node_ok (mt_node_ok (mt_leaf_ok (mn_push)) (mt_node_ok (mt_leaf_ok (rfl)) (mt_leaf_ok (mn_if)))) (mt_node_ok (mt_leaf_ok (mn_aload)) (mt_node_ok (mt_leaf_ok (mn_push)) (mt_leaf_ok (mn_iload))))) (mt_node_ok (mt_node_ok (mt_leaf_ok (rfl)) (mt_node_ok (mt_leaf_ok (trivial)) (mt_leaf_ok (mn_iload)))) (mt_node_ok (mt_leaf_ok (mn_push)) (mt_node_ok (mt_leaf_ok (mn_if2)) (mt_leaf_ok (mn_aload)))))) (mt_node_ok (mt_node_ok (mt_node_ok (mt_leaf_ok (mn_aload)) (mt_node_ok (mt_leaf_ok (mn_aload)) (mt_leaf_ok (mn_iload)))) (mt_node_ok (mt_leaf_ok (mn_push)) (mt_node_ok (mt_leaf_ok (rfl)) (mt_leaf_ok (rfl))))) (mt_node_ok (mt_node_ok (mt_leaf_ok (rfl)) (mt_node_ok (mt_leaf_ok (mn_if)) (mt_leaf_ok (mn_aload)))) (mt_node_ok (mt_leaf_ok (mn_push)) (mt_node_ok (mt_leaf_ok (mn_iload)) (mt_leaf_ok (rfl)))))))
theorem mz_192_1 {g : xe_G} : mt_all (mnP mS) (mb_192_1 g) := mt_node_ok (mt_node_ok (mt_node_ok (mt_node_ok (mt_node_ok (mt_leaf_ok (trivial)) (mt_node_ok (mt_leaf_ok (mn_iload)) (mt_leaf_ok (mn_push)))) (mt_node_ok (mt_leaf_ok (mn_if2)) (mt_node_ok (mt_leaf_ok (mn_aload)) (mt_leaf_ok (mn_aload))))) (mt_node_ok (mt_node_ok (mt_leaf_ok (mn_aload)) (mt_node_ok (mt_leaf_ok (mn_iload)) (mt_leaf_ok (mn_push)))) (mt_node_ok (mt_leaf_ok (rfl)) (mt_node_ok (mt_leaf_ok (rfl)) (mt_leaf_ok (mn_push)))))) (mt_node_ok (mt_node_ok (mt_node_ok (mt_leaf_ok (rfl)) (mt_node_ok (mt_leaf_ok (mn_if)) (mt_leaf_ok (mn_aload)))) (mt_node_ok (mt_leaf_ok (mn_aload)) (mt_node_ok (mt_leaf_ok (mn_aload)) (mt_leaf_ok (mn_iload))))) (mt_node_ok (mt_node_ok (mt_leaf_ok (mn_push)) (mt_node_ok (mt_leaf_ok (rfl)) (mt_leaf_ok (rfl)))) (mt_node_ok (mt_leaf_ok (rfl)) (mt_node_ok (mt_leaf_ok (mn_if)) (mt_leaf_ok (mn_aload))))))) (mt_node_ok (mt_node_ok (mt_node_ok (mt_node_ok (mt_leaf_ok (mn_aload)) (mt_node_ok (mt_leaf_ok (mn_aload)) (mt_leaf_ok (mn_iload)))) (mt_node_ok (mt_leaf_ok (mn_push)) (mt_node_ok (mt_leaf_ok (rfl)) (mt_leaf_ok (rfl))))) (mt_node_ok (mt_node_ok (mt_leaf_ok (rfl)) (mt_node_ok (mt_leaf_ok (mn_if)) (mt_leaf_ok (mn_aload)))) (mt_node_ok (mt_leaf_ok (mn_push)) (mt_node_ok (mt_leaf_ok (mn_iload)) (mt_leaf_ok (rfl)))))) (mt_node_ok (mt_node_ok (mt_node_ok (mt_leaf_ok (trivial)) (mt_node_ok (mt_leaf_ok (mn_iload)) (mt_leaf_ok (mn_push)))) (mt_node_ok (mt_leaf_ok (mn_if2)) (mt_node_ok (mt_leaf_ok (mn_iload)) (mt_leaf_ok (mn_push))))) (mt_node_ok (mt_node_ok (mt_leaf_ok (mn_if2)) (mt_node_ok (mt_leaf_ok (mn_aload)) (mt_leaf_ok (mn_aload)))) (mt_node_ok (mt_leaf_ok (mn_aload)) (mt_node_ok (mt_leaf_ok (mn_iload)) (mt_leaf_ok (mn_push)))))))
theorem mz_192_2 {g : xe_G} : mt_all (mnP mS) (mb_192_2 g) := mt_node_ok (mt_node_ok (mt_node_ok (mt_node_ok (mt_node_ok (mt_leaf_ok (rfl)) (mt_node_ok (mt_leaf_ok (mn_push)) (mt_leaf_ok (rfl)))) (mt_node_ok (mt_leaf_ok (rfl)) (mt_node_ok (mt_leaf_ok (mn_isto)) (mt_leaf_ok (mn_aload))))) (mt_node_ok (mt_node_ok (mt_leaf_ok (mn_aload)) (mt_node_ok (mt_leaf_ok (mn_aload)) (mt_leaf_ok (mn_iload)))) (mt_node_ok (mt_leaf_ok (mn_push)) (mt_node_ok (mt_leaf_ok (rfl)) (mt_leaf_ok (mn_push)))))) (mt_node_ok (mt_node_ok (mt_node_ok (mt_leaf_ok (rfl)) (mt_node_ok (mt_leaf_ok (rfl)) (mt_leaf_ok (mn_isto)))) (mt_node_ok (mt_leaf_ok (mn_aload)) (mt_node_ok (mt_leaf_ok (mn_iload)) (mt_leaf_ok (rfl))))) (mt_node_ok (mt_node_ok (mt_leaf_ok (mn_isto)) (mt_node_ok (mt_leaf_ok (mn_iload)) (mt_leaf_ok (mn_push)))) (mt_node_ok (mt_leaf_ok (mn_if2)) (mt_node_ok (mt_leaf_ok (mn_aload)) (mt_leaf_ok (mn_iload))))))) (mt_node_ok (mt_node_ok (mt_node_ok (mt_node_ok (mt_leaf_ok (rfl)) (mt_node_ok (mt_leaf_ok (mn_goto)) (mt_leaf_ok (mn_aload)))) (mt_node_ok (mt_leaf_ok (mn_iload)) (mt_node_ok (mt_leaf_ok (rfl)) (mt_leaf_ok (mn_if))))) (mt_node_ok (mt_node_ok (mt_leaf_ok (mn_iload)) (mt_node_ok (mt_leaf_ok (mn_if)) (mt_leaf_ok (mn_iload)))) (mt_node_ok (mt_leaf_ok (mn_push)) (mt_node_ok (mt_leaf_ok (mn_if2)) (mt_leaf_ok (mn_iload)))))) (mt_node_ok (mt_node_ok (mt_node_ok (mt_leaf_ok (mn_aload)) (mt_node_ok (mt_leaf_ok (mn_get)) (mt_leaf_ok (mn_if2)))) (mt_node_ok (mt_leaf_ok (mn_aload)) (mt_node_ok (mt_leaf_ok (mn_iload)) (mt_leaf_ok (rfl))))) (mt_node_ok (mt_node_ok (mt_leaf_ok (mn_if)) (mt_node_ok (mt_leaf_ok (mn_push)) (mt_leaf_ok (mn_goto)))) (mt_node_ok (mt_leaf_ok (mn_push)) (mt_node_ok (mt_leaf_ok (mn_isto)) (mt_leaf_ok (mn_iload)))))))
theorem mz_192_3 {g : xe_G} : mt_all (mnP mS) (mb_192_3 g) := mt_node_ok (mt_node_ok (mt_node_ok (mt_node_ok (mt_node_ok (mt_leaf_ok (mn_if)) (mt_node_ok (mt_leaf_ok (mn_aload)) (mt_leaf_ok (mn_push)))) (mt_node_ok (mt_leaf_ok (mn_iload)) (mt_node_ok (mt_leaf_ok (rfl)) (mt_leaf_ok (trivial))))) (mt_node_ok (mt_node_ok (mt_leaf_ok (mn_iload)) (mt_node_ok (mt_leaf_ok (mn_push)) (mt_leaf_ok (mn_if2)))) (mt_node_ok (mt_leaf_ok (mn_aload)) (mt_node_ok (mt_leaf_ok (mn_iload)) (mt_leaf_ok (rfl)))))) (mt_node_ok (mt_node_ok (mt_node_ok (mt_leaf_ok (mn_if)) (mt_node_ok (mt_leaf_ok (mn_aload)) (mt_leaf_ok (mn_push)))) (mt_node_ok (mt_leaf_ok (mn_iload)) (mt_node_ok (mt_leaf_ok (rfl)) (mt_leaf_ok (trivial))))) (mt_node_ok (mt_node_ok (mt_leaf_ok (mn_iload)) (mt_node_ok (mt_leaf_ok (mn_push)) (mt_leaf_ok (mn_if2)))) (mt_node_ok (mt_leaf_ok (mn_aload)) (mt_node_ok (mt_leaf_ok (mn_aload)) (mt_leaf_ok (mn_aload))))))) (mt_node_ok (mt_node_ok (mt_node_ok (mt_node_ok (mt_leaf_ok (mn_iload)) (mt_node_ok (mt_leaf_ok (mn_push)) (mt_leaf_ok (rfl)))) (mt_node_ok (mt_leaf_ok (rfl)) (mt_node_ok (mt_leaf_ok (rfl)) (mt_leaf_ok (mn_if))))) (mt_node_ok (mt_node_ok (mt_leaf_ok (mn_aload)) (mt_node_ok (mt_leaf_ok (mn_push)) (mt_leaf_ok (mn_iload)))) (mt_node_ok (mt_leaf_ok (rfl)) (mt_node_ok (mt_leaf_ok (trivial)) (mt_leaf_ok (mn_iload)))))) (mt_node_ok (mt_node_ok (mt_node_ok (mt_leaf_ok (mn_push)) (mt_node_ok (mt_leaf_ok (mn_if2)) (mt_leaf_ok (mn_iload)))) (mt_node_ok (mt_leaf_ok (mn_push)) (mt_node_ok (mt_leaf_ok (mn_if2)) (mt_leaf_ok (mn_aload))))) (mt_node_ok (mt_node_ok (mt_leaf_ok (mn_aload)) (mt_node_ok (mt_leaf_ok (mn_aload)) (mt_leaf_ok (mn_iload)))) (mt_node_ok (mt_leaf_ok (mn_push)) (mt_node_ok (mt_leaf_ok (rfl)) (mt_leaf_ok (mn_push)))))))
theorem mz_192_4 {g : xe_G} : mt_all (mnP mS) (mb_192_4 g) := mt_node_ok (mt_node_ok (mt_node_ok (mt_node_ok (mt_node_ok (mt_leaf_ok (rfl)) (mt_leaf_ok (rfl))) (mt_node_ok (mt_leaf_ok (mn_isto)) (mt_leaf_ok (mn_aload)))) (mt_node_ok (mt_node_ok (mt_leaf_ok (mn_aload)) (mt_leaf_ok (mn_aload))) (mt_node_ok (mt_leaf_ok (mn_iload)) (mt_node_ok (mt_leaf_ok (mn_push)) (mt_leaf_ok (rfl)))))) (mt_node_ok (mt_node_ok (mt_node_ok (mt_leaf_ok (mn_push)) (mt_leaf_ok (rfl))) (mt_node_ok (mt_leaf_ok (rfl)) (mt_node_ok (mt_leaf_ok (mn_isto)) (mt_leaf_ok (mn_aload))))) (mt_node_ok (mt_node_ok (mt_leaf_ok (mn_iload)) (mt_leaf_ok (rfl))) (mt_node_ok (mt_leaf_ok (mn_if)) (mt_node_ok (mt_leaf_ok (mn_iload)) (mt_leaf_ok (mn_push))))))) (mt_node_ok (mt_node_ok (mt_node_ok (mt_node_ok (mt_leaf_ok (mn_if2)) (mt_leaf_ok (mn_aload))) (mt_node_ok (mt_leaf_ok (mn_iload)) (mt_leaf_ok (rfl)))) (mt_node_ok (mt_node_ok (mt_leaf_ok (mn_if)) (mt_leaf_ok (mn_goto))) (mt_node_ok (mt_leaf_ok (mn_aload)) (mt_node_ok (mt_leaf_ok (mn_iload)) (mt_leaf_ok (rfl)))))) (mt_node_ok (mt_node_ok (mt_node_ok (mt_leaf_ok (mn_if)) (mt_leaf_ok (mn_aload))) (mt_node_ok (mt_leaf_ok (mn_push)) (mt_node_ok (mt_leaf_ok (mn_iload)) (mt_leaf_ok (rfl))))) (mt_node_ok (mt_node_ok (mt_leaf_ok (trivial)) (mt_leaf_ok (mn_iinc))) (mt_node_ok (mt_leaf_ok (mn_goto)) (mt_node_ok (mt_leaf_ok (mn_push)) (mt_leaf_ok (trivial)))))))
theorem mz_192 {g : xe_G} : mt_all (mnP mS) (mb_192 g).2.1 := mt_node_ok (mt_node_ok ((mz_192_0 (g := g))) ((mz_192_1 (g := g)))) (mt_node_ok ((mz_192_2 (g := g))) (mt_node_ok ((mz_192_3 (g := g))) ((mz_192_4 (g := g)))))
theorem mz_193_0 {g : xe_G} : mt_all (mnP mS) (mb_193_0 g) := mt_node_ok (mt_node_ok (mt_leaf_ok (mn_aload)) (mt_node_ok (mt_leaf_ok (mn_aload)) (mt_leaf_ok (mn_iload)))) (mt_node_ok (mt_node_ok (mt_leaf_ok (mn_push)) (mt_leaf_ok (rfl))) (mt_node_ok (mt_leaf_ok (rfl)) (mt_leaf_ok (trivial))))
theorem mz_193 {g : xe_G} : mt_all (mnP mS) (mb_193 g).2.1 := (mz_193_0 (g := g))
theorem mz_194_0 {g : xe_G} : mt_all (mnP mS) (mb_194_0 g) := mt_node_ok (mt_node_ok (mt_node_ok (mt_node_ok (mt_leaf_ok (mn_aload)) (mt_node_ok (mt_leaf_ok (mn_iload)) (mt_leaf_ok (rfl)))) (mt_node_ok (mt_node_ok (mt_leaf_ok (mn_if)) (mt_leaf_ok (mn_aload))) (mt_node_ok (mt_leaf_ok (mn_iload)) (mt_leaf_ok (mn_push))))) (mt_node_ok (mt_node_ok (mt_node_ok (mt_leaf_ok (rfl)) (mt_leaf_ok (mn_push))) (mt_node_ok (mt_leaf_ok (mn_if2)) (mt_leaf_ok (mn_aload)))) (mt_node_ok (mt_node_ok (mt_leaf_ok (mn_iload)) (mt_leaf_ok (mn_push))) (mt_node_ok (mt_leaf_ok (rfl)) (mt_leaf_ok (mn_aload)))))) (mt_node_ok (mt_node_ok (mt_node_ok (mt_leaf_ok (mn_iload)) (mt_node_ok (mt_leaf_ok (rfl)) (mt_leaf_ok (mn_if2)))) (mt_node_ok (mt_node_ok (mt_leaf_ok (mn_push)) (mt_leaf_ok (mn_goto))) (mt_node_ok (mt_leaf_ok (mn_push)) (mt_leaf_ok (mn_goto))))) (mt_node_ok (mt_node_ok (mt_node_ok (mt_leaf_ok (mn_aload)) (mt_leaf_ok (mn_iload))) (mt_node_ok (mt_leaf_ok (mn_push)) (mt_leaf_ok (mn_aload)))) (mt_node_ok (mt_node_ok (mt_leaf_ok (mn_iload)) (mt_leaf_ok (rfl))) (mt_node_ok (mt_leaf_ok (rfl)) (mt_leaf_ok (trivial))))))
theorem mz_194 {g : xe_G} : mt_all (mnP mS) (mb_194 g).2.1 := (mz_194_0 (g := g))
theorem mz_195_0 {g : xe_G} : mt_all (mnP mS) (mb_195_0 g) := mt_node_ok (mt_node_ok (mt_node_ok (mt_node_ok (mt_node_ok (mt_leaf_ok (mn_aload)) (mt_leaf_ok (mn_push))) (mt_node_ok (mt_leaf_ok (mn_put)) (mt_node_ok (mt_leaf_ok (mn_aload)) (mt_leaf_ok (mn_push))))) (mt_node_ok (mt_node_ok (mt_leaf_ok (mn_put)) (mt_leaf_ok (mn_push))) (mt_node_ok (mt_leaf_ok (mn_isto)) (mt_node_ok (mt_leaf_ok (mn_iload)) (mt_leaf_ok (mn_push)))))) (mt_node_ok (mt_node_ok (mt_node_ok (mt_leaf_ok (mn_if2)) (mt_leaf_ok (mn_aload))) (mt_node_ok (mt_leaf_ok (mn_get)) (mt_node_ok (mt_leaf_ok (mn_iload)) (mt_leaf_ok (mn_push))))) (mt_node_ok (mt_node_ok (mt_leaf_ok (mn_ast)) (mt_node_ok (mt_leaf_ok (mn_iinc)) (mt_leaf_ok (mn_goto)))) (mt_node_ok (mt_leaf_ok (mn_aload)) (mt_node_ok (mt_leaf_ok (mn_aload)) (mt_leaf_ok (mn_push))))))) (mt_node_ok (mt_node_ok (mt_node_ok (mt_node_ok (mt_leaf_ok (rfl)) (mt_leaf_ok (mn_put))) (mt_node_ok (mt_leaf_ok (mn_aload)) (mt_node_ok (mt_leaf_ok (mn_aload)) (mt_leaf_ok (mn_push))))) (mt_node_ok (mt_node_ok (mt_leaf_ok (rfl)) (mt_node_ok (mt_leaf_ok (mn_put)) (mt_leaf_ok (mn_aload)))) (mt_node_ok (mt_leaf_ok (mn_aload)) (mt_node_ok (mt_leaf_ok (mn_push)) (mt_leaf_ok (rfl)))))) (mt_node_ok (mt_node_ok (mt_node_ok (mt_leaf_ok (mn_put)) (mt_leaf_ok (mn_aload))) (mt_node_ok (mt_leaf_ok (mn_push)) (mt_node_ok (mt_leaf_ok (mn_put)) (mt_leaf_ok (mn_aload))))) (mt_node_ok (mt_node_ok (mt_leaf_ok (mn_push)) (mt_node_ok (mt_leaf_ok (mn_put)) (mt_leaf_ok (mn_aload)))) (mt_node_ok (mt_leaf_ok (mn_push)) (mt_node_ok (mt_leaf_ok (mn_put)) (mt_leaf_ok (trivial)))))))
theorem mz_195 {g : xe_G} : mt_all (mnP mS) (mb_195 g).2.1 := (mz_195_0 (g := g))
theorem mz_196_0 {g : xe_G} : mt_all (mnP mS) (mb_196_0 g) := mt_node_ok (mt_node_ok (mt_node_ok (mt_node_ok (mt_node_ok (mt_leaf_ok (mn_iload)) (mt_node_ok (mt_leaf_ok (mn_iload)) (mt_leaf_ok (mn_bin)))) (mt_node_ok (mt_leaf_ok (mn_push)) (mt_node_ok (mt_leaf_ok (mn_if2)) (mt_leaf_ok (mn_push))))) (mt_node_ok (mt_node_ok (mt_leaf_ok (trivial)) (mt_node_ok (mt_leaf_ok (mn_aload)) (mt_leaf_ok (mn_iload)))) (mt_node_ok (mt_leaf_ok (mn_push)) (mt_node_ok (mt_leaf_ok (mn_bin)) (mt_leaf_ok (rfl)))))) (mt_node_ok (mt_node_ok (mt_node_ok (mt_leaf_ok (mn_lsto)) (mt_node_ok (mt_leaf_ok (mn_lload)) (mt_leaf_ok (mn_iload)))) (mt_node_ok (mt_leaf_ok (mn_iload)) (mt_node_ok (mt_leaf_ok (mn_bin)) (mt_leaf_ok (mn_push))))) (mt_node_ok (mt_node_ok (mt_leaf_ok (mn_bin)) (mt_node_ok (mt_leaf_ok (mn_i2l)) (mt_leaf_ok (mn_lcmp)))) (mt_node_ok (mt_leaf_ok (mn_if)) (mt_node_ok (mt_leaf_ok (mn_push)) (mt_leaf_ok (trivial))))))) (mt_node_ok (mt_node_ok (mt_node_ok (mt_node_ok (mt_leaf_ok (mn_iload)) (mt_node_ok (mt_leaf_ok (mn_push)) (mt_leaf_ok (mn_bin)))) (mt_node_ok (mt_leaf_ok (mn_lload)) (mt_node_ok (mt_leaf_ok (mn_l2i)) (mt_leaf_ok (mn_bin))))) (mt_node_ok (mt_node_ok (mt_leaf_ok (mn_isto)) (mt_node_ok (mt_leaf_ok (mn_iload)) (mt_leaf_ok (mn_push)))) (mt_node_ok (mt_leaf_ok (mn_bin)) (mt_node_ok (mt_leaf_ok (mn_iload)) (mt_leaf_ok (mn_if2)))))) (mt_node_ok (mt_node_ok (mt_node_ok (mt_leaf_ok (mn_push)) (mt_node_ok (mt_leaf_ok (trivial)) (mt_leaf_ok (mn_aload)))) (mt_node_ok (mt_leaf_ok (mn_iload)) (mt_node_ok (mt_leaf_ok (rfl)) (mt_leaf_ok (mn_isto))))) (mt_node_ok (mt_node_ok (mt_leaf_ok (mn_iload)) (mt_node_ok (mt_leaf_ok (mn_push)) (mt_leaf_ok (mn_bin)))) (mt_node_ok (mt_leaf_ok (mn_isto)) (mt_node_ok (mt_leaf_ok (mn_iload)) (mt_leaf_ok (mn_push)))))))
theorem mz_196_1 {g : xe_G} : mt_all (mnP mS) (mb_196_1 g) := mt_node_ok (mt_node_ok (mt_node_ok (mt_node_ok (mt_node_ok (mt_leaf_ok (mn_iload)) (mt_node_ok (mt_leaf_ok (mn_bin)) (mt_leaf_ok (mn_bin)))) (mt_node_ok (mt_leaf_ok (mn_isto)) (mt_node_ok (mt_leaf_ok (mn_iload)) (mt_leaf_ok (mn_push))))) (mt_node_ok (mt_node_ok (mt_leaf_ok (mn_bin)) (mt_node_ok (mt_leaf_ok (mn_iload)) (mt_leaf_ok (mn_if2)))) (mt_node_ok (mt_leaf_ok (mn_push)) (mt_node_ok (mt_leaf_ok (trivial)) (mt_leaf_ok (mn_iload)))))) (mt_node_ok (mt_node_ok (mt_node_ok (mt_leaf_ok (mn_isto)) (mt_node_ok (mt_leaf_ok (mn_aload)) (mt_leaf_ok (mn_iload)))) (mt_node_ok (mt_leaf_ok (rfl)) (mt_node_ok (mt_leaf_ok (mn_isto)) (mt_leaf_ok (mn_iinc))))) (mt_node_ok (mt_node_ok (mt_leaf_ok (mn_push)) (mt_node_ok (mt_leaf_ok (mn_isto)) (mt_leaf_ok (mn_iload)))) (mt_node_ok (mt_leaf_ok (mn_iload)) (mt_node_ok (mt_leaf_ok (mn_if2)) (mt_leaf_ok (mn_iload))))))) (mt_node_ok (mt_node_ok (mt_node_ok (mt_node_ok (mt_leaf_ok (mn_push)) (mt_node_ok (mt_leaf_ok (mn_bin)) (mt_leaf_ok (mn_iload)))) (mt_node_ok (mt_leaf_ok (mn_if2)) (mt_node_ok (mt_leaf_ok (mn_aload)) (mt_leaf_ok (mn_iload))))) (mt_node_ok (mt_node_ok (mt_leaf_ok (mn_push)) (mt_node_ok (mt_leaf_ok (mn_bin)) (mt_leaf_ok (rfl)))) (mt_node_ok (mt_leaf_ok (mn_iload)) (mt_node_ok (mt_leaf_ok (mn_iload)) (mt_leaf_ok (mn_bin)))))) (mt_node_ok (mt_node_ok (mt_node_ok (mt_leaf_ok (mn_push)) (mt_node_ok (mt_leaf_ok (mn_bin)) (mt_leaf_ok (mn_i2l)))) (mt_node_ok (mt_leaf_ok (mn_lcmp)) (mt_node_ok (mt_leaf_ok (mn_if)) (mt_leaf_ok (mn_push))))) (mt_node_ok (mt_node_ok (mt_leaf_ok (trivial)) (mt_node_ok (mt_leaf_ok (mn_iload)) (mt_leaf_ok (mn_push)))) (mt_node_ok (mt_leaf_ok (mn_aload)) (mt_node_ok (mt_leaf_ok (mn_iload)) (mt_leaf_ok (mn_push)))))))
theorem mz_196_2 {g : xe_G} : mt_all (mnP mS) (mb_196_2 g) := mt_node_ok (mt_node_ok (mt_node_ok (mt_node_ok (mt_node_ok (mt_leaf_ok (mn_bin)) (mt_node_ok (mt_leaf_ok (rfl)) (mt_leaf_ok (mn_l2i)))) (mt_node_ok (mt_leaf_ok (mn_bin)) (mt_node_ok (mt_leaf_ok (mn_bin)) (mt_leaf_ok (mn_isto))))) (mt_node_ok (mt_node_ok (mt_leaf_ok (mn_iinc)) (mt_node_ok (mt_leaf_ok (mn_goto)) (mt_leaf_ok (mn_iload)))) (mt_node_ok (mt_leaf_ok (mn_iload)) (mt_node_ok (mt_leaf_ok (mn_if2)) (mt_leaf_ok (mn_push)))))) (mt_node_ok (mt_node_ok (mt_node_ok (mt_leaf_ok (trivial)) (mt_node_ok (mt_leaf_ok (mn_lload)) (mt_leaf_ok (mn_push)))) (mt_node_ok (mt_leaf_ok (mn_lcmp)) (mt_node_ok (mt_leaf_ok (mn_if)) (mt_leaf_ok (mn_lload))))) (mt_node_ok (mt_node_ok (mt_leaf_ok (mn_push)) (mt_node_ok (mt_leaf_ok (mn_lcmp)) (mt_leaf_ok (mn_if)))) (mt_node_ok (mt_leaf_ok (mn_push)) (mt_node_ok (mt_leaf_ok (trivial)) (mt_leaf_ok (mn_aload))))))) (mt_node_ok (mt_node_ok (mt_node_ok (mt_node_ok (mt_leaf_ok (mn_aload)) (mt_node_ok (mt_leaf_ok (mn_get)) (mt_leaf_ok (mn_iload)))) (mt_node_ok (mt_leaf_ok (mn_ald)) (mt_node_ok (mt_leaf_ok (rfl)) (mt_leaf_ok (mn_aload))))) (mt_node_ok (mt_node_ok (mt_leaf_ok (mn_get)) (mt_node_ok (mt_leaf_ok (mn_iload)) (mt_leaf_ok (mn_ald)))) (mt_node_ok (mt_leaf_ok (mn_push)) (mt_node_ok (mt_leaf_ok (mn_bin)) (mt_leaf_ok (mn_if)))))) (mt_node_ok (mt_node_ok (mt_node_ok (mt_leaf_ok (mn_push)) (mt_node_ok (mt_leaf_ok (mn_goto)) (mt_leaf_ok (mn_push)))) (mt_node_ok (mt_leaf_ok (mn_bin)) (mt_node_ok (mt_leaf_ok (mn_isto)) (mt_leaf_ok (mn_aload))))) (mt_node_ok (mt_node_ok (mt_leaf_ok (mn_iload)) (mt_node_ok (mt_leaf_ok (mn_push)) (mt_leaf_ok (mn_bin)))) (mt_node_ok (mt_leaf_ok (rfl)) (mt_node_ok (mt_leaf_ok (mn_iload)) (mt_leaf_ok (mn_if2)))))))
theorem mz_196_3 {g : xe_G} : mt_all (mnP mS) (mb_196_3 g) := mt_node_ok (mt_node_ok (mt_node_ok (mt_node_ok (mt_node_ok (mt_leaf_ok (mn_push)) (mt_node_ok (mt_leaf_ok (trivial)) (mt_leaf_ok (mn_push)))) (mt_node_ok (mt_leaf_ok (mn_isto)) (mt_node_ok (mt_leaf_ok (mn_iload)) (mt_leaf_ok (mn_iload))))) (mt_node_ok (mt_node_ok (mt_leaf_ok (mn_if2)) (mt_node_ok (mt_leaf_ok (mn_iload)) (mt_leaf_ok (mn_push)))) (mt_node_ok (mt_leaf_ok (mn_iload)) (mt_node_ok (mt_leaf_ok (mn_bin)) (mt_leaf_ok (mn_bin)))))) (mt_node_ok (mt_node_ok (mt_node_ok (mt_leaf_ok (mn_isto)) (mt_node_ok (mt_leaf_ok (mn_aload)) (mt_leaf_ok (mn_iload)))) (mt_node_ok (mt_leaf_ok (rfl)) (mt_node_ok (mt_leaf_ok (mn_aload)) (mt_leaf_ok (mn_iload))))) (mt_node_ok (mt_node_ok (mt_leaf_ok (mn_push)) (mt_node_ok (mt_leaf_ok (mn_bin)) (mt_leaf_ok (rfl)))) (mt_node_ok (mt_leaf_ok (mn_if2)) (mt_node_ok (mt_leaf_ok (mn_aload)) (mt_leaf_ok (mn_iload))))))) (mt_node_ok (mt_node_ok (mt_node_ok (mt_node_ok (mt_leaf_ok (mn_push)) (mt_node_ok (mt_leaf_ok (mn_bin)) (mt_leaf_ok (rfl)))) (mt_node_ok (mt_leaf_ok (mn_i2l)) (mt_node_ok (mt_leaf_ok (mn_lload)) (mt_leaf_ok (mn_lcmp))))) (mt_node_ok (mt_node_ok (mt_leaf_ok (mn_if)) (mt_node_ok (mt_leaf_ok (mn_aload)) (mt_leaf_ok (mn_iload)))) (mt_node_ok (mt_leaf_ok (mn_push)) (mt_node_ok (mt_leaf_ok (mn_bin)) (mt_leaf_ok (rfl)))))) (mt_node_ok (mt_node_ok (mt_node_ok (mt_leaf_ok (mn_i2l)) (mt_node_ok (mt_leaf_ok (mn_lload)) (mt_leaf_ok (mn_lcmp)))) (mt_node_ok (mt_leaf_ok (mn_if)) (mt_node_ok (mt_leaf_ok (mn_aload)) (mt_leaf_ok (mn_iload))))) (mt_node_ok (mt_node_ok (mt_leaf_ok (mn_push)) (mt_node_ok (mt_leaf_ok (mn_bin)) (mt_leaf_ok (rfl)))) (mt_node_ok (mt_leaf_ok (mn_if)) (mt_node_ok (mt_leaf_ok (mn_aload)) (mt_leaf_ok (mn_aload)))))))
theorem mz_196_4 {g : xe_G} : mt_all (mnP mS) (mb_196_4 g) := mt_node_ok (mt_node_ok (mt_node_ok (mt_node_ok (mt_node_ok (mt_leaf_ok (mn_iload)) (mt_node_ok (mt_leaf_ok (mn_push)) (mt_leaf_ok (mn_bin)))) (mt_node_ok (mt_leaf_ok (rfl)) (mt_node_ok (mt_leaf_ok (rfl)) (mt_leaf_ok (mn_push))))) (mt_node_ok (mt_node_ok (mt_leaf_ok (mn_if2)) (mt_node_ok (mt_leaf_ok (mn_push)) (mt_leaf_ok (trivial)))) (mt_node_ok (mt_leaf_ok (mn_iinc)) (mt_node_ok (mt_leaf_ok (mn_goto)) (mt_leaf_ok (mn_aload)))))) (mt_node_ok (mt_node_ok (mt_node_ok (mt_leaf_ok (mn_get)) (mt_node_ok (mt_leaf_ok (mn_iload)) (mt_leaf_ok (mn_aload)))) (mt_node_ok (mt_leaf_ok (mn_iload)) (mt_node_ok (mt_leaf_ok (rfl)) (mt_leaf_ok (mn_ast))))) (mt_node_ok (mt_node_ok (mt_leaf_ok (mn_aload)) (mt_node_ok (mt_leaf_ok (mn_get)) (mt_leaf_ok (mn_iload)))) (mt_node_ok (mt_leaf_ok (mn_aload)) (mt_node_ok (mt_leaf_ok (mn_iload)) (mt_leaf_ok (mn_push))))))) (mt_node_ok (mt_node_ok (mt_node_ok (mt_node_ok (mt_leaf_ok (mn_bin)) (mt_node_ok (mt_leaf_ok (rfl)) (mt_leaf_ok (mn_ast)))) (mt_node_ok (mt_leaf_ok (mn_aload)) (mt_node_ok (mt_leaf_ok (mn_get)) (mt_leaf_ok (mn_iload))))) (mt_node_ok (mt_node_ok (mt_leaf_ok (mn_lload)) (mt_node_ok (mt_leaf_ok (mn_l2i)) (mt_leaf_ok (mn_ast)))) (mt_node_ok (mt_leaf_ok (mn_aload)) (mt_node_ok (mt_leaf_ok (mn_get)) (mt_leaf_ok (mn_iload)))))) (mt_node_ok (mt_node_ok (mt_node_ok (mt_leaf_ok (mn_aload)) (mt_node_ok (mt_leaf_ok (mn_get)) (mt_leaf_ok (mn_iload)))) (mt_node_ok (mt_leaf_ok (mn_bin)) (mt_node_ok (mt_leaf_ok (mn_push)) (mt_leaf_ok (mn_bin))))) (mt_node_ok (mt_node_ok (mt_leaf_ok (mn_ast)) (mt_node_ok (mt_leaf_ok (mn_aload)) (mt_leaf_ok (mn_get)))) (mt_node_ok (mt_leaf_ok (mn_iload)) (mt_node_ok (mt_leaf_ok (mn_aload)) (mt_leaf_ok (mn_get)))))))
theorem mz_196_5 {g : xe_G} : mt_all (mnP mS) (mb_196_5 g) := mt_node_ok (mt_node_ok (mt_node_ok (mt_node_ok (mt_leaf_ok (mn_iload)) (mt_leaf_ok (mn_bin))) (mt_node_ok (mt_leaf_ok (mn_ast)) (mt_leaf_ok (mn_aload)))) (mt_node_ok (mt_node_ok (mt_leaf_ok (mn_get)) (mt_leaf_ok (mn_iload))) (mt_node_ok (mt_leaf_ok (mn_iload)) (mt_node_ok (mt_leaf_ok (mn_ast)) (mt_leaf_ok (mn_aload)))))) (mt_node_ok (mt_node_ok (mt_node_ok (mt_leaf_ok (mn_iload)) (mt_leaf_ok (mn_push))) (mt_node_ok (mt_leaf_ok (mn_iload)) (mt_leaf_ok (rfl)))) (mt_node_ok (mt_node_ok (mt_leaf_ok (mn_if)) (mt_leaf_ok (mn_push))) (mt_node_ok (mt_leaf_ok (mn_goto)) (mt_node_ok (mt_leaf_ok (mn_push)) (mt_leaf_ok (trivial))))))
theorem mz_196 {g : xe_G} : mt_all (mnP mS) (mb_196 g).2.1 := mt_node_ok (mt_node_ok ((mz_196_0 (g := g))) (mt_node_ok ((mz_196_1 (g := g))) ((mz_196_2 (g := g))))) (mt_node_ok ((mz_196_3 (g := g))) (mt_node_ok ((mz_196_4 (g := g))) ((mz_196_5 (g := g)))))
theorem mz_197_0 {g : xe_G} : mt_all (mnP mS) (mb_197_0 g) := mt_node_ok (mt_node_ok (mt_node_ok (mt_node_ok (mt_node_ok (mt_leaf_ok (mn_iload)) (mt_node_ok (mt_leaf_ok (mn_iload)) (mt_leaf_ok (mn_bin)))) (mt_node_ok (mt_leaf_ok (mn_push)) (mt_node_ok (mt_leaf_ok (mn_if2)) (mt_leaf_ok (mn_push))))) (mt_node_ok (mt_node_ok (mt_leaf_ok (trivial)) (mt_node_ok (mt_leaf_ok (mn_aload)) (mt_leaf_ok (mn_iload)))) (mt_node_ok (mt_leaf_ok (rfl)) (mt_node_ok (mt_leaf_ok (mn_isto)) (mt_leaf_ok (mn_iload)))))) (mt_node_ok (mt_node_ok (mt_node_ok (mt_leaf_ok (mn_push)) (mt_node_ok (mt_leaf_ok (mn_bin)) (mt_leaf_ok (mn_isto)))) (mt_node_ok (mt_leaf_ok (mn_push)) (mt_node_ok (mt_leaf_ok (mn_isto)) (mt_leaf_ok (mn_iload))))) (mt_node_ok (mt_node_ok (mt_leaf_ok (mn_iload)) (mt_node_ok (mt_leaf_ok (mn_if2)) (mt_leaf_ok (mn_iload)))) (mt_node_ok (mt_leaf_ok (mn_push)) (mt_node_ok (mt_leaf_ok (mn_bin)) (mt_leaf_ok (mn_iload))))))) (mt_node_ok (mt_node_ok (mt_node_ok (mt_node_ok (mt_leaf_ok (mn_if2)) (mt_node_ok (mt_leaf_ok (mn_push)) (mt_leaf_ok (trivial)))) (mt_node_ok (mt_leaf_ok (mn_aload)) (mt_node_ok (mt_leaf_ok (mn_iload)) (mt_leaf_ok (mn_push))))) (mt_node_ok (mt_node_ok (mt_leaf_ok (mn_bin)) (mt_node_ok (mt_leaf_ok (rfl)) (mt_leaf_ok (mn_isto)))) (mt_node_ok (mt_leaf_ok (mn_iinc)) (mt_node_ok (mt_leaf_ok (mn_push)) (mt_leaf_ok (mn_isto)))))) (mt_node_ok (mt_node_ok (mt_node_ok (mt_leaf_ok (mn_iload)) (mt_node_ok (mt_leaf_ok (mn_iload)) (mt_leaf_ok (mn_if2)))) (mt_node_ok (mt_leaf_ok (mn_iload)) (mt_node_ok (mt_leaf_ok (mn_push)) (mt_leaf_ok (mn_bin))))) (mt_node_ok (mt_node_ok (mt_leaf_ok (mn_iload)) (mt_node_ok (mt_leaf_ok (mn_if2)) (mt_leaf_ok (mn_aload)))) (mt_node_ok (mt_leaf_ok (mn_iload)) (mt_node_ok (mt_leaf_ok (mn_push)) (mt_leaf_ok (mn_bin)))))))
theorem mz_197_1 {g : xe_G} : mt_all (mnP mS) (mb_197_1 g) := mt_node_ok (mt_node_ok (mt_node_ok (mt_node_ok (mt_node_ok (mt_leaf_ok (rfl)) (mt_node_ok (mt_leaf_ok (mn_iload)) (mt_leaf_ok (mn_iload)))) (mt_node_ok (mt_leaf_ok (mn_bin)) (mt_node_ok (mt_leaf_ok (mn_push)) (mt_leaf_ok (mn_bin))))) (mt_node_ok (mt_node_ok (mt_leaf_ok (mn_i2l)) (mt_node_ok (mt_leaf_ok (mn_lcmp)) (mt_leaf_ok (mn_if)))) (mt_node_ok (mt_leaf_ok (mn_push)) (mt_node_ok (mt_leaf_ok (trivial)) (mt_leaf_ok (mn_iload)))))) (mt_node_ok (mt_node_ok (mt_node_ok (mt_leaf_ok (mn_push)) (mt_node_ok (mt_leaf_ok (mn_aload)) (mt_leaf_ok (mn_iload)))) (mt_node_ok (mt_leaf_ok (mn_push)) (mt_node_ok (mt_leaf_ok (mn_bin)) (mt_leaf_ok (rfl))))) (mt_node_ok (mt_node_ok (mt_leaf_ok (mn_l2i)) (mt_node_ok (mt_leaf_ok (mn_bin)) (mt_leaf_ok (mn_bin)))) (mt_node_ok (mt_leaf_ok (mn_isto)) (mt_node_ok (mt_leaf_ok (mn_iinc)) (mt_leaf_ok (mn_goto))))))) (mt_node_ok (mt_node_ok (mt_node_ok (mt_node_ok (mt_leaf_ok (mn_iinc)) (mt_node_ok (mt_leaf_ok (mn_goto)) (mt_leaf_ok (mn_iload)))) (mt_node_ok (mt_leaf_ok (mn_iload)) (mt_node_ok (mt_leaf_ok (mn_if2)) (mt_leaf_ok (mn_push))))) (mt_node_ok (mt_node_ok (mt_leaf_ok (trivial)) (mt_node_ok (mt_leaf_ok (mn_iload)) (mt_leaf_ok (mn_push)))) (mt_node_ok (mt_leaf_ok (mn_bin)) (mt_node_ok (mt_leaf_ok (mn_isto)) (mt_leaf_ok (mn_push)))))) (mt_node_ok (mt_node_ok (mt_node_ok (mt_leaf_ok (mn_isto)) (mt_node_ok (mt_leaf_ok (mn_iload)) (mt_leaf_ok (mn_iload)))) (mt_node_ok (mt_leaf_ok (mn_if2)) (mt_node_ok (mt_leaf_ok (mn_aload)) (mt_leaf_ok (mn_aload))))) (mt_node_ok (mt_node_ok (mt_leaf_ok (mn_iload)) (mt_node_ok (mt_leaf_ok (rfl)) (mt_leaf_ok (rfl)))) (mt_node_ok (mt_leaf_ok (mn_push)) (mt_node_ok (mt_leaf_ok (mn_if2)) (mt_leaf_ok (mn_aload)))))))
theorem mz_197_2 {g : xe_G} : mt_all (mnP mS) (mb_197_2 g) := mt_node_ok (mt_node_ok (mt_node_ok (mt_node_ok (mt_node_ok (mt_leaf_ok (mn_aload)) (mt_node_ok (mt_leaf_ok (mn_aload)) (mt_leaf_ok (mn_iload)))) (mt_node_ok (mt_leaf_ok (rfl)) (mt_node_ok (mt_leaf_ok (rfl)) (mt_leaf_ok (mn_push))))) (mt_node_ok (mt_node_ok (mt_leaf_ok (rfl)) (mt_node_ok (mt_leaf_ok (mn_if)) (mt_leaf_ok (mn_aload)))) (mt_node_ok (mt_leaf_ok (mn_aload)) (mt_node_ok (mt_leaf_ok (mn_iload)) (mt_leaf_ok (mn_push)))))) (mt_node_ok (mt_node_ok (mt_node_ok (mt_leaf_ok (mn_bin)) (mt_node_ok (mt_leaf_ok (rfl)) (mt_leaf_ok (rfl)))) (mt_node_ok (mt_leaf_ok (mn_push)) (mt_node_ok (mt_leaf_ok (mn_if2)) (mt_leaf_ok (mn_aload))))) (mt_node_ok (mt_node_ok (mt_leaf_ok (mn_aload)) (mt_node_ok (mt_leaf_ok (mn_aload)) (mt_leaf_ok (mn_iload)))) (mt_node_ok (mt_leaf_ok (mn_push)) (mt_node_ok (mt_leaf_ok (mn_bin)) (mt_leaf_ok (rfl))))))) (mt_node_ok (mt_node_ok (mt_node_ok (mt_node_ok (mt_leaf_ok (rfl)) (mt_node_ok (mt_leaf_ok (rfl)) (mt_leaf_ok (mn_if)))) (mt_node_ok (mt_leaf_ok (mn_push)) (mt_node_ok (mt_leaf_ok (trivial)) (mt_leaf_ok (mn_aload))))) (mt_node_ok (mt_node_ok (mt_leaf_ok (mn_iload)) (mt_node_ok (mt_leaf_ok (mn_push)) (mt_leaf_ok (mn_bin)))) (mt_node_ok (mt_leaf_ok (rfl)) (mt_node_ok (mt_leaf_ok (mn_isto)) (mt_leaf_ok (mn_iinc)))))) (mt_node_ok (mt_node_ok (mt_node_ok (mt_leaf_ok (mn_push)) (mt_node_ok (mt_leaf_ok (mn_isto)) (mt_leaf_ok (mn_iload)))) (mt_node_ok (mt_leaf_ok (mn_iload)) (mt_node_ok (mt_leaf_ok (mn_if2)) (mt_leaf_ok (mn_aload))))) (mt_node_ok (mt_node_ok (mt_leaf_ok (mn_aload)) (mt_node_ok (mt_leaf_ok (mn_iload)) (mt_leaf_ok (rfl)))) (mt_node_ok (mt_leaf_ok (rfl)) (mt_node_ok (mt_leaf_ok (mn_push)) (mt_leaf_ok (mn_if2)))))))
theorem mz_197_3 {g : xe_G} : mt_all (mnP mS) (mb_197_3 g) := mt_node_ok (mt_node_ok (mt_node_ok (mt_node_ok (mt_leaf_ok (mn_aload)) (mt_node_ok (mt_leaf_ok (mn_push)) (mt_leaf_ok (mn_iload)))) (mt_node_ok (mt_leaf_ok (rfl)) (mt_node_ok (mt_leaf_ok (mn_pop)) (mt_leaf_ok (mn_push))))) (mt_node_ok (mt_node_ok (mt_leaf_ok (trivial)) (mt_node_ok (mt_leaf_ok (mn_iload)) (mt_leaf_ok (mn_push)))) (mt_node_ok (mt_node_ok (mt_leaf_ok (mn_aload)) (mt_leaf_ok (mn_iload))) (mt_node_ok (mt_leaf_ok (mn_push)) (mt_leaf_ok (mn_bin)))))) (mt_node_ok (mt_node_ok (mt_node_ok (mt_leaf_ok (rfl)) (mt_node_ok (mt_leaf_ok (mn_l2i)) (mt_leaf_ok (mn_bin)))) (mt_node_ok (mt_node_ok (mt_leaf_ok (mn_bin)) (mt_leaf_ok (mn_isto))) (mt_node_ok (mt_leaf_ok (mn_iinc)) (mt_leaf_ok (mn_goto))))) (mt_node_ok (mt_node_ok (mt_leaf_ok (mn_iinc)) (mt_node_ok (mt_leaf_ok (mn_goto)) (mt_leaf_ok (mn_aload)))) (mt_node_ok (mt_node_ok (mt_leaf_ok (mn_iload)) (mt_leaf_ok (mn_put))) (mt_node_ok (mt_leaf_ok (mn_push)) (mt_leaf_ok (trivial))))))
theorem mz_197 {g : xe_G} : mt_all (mnP mS) (mb_197 g).2.1 := mt_node_ok (mt_node_ok ((mz_197_0 (g := g))) ((mz_197_1 (g := g)))) (mt_node_ok ((mz_197_2 (g := g))) ((mz_197_3 (g := g))))
theorem mz_203_0 {g : xe_G} : mt_all (mnP mS) (mb_203_0 g) := mt_node_ok (mt_node_ok (mt_node_ok (mt_node_ok (mt_leaf_ok (mn_aload)) (mt_node_ok (mt_leaf_ok (mn_iload)) (mt_leaf_ok (mn_aload)))) (mt_node_ok (mt_leaf_ok (mn_iload)) (mt_node_ok (mt_leaf_ok (rfl)) (mt_leaf_ok (mn_push))))) (mt_node_ok (mt_node_ok (mt_leaf_ok (mn_bin)) (mt_node_ok (mt_leaf_ok (rfl)) (mt_leaf_ok (mn_push)))) (mt_node_ok (mt_leaf_ok (mn_if2)) (mt_node_ok (mt_leaf_ok (mn_aload)) (mt_leaf_ok (mn_iload)))))) (mt_node_ok (mt_node_ok (mt_node_ok (mt_leaf_ok (mn_aload)) (mt_node_ok (mt_leaf_ok (mn_iload)) (mt_leaf_ok (rfl)))) (mt_node_ok (mt_leaf_ok (mn_push)) (mt_node_ok (mt_leaf_ok (mn_bin)) (mt_leaf_ok (rfl))))) (mt_node_ok (mt_node_ok (mt_leaf_ok (mn_push)) (mt_node_ok (mt_leaf_ok (mn_if2)) (mt_leaf_ok (mn_push)))) (mt_node_ok (mt_leaf_ok (mn_goto)) (mt_node_ok (mt_leaf_ok (mn_push)) (mt_leaf_ok (trivial))))))
theorem mz_203 {g : xe_G} : mt_all (mnP mS) (mb_203 g).2.1 := (mz_203_0 (g := g))
theorem mz_206_0 {g : xe_G} : mt_all (mnP mS) (mb_206_0 g) := mt_node_ok (mt_node_ok (mt_node_ok (mt_node_ok (mt_node_ok (mt_leaf_ok (mn_aload)) (mt_node_ok (mt_leaf_ok (mn_iload)) (mt_leaf_ok (rfl)))) (mt_node_ok (mt_leaf_ok (mn_isto)) (mt_node_ok (mt_leaf_ok (mn_iload)) (mt_leaf_ok (mn_isto))))) (mt_node_ok (mt_node_ok (mt_leaf_ok (mn_iload)) (mt_node_ok (mt_leaf_ok (mn_iload)) (mt_leaf_ok (mn_if2)))) (mt_node_ok (mt_leaf_ok (mn_aload)) (mt_node_ok (mt_leaf_ok (mn_iload)) (mt_leaf_ok (mn_iload)))))) (mt_node_ok (mt_node_ok (mt_node_ok (mt_leaf_ok (rfl)) (mt_node_ok (mt_leaf_ok (mn_push)) (mt_leaf_ok (mn_if2)))) (mt_node_ok (mt_leaf_ok (mn_iinc)) (mt_node_ok (mt_leaf_ok (mn_goto)) (mt_leaf_ok (mn_iload))))) (mt_node_ok (mt_node_ok (mt_leaf_ok (mn_iload)) (mt_node_ok (mt_leaf_ok (mn_bin)) (mt_leaf_ok (mn_push)))) (mt_node_ok (mt_leaf_ok (mn_if2)) (mt_node_ok (mt_leaf_ok (mn_iload)) (mt_leaf_ok (mn_iload))))))) (mt_node_ok (mt_node_ok (mt_node_ok (mt_node_ok (mt_leaf_ok (mn_if2)) (mt_node_ok (mt_leaf_ok (mn_push)) (mt_leaf_ok (trivial)))) (mt_node_ok (mt_leaf_ok (mn_aload)) (mt_node_ok (mt_leaf_ok (mn_iload)) (mt_leaf_ok (mn_iload))))) (mt_node_ok (mt_node_ok (mt_leaf_ok (rfl)) (mt_node_ok (mt_leaf_ok (mn_isto)) (mt_leaf_ok (mn_iload)))) (mt_node_ok (mt_leaf_ok (mn_push)) (mt_node_ok (mt_leaf_ok (mn_if2)) (mt_leaf_ok (mn_iload)))))) (mt_node_ok (mt_node_ok (mt_node_ok (mt_leaf_ok (mn_push)) (mt_node_ok (mt_leaf_ok (mn_if2)) (mt_leaf_ok (mn_iload)))) (mt_node_ok (mt_leaf_ok (mn_push)) (mt_node_ok (mt_leaf_ok (mn_if2)) (mt_leaf_ok (mn_iload))))) (mt_node_ok (mt_node_ok (mt_leaf_ok (mn_push)) (mt_node_ok (mt_leaf_ok (mn_if2)) (mt_leaf_ok (mn_iload)))) (mt_node_ok (mt_leaf_ok (mn_push)) (mt_node_ok (mt_leaf_ok (mn_if2)) (mt_leaf_ok (mn_iload)))))))
theorem mz_206_1 {g : xe_G} : mt_all (mnP mS) (mb_206_1 g) := mt_node_ok (mt_node_ok (mt_node_ok (mt_node_ok (mt_node_ok (mt_leaf_ok (mn_push)) (mt_node_ok (mt_leaf_ok (mn_if2)) (mt_leaf_ok (mn_iload)))) (mt_node_ok (mt_leaf_ok (mn_push)) (mt_node_ok (mt_leaf_ok (mn_if2)) (mt_leaf_ok (mn_iload))))) (mt_node_ok (mt_node_ok (mt_leaf_ok (mn_push)) (mt_node_ok (mt_leaf_ok (mn_if2)) (mt_leaf_ok (mn_iload)))) (mt_node_ok (mt_leaf_ok (mn_push)) (mt_node_ok (mt_leaf_ok (mn_bin)) (mt_leaf_ok (trivial)))))) (mt_node_ok (mt_node_ok (mt_node_ok (mt_leaf_ok (mn_iload)) (mt_node_ok (mt_leaf_ok (mn_push)) (mt_leaf_ok (mn_if2)))) (mt_node_ok (mt_leaf_ok (mn_push)) (mt_node_ok (mt_leaf_ok (trivial)) (mt_leaf_ok (mn_iload))))) (mt_node_ok (mt_node_ok (mt_leaf_ok (mn_push)) (mt_node_ok (mt_leaf_ok (mn_bin)) (mt_leaf_ok (mn_isto)))) (mt_node_ok (mt_leaf_ok (mn_iload)) (mt_node_ok (mt_leaf_ok (mn_iload)) (mt_leaf_ok (mn_if2))))))) (mt_node_ok (mt_node_ok (mt_node_ok (mt_node_ok (mt_leaf_ok (mn_aload)) (mt_node_ok (mt_leaf_ok (mn_iload)) (mt_leaf_ok (mn_iload)))) (mt_node_ok (mt_leaf_ok (rfl)) (mt_node_ok (mt_leaf_ok (mn_push)) (mt_leaf_ok (mn_if2))))) (mt_node_ok (mt_node_ok (mt_leaf_ok (mn_iinc)) (mt_node_ok (mt_leaf_ok (mn_goto)) (mt_leaf_ok (mn_iload)))) (mt_node_ok (mt_leaf_ok (mn_iload)) (mt_node_ok (mt_leaf_ok (mn_if2)) (mt_leaf_ok (mn_aload)))))) (mt_node_ok (mt_node_ok (mt_node_ok (mt_leaf_ok (mn_iload)) (mt_node_ok (mt_leaf_ok (mn_iload)) (mt_leaf_ok (mn_push)))) (mt_node_ok (mt_leaf_ok (mn_bin)) (mt_node_ok (mt_leaf_ok (mn_iload)) (mt_leaf_ok (rfl))))) (mt_node_ok (mt_node_ok (mt_leaf_ok (mn_if)) (mt_node_ok (mt_leaf_ok (mn_iload)) (mt_leaf_ok (mn_push)))) (mt_node_ok (mt_leaf_ok (mn_bin)) (mt_node_ok (mt_leaf_ok (mn_goto)) (mt_leaf_ok (mn_push)))))))
theorem mz_206_2 {g : xe_G} : mt_all (mnP mS) (mb_206_2 g) := mt_leaf_ok (trivial)
theorem mz_206 {g : xe_G} : mt_all (mnP mS) (mb_206 g).2.1 := mt_node_ok ((mz_206_0 (g := g))) (mt_node_ok ((mz_206_1 (g := g))) ((mz_206_2 (g := g))))
theorem mz_209_0 {g : xe_G} : mt_all (mnP mS) (mb_209_0 g) := mt_node_ok (mt_node_ok (mt_node_ok (mt_node_ok (mt_node_ok (mt_leaf_ok (mn_iload)) (mt_node_ok (mt_leaf_ok (mn_if)) (mt_leaf_ok (mn_iload)))) (mt_node_ok (mt_leaf_ok (mn_push)) (mt_node_ok (mt_leaf_ok (mn_push)) (mt_leaf_ok (mn_push))))) (mt_node_ok (mt_node_ok (mt_leaf_ok (rfl)) (mt_node_ok (mt_leaf_ok (mn_if)) (mt_leaf_ok (mn_iload)))) (mt_node_ok (mt_leaf_ok (mn_push)) (mt_node_ok (mt_leaf_ok (mn_bin)) (mt_leaf_ok (mn_if)))))) (mt_node_ok (mt_node_ok (mt_node_ok (mt_leaf_ok (mn_push)) (mt_node_ok (mt_leaf_ok (mn_goto)) (mt_leaf_ok (mn_push)))) (mt_node_ok (mt_leaf_ok (trivial)) (mt_node_ok (mt_leaf_ok (mn_iload)) (mt_leaf_ok (mn_push))))) (mt_node_ok (mt_node_ok (mt_leaf_ok (mn_bin)) (mt_node_ok (mt_leaf_ok (mn_if)) (mt_leaf_ok (mn_iload)))) (mt_node_ok (mt_leaf_ok (mn_push)) (mt_node_ok (mt_leaf_ok (mn_bin)) (mt_leaf_ok (mn_if))))))) (mt_node_ok (mt_node_ok (mt_node_ok (mt_node_ok (mt_leaf_ok (mn_aload)) (mt_node_ok (mt_leaf_ok (mn_get)) (mt_leaf_ok (mn_push)))) (mt_node_ok (mt_leaf_ok (mn_if2)) (mt_node_ok (mt_leaf_ok (mn_aload)) (mt_leaf_ok (mn_get))))) (mt_node_ok (mt_node_ok (mt_leaf_ok (mn_push)) (mt_node_ok (mt_leaf_ok (mn_if2)) (mt_leaf_ok (mn_iload)))) (mt_node_ok (mt_leaf_ok (mn_push)) (mt_node_ok (mt_leaf_ok (mn_bin)) (mt_leaf_ok (mn_if)))))) (mt_node_ok (mt_node_ok (mt_node_ok (mt_leaf_ok (mn_push)) (mt_node_ok (mt_leaf_ok (mn_goto)) (mt_leaf_ok (mn_push)))) (mt_node_ok (mt_leaf_ok (mn_isto)) (mt_node_ok (mt_leaf_ok (mn_iload)) (mt_leaf_ok (mn_if))))) (mt_node_ok (mt_node_ok (mt_leaf_ok (mn_iload)) (mt_node_ok (mt_leaf_ok (mn_push)) (mt_leaf_ok (mn_push)))) (mt_node_ok (mt_leaf_ok (mn_push)) (mt_node_ok (mt_leaf_ok (rfl)) (mt_leaf_ok (mn_if)))))))
theorem mz_209_1 {g : xe_G} : mt_all (mnP mS) (mb_209_1 g) := mt_node_ok (mt_node_ok (mt_node_ok (mt_node_ok (mt_node_ok (mt_leaf_ok (mn_iload)) (mt_node_ok (mt_leaf_ok (mn_if)) (mt_leaf_ok (mn_push)))) (mt_node_ok (mt_leaf_ok (mn_goto)) (mt_node_ok (mt_leaf_ok (mn_push)) (mt_leaf_ok (trivial))))) (mt_node_ok (mt_node_ok (mt_leaf_ok (mn_iload)) (mt_node_ok (mt_leaf_ok (mn_push)) (mt_leaf_ok (mn_bin)))) (mt_node_ok (mt_leaf_ok (mn_if)) (mt_node_ok (mt_leaf_ok (mn_push)) (mt_leaf_ok (trivial)))))) (mt_node_ok (mt_node_ok (mt_node_ok (mt_leaf_ok (mn_aload)) (mt_node_ok (mt_leaf_ok (mn_get)) (mt_leaf_ok (mn_push)))) (mt_node_ok (mt_leaf_ok (mn_if2)) (mt_node_ok (mt_leaf_ok (mn_iload)) (mt_leaf_ok (mn_push))))) (mt_node_ok (mt_node_ok (mt_leaf_ok (mn_bin)) (mt_node_ok (mt_leaf_ok (mn_if)) (mt_leaf_ok (mn_iload)))) (mt_node_ok (mt_leaf_ok (mn_push)) (mt_node_ok (mt_leaf_ok (mn_bin)) (mt_leaf_ok (mn_if))))))) (mt_node_ok (mt_node_ok (mt_node_ok (mt_node_ok (mt_leaf_ok (mn_iload)) (mt_node_ok (mt_leaf_ok (mn_push)) (mt_leaf_ok (mn_bin)))) (mt_node_ok (mt_leaf_ok (mn_if)) (mt_node_ok (mt_leaf_ok (mn_goto)) (mt_leaf_ok (mn_iload))))) (mt_node_ok (mt_node_ok (mt_leaf_ok (mn_push)) (mt_node_ok (mt_leaf_ok (mn_bin)) (mt_leaf_ok (mn_if)))) (mt_node_ok (mt_leaf_ok (mn_push)) (mt_node_ok (mt_leaf_ok (mn_goto)) (mt_leaf_ok (mn_push)))))) (mt_node_ok (mt_node_ok (mt_node_ok (mt_leaf_ok (mn_iload)) (mt_node_ok (mt_leaf_ok (mn_push)) (mt_leaf_ok (mn_bin)))) (mt_node_ok (mt_leaf_ok (mn_if)) (mt_node_ok (mt_leaf_ok (mn_push)) (mt_leaf_ok (mn_goto))))) (mt_node_ok (mt_node_ok (mt_leaf_ok (mn_push)) (mt_node_ok (mt_leaf_ok (mn_if2)) (mt_leaf_ok (mn_push)))) (mt_node_ok (mt_leaf_ok (trivial)) (mt_node_ok (mt_leaf_ok (mn_iload)) (mt_leaf_ok (mn_if)))))))
theorem mz_209_2 {g : xe_G} : mt_all (mnP mS) (mb_209_2 g) := mt_node_ok (mt_node_ok (mt_leaf_ok (mn_push)) (mt_leaf_ok (mn_goto))) (mt_node_ok (mt_leaf_ok (mn_push)) (mt_leaf_ok (trivial)))
theorem mz_209 {g : xe_G} : mt_all (mnP mS) (mb_209 g).2.1 := mt_node_ok ((mz_209_0 (g := g))) (mt_node_ok ((mz_209_1 (g := g))) ((mz_209_2 (g := g))))
theorem mz_212_0 {g : xe_G} : mt_all (mnP mS) (mb_212_0 g) := mt_node_ok (mt_node_ok (mt_node_ok (mt_node_ok (mt_node_ok (mt_leaf_ok (mn_aload)) (mt_node_ok (mt_leaf_ok (mn_aload)) (mt_leaf_ok (mn_get)))) (mt_node_ok (mt_leaf_ok (mn_aload)) (mt_node_ok (mt_leaf_ok (mn_get)) (mt_leaf_ok (mn_iload))))) (mt_node_ok (mt_node_ok (mt_leaf_ok (mn_bin)) (mt_node_ok (mt_leaf_ok (mn_ald)) (mt_leaf_ok (mn_push)))) (mt_node_ok (mt_leaf_ok (mn_bin)) (mt_node_ok (mt_leaf_ok (rfl)) (mt_leaf_ok (mn_isto)))))) (mt_node_ok (mt_node_ok (mt_node_ok (mt_leaf_ok (mn_aload)) (mt_node_ok (mt_leaf_ok (mn_iload)) (mt_leaf_ok (mn_push)))) (mt_node_ok (mt_leaf_ok (rfl)) (mt_node_ok (mt_leaf_ok (mn_isto)) (mt_leaf_ok (mn_aload))))) (mt_node_ok (mt_node_ok (mt_leaf_ok (mn_iload)) (mt_node_ok (mt_leaf_ok (rfl)) (mt_leaf_ok (mn_isto)))) (mt_node_ok (mt_leaf_ok (mn_iload)) (mt_node_ok (mt_leaf_ok (mn_push)) (mt_leaf_ok (mn_if2))))))) (mt_node_ok (mt_node_ok (mt_node_ok (mt_node_ok (mt_leaf_ok (mn_iload)) (mt_node_ok (mt_leaf_ok (mn_push)) (mt_leaf_ok (mn_if2)))) (mt_node_ok (mt_leaf_ok (mn_push)) (mt_node_ok (mt_leaf_ok (trivial)) (mt_leaf_ok (mn_iload))))) (mt_node_ok (mt_node_ok (mt_leaf_ok (mn_push)) (mt_node_ok (mt_leaf_ok (mn_if2)) (mt_leaf_ok (mn_iload)))) (mt_node_ok (mt_leaf_ok (mn_push)) (mt_node_ok (mt_leaf_ok (mn_if2)) (mt_leaf_ok (mn_push)))))) (mt_node_ok (mt_node_ok (mt_node_ok (mt_leaf_ok (mn_goto)) (mt_node_ok (mt_leaf_ok (mn_push)) (mt_leaf_ok (trivial)))) (mt_node_ok (mt_leaf_ok (mn_iload)) (mt_node_ok (mt_leaf_ok (mn_push)) (mt_leaf_ok (mn_if2))))) (mt_node_ok (mt_node_ok (mt_leaf_ok (mn_iload)) (mt_node_ok (mt_leaf_ok (mn_push)) (mt_leaf_ok (mn_if2)))) (mt_node_ok (mt_leaf_ok (mn_iload)) (mt_node_ok (mt_leaf_ok (mn_push)) (mt_leaf_ok (mn_if2)))))))
theorem mz_212_1 {g : xe_G} : mt_all (mnP mS) (mb_212_1 g) := mt_node_ok (mt_node_ok (mt_node_ok (mt_node_ok (mt_node_ok (mt_leaf_ok (mn_goto)) (mt_node_ok (mt_leaf_ok (mn_iload)) (mt_leaf_ok (mn_push)))) (mt_node_ok (mt_leaf_ok (mn_if2)) (mt_node_ok (mt_leaf_ok (mn_iload)) (mt_leaf_ok (mn_push))))) (mt_node_ok (mt_node_ok (mt_leaf_ok (mn_if2)) (mt_node_ok (mt_leaf_ok (mn_goto)) (mt_leaf_ok (mn_iload)))) (mt_node_ok (mt_leaf_ok (mn_push)) (mt_node_ok (mt_leaf_ok (mn_if2)) (mt_leaf_ok (mn_iload)))))) (mt_node_ok (mt_node_ok (mt_node_ok (mt_leaf_ok (mn_push)) (mt_node_ok (mt_leaf_ok (mn_if2)) (mt_leaf_ok (mn_aload)))) (mt_node_ok (mt_leaf_ok (mn_get)) (mt_node_ok (mt_leaf_ok (mn_push)) (mt_leaf_ok (mn_if2))))) (mt_node_ok (mt_node_ok (mt_leaf_ok (mn_push)) (mt_node_ok (mt_leaf_ok (trivial)) (mt_leaf_ok (mn_aload)))) (mt_node_ok (mt_leaf_ok (mn_aload)) (mt_node_ok (mt_leaf_ok (mn_aload)) (mt_leaf_ok (mn_iload))))))) (mt_node_ok (mt_node_ok (mt_node_ok (mt_node_ok (mt_leaf_ok (mn_push)) (mt_node_ok (mt_leaf_ok (rfl)) (mt_leaf_ok (mn_push)))) (mt_node_ok (mt_leaf_ok (rfl)) (mt_node_ok (mt_leaf_ok (rfl)) (mt_leaf_ok (mn_isto))))) (mt_node_ok (mt_node_ok (mt_leaf_ok (mn_iload)) (mt_node_ok (mt_leaf_ok (mn_push)) (mt_leaf_ok (mn_if2)))) (mt_node_ok (mt_leaf_ok (mn_push)) (mt_node_ok (mt_leaf_ok (mn_goto)) (mt_leaf_ok (mn_push)))))) (mt_node_ok (mt_node_ok (mt_node_ok (mt_leaf_ok (mn_iload)) (mt_node_ok (mt_leaf_ok (mn_aload)) (mt_leaf_ok (mn_get)))) (mt_node_ok (mt_leaf_ok (mn_if2)) (mt_node_ok (mt_leaf_ok (mn_push)) (mt_leaf_ok (mn_goto))))) (mt_node_ok (mt_node_ok (mt_leaf_ok (mn_push)) (mt_node_ok (mt_leaf_ok (mn_if2)) (mt_leaf_ok (mn_push)))) (mt_node_ok (mt_leaf_ok (mn_goto)) (mt_node_ok (mt_leaf_ok (mn_push)) (mt_leaf_ok (trivial)))))))
theorem mz_212 {g : xe_G} : mt_all (mnP mS) (mb_212 g).2.1 := mt_node_ok ((mz_212_0 (g := g))) ((mz_212_1 (g := g)))
theorem mz_213_0 {g : xe_G} : mt_all (mnP mS) (mb_213_0 g) := mt_node_ok (mt_node_ok (mt_node_ok (mt_leaf_ok (mn_aload)) (mt_node_ok (mt_leaf_ok (mn_aload)) (mt_leaf_ok (mn_get)))) (mt_node_ok (mt_leaf_ok (mn_aload)) (mt_node_ok (mt_leaf_ok (mn_get)) (mt_leaf_ok (mn_iload))))) (mt_node_ok (mt_node_ok (mt_leaf_ok (mn_bin)) (mt_node_ok (mt_leaf_ok (mn_ald)) (mt_leaf_ok (mn_iload)))) (mt_node_ok (mt_leaf_ok (mn_bin)) (mt_node_ok (mt_leaf_ok (rfl)) (mt_leaf_ok (trivial)))))
theorem mz_213 {g : xe_G} : mt_all (mnP mS) (mb_213 g).2.1 := (mz_213_0 (g := g))
theorem mz_214_0 {g : xe_G} : mt_all (mnP mS) (mb_214_0 g) := mt_node_ok (mt_node_ok (mt_node_ok (mt_node_ok (mt_node_ok (mt_leaf_ok (mn_iload)) (mt_node_ok (mt_leaf_ok (mn_push)) (mt_leaf_ok (mn_if2)))) (mt_node_ok (mt_leaf_ok (mn_iload)) (mt_node_ok (mt_leaf_ok (mn_push)) (mt_leaf_ok (mn_if2))))) (mt_node_ok (mt_node_ok (mt_leaf_ok (mn_iload)) (mt_node_ok (mt_leaf_ok (mn_push)) (mt_leaf_ok (mn_if2)))) (mt_node_ok (mt_leaf_ok (mn_iload)) (mt_node_ok (mt_leaf_ok (mn_push)) (mt_leaf_ok (mn_if2)))))) (mt_node_ok (mt_node_ok (mt_node_ok (mt_leaf_ok (mn_iload)) (mt_node_ok (mt_leaf_ok (mn_push)) (mt_leaf_ok (mn_if2)))) (mt_node_ok (mt_leaf_ok (mn_aload)) (mt_node_ok (mt_leaf_ok (mn_aload)) (mt_leaf_ok (mn_iload))))) (mt_node_ok (mt_node_ok (mt_leaf_ok (mn_push)) (mt_node_ok (mt_leaf_ok (rfl)) (mt_leaf_ok (rfl)))) (mt_node_ok (mt_leaf_ok (mn_push)) (mt_node_ok (mt_leaf_ok (mn_if2)) (mt_leaf_ok (mn_push))))))) (mt_node_ok (mt_node_ok (mt_node_ok (mt_node_ok (mt_leaf_ok (mn_goto)) (mt_node_ok (mt_leaf_ok (mn_push)) (mt_leaf_ok (trivial)))) (mt_node_ok (mt_leaf_ok (mn_iload)) (mt_node_ok (mt_leaf_ok (mn_push)) (mt_leaf_ok (mn_if2))))) (mt_node_ok (mt_node_ok (mt_leaf_ok (mn_iload)) (mt_node_ok (mt_leaf_ok (mn_push)) (mt_leaf_ok (mn_if2)))) (mt_node_ok (mt_leaf_ok (mn_aload)) (mt_node_ok (mt_leaf_ok (mn_aload)) (mt_leaf_ok (mn_iload)))))) (mt_node_ok (mt_node_ok (mt_node_ok (mt_leaf_ok (mn_push)) (mt_node_ok (mt_leaf_ok (rfl)) (mt_leaf_ok (rfl)))) (mt_node_ok (mt_leaf_ok (mn_push)) (mt_node_ok (mt_leaf_ok (mn_if2)) (mt_leaf_ok (mn_aload))))) (mt_node_ok (mt_node_ok (mt_leaf_ok (mn_aload)) (mt_node_ok (mt_leaf_ok (mn_iload)) (mt_leaf_ok (mn_push)))) (mt_node_ok (mt_leaf_ok (rfl)) (mt_node_ok (mt_leaf_ok (mn_push)) (mt_leaf_ok (mn_push)))))))
theorem mz_214_1 {g : xe_G} : mt_all (mnP mS) (mb_214_1 g) := mt_node_ok (mt_node_ok (mt_node_ok (mt_node_ok (mt_node_ok (mt_leaf_ok (rfl)) (mt_node_ok (mt_leaf_ok (mn_if)) (mt_leaf_ok (mn_aload)))) (mt_node_ok (mt_leaf_ok (mn_aload)) (mt_node_ok (mt_leaf_ok (mn_iload)) (mt_leaf_ok (mn_push))))) (mt_node_ok (mt_node_ok (mt_leaf_ok (rfl)) (mt_node_ok (mt_leaf_ok (rfl)) (mt_leaf_ok (mn_push)))) (mt_node_ok (mt_leaf_ok (mn_if2)) (mt_node_ok (mt_leaf_ok (mn_aload)) (mt_leaf_ok (mn_aload)))))) (mt_node_ok (mt_node_ok (mt_node_ok (mt_leaf_ok (mn_iload)) (mt_node_ok (mt_leaf_ok (mn_push)) (mt_leaf_ok (rfl)))) (mt_node_ok (mt_leaf_ok (mn_push)) (mt_node_ok (mt_leaf_ok (mn_push)) (mt_leaf_ok (rfl))))) (mt_node_ok (mt_node_ok (mt_leaf_ok (mn_if)) (mt_node_ok (mt_leaf_ok (mn_push)) (mt_leaf_ok (mn_goto)))) (mt_node_ok (mt_leaf_ok (mn_push)) (mt_node_ok (mt_leaf_ok (trivial)) (mt_leaf_ok (mn_iload))))))) (mt_node_ok (mt_node_ok (mt_node_ok (mt_node_ok (mt_leaf_ok (mn_push)) (mt_node_ok (mt_leaf_ok (mn_if2)) (mt_leaf_ok (mn_aload)))) (mt_node_ok (mt_leaf_ok (mn_aload)) (mt_node_ok (mt_leaf_ok (mn_iload)) (mt_leaf_ok (mn_push))))) (mt_node_ok (mt_node_ok (mt_leaf_ok (rfl)) (mt_node_ok (mt_leaf_ok (rfl)) (mt_leaf_ok (mn_push)))) (mt_node_ok (mt_leaf_ok (mn_if2)) (mt_node_ok (mt_leaf_ok (mn_aload)) (mt_leaf_ok (mn_aload)))))) (mt_node_ok (mt_node_ok (mt_node_ok (mt_leaf_ok (mn_iload)) (mt_node_ok (mt_leaf_ok (mn_push)) (mt_leaf_ok (rfl)))) (mt_node_ok (mt_leaf_ok (rfl)) (mt_node_ok (mt_leaf_ok (mn_push)) (mt_leaf_ok (mn_if2))))) (mt_node_ok (mt_node_ok (mt_leaf_ok (mn_push)) (mt_node_ok (mt_leaf_ok (mn_goto)) (mt_leaf_ok (mn_push)))) (mt_node_ok (mt_leaf_ok (trivial)) (mt_node_ok (mt_leaf_ok (mn_iload)) (mt_leaf_ok (mn_push)))))))
theorem mz_214_2 {g : xe_G} : mt_all (mnP mS) (mb_214_2 g) := mt_node_ok (mt_node_ok (mt_node_ok (mt_node_ok (mt_node_ok (mt_leaf_ok (mn_if2)) (mt_node_ok (mt_leaf_ok (mn_aload)) (mt_leaf_ok (mn_aload)))) (mt_node_ok (mt_leaf_ok (mn_iload)) (mt_node_ok (mt_leaf_ok (mn_push)) (mt_leaf_ok (rfl))))) (mt_node_ok (mt_node_ok (mt_leaf_ok (rfl)) (mt_node_ok (mt_leaf_ok (mn_isto)) (mt_leaf_ok (mn_iload)))) (mt_node_ok (mt_leaf_ok (mn_if)) (mt_node_ok (mt_leaf_ok (mn_iload)) (mt_leaf_ok (mn_push)))))) (mt_node_ok (mt_node_ok (mt_node_ok (mt_leaf_ok (mn_if2)) (mt_node_ok (mt_leaf_ok (mn_iload)) (mt_leaf_ok (mn_push)))) (mt_node_ok (mt_leaf_ok (mn_if2)) (mt_node_ok (mt_leaf_ok (mn_aload)) (mt_leaf_ok (mn_aload))))) (mt_node_ok (mt_node_ok (mt_leaf_ok (mn_iload)) (mt_node_ok (mt_leaf_ok (mn_push)) (mt_leaf_ok (rfl)))) (mt_node_ok (mt_leaf_ok (mn_iload)) (mt_node_ok (mt_leaf_ok (mn_push)) (mt_leaf_ok (rfl))))))) (mt_node_ok (mt_node_ok (mt_node_ok (mt_node_ok (mt_leaf_ok (mn_if)) (mt_node_ok (mt_leaf_ok (mn_push)) (mt_leaf_ok (mn_goto)))) (mt_node_ok (mt_leaf_ok (mn_push)) (mt_node_ok (mt_leaf_ok (trivial)) (mt_leaf_ok (mn_iload))))) (mt_node_ok (mt_node_ok (mt_leaf_ok (mn_push)) (mt_node_ok (mt_leaf_ok (mn_if2)) (mt_leaf_ok (mn_iload)))) (mt_node_ok (mt_leaf_ok (mn_push)) (mt_node_ok (mt_leaf_ok (mn_if2)) (mt_leaf_ok (mn_aload)))))) (mt_node_ok (mt_node_ok (mt_node_ok (mt_leaf_ok (mn_aload)) (mt_node_ok (mt_leaf_ok (mn_iload)) (mt_leaf_ok (mn_push)))) (mt_node_ok (mt_leaf_ok (rfl)) (mt_node_ok (mt_leaf_ok (rfl)) (mt_leaf_ok (mn_push))))) (mt_node_ok (mt_node_ok (mt_leaf_ok (mn_if2)) (mt_node_ok (mt_leaf_ok (mn_aload)) (mt_leaf_ok (mn_aload)))) (mt_node_ok (mt_leaf_ok (mn_iload)) (mt_node_ok (mt_leaf_ok (mn_push)) (mt_leaf_ok (rfl)))))))
theorem mz_214_3 {g : xe_G} : mt_all (mnP mS) (mb_214_3 g) := mt_node_ok (mt_node_ok (mt_node_ok (mt_leaf_ok (mn_push)) (mt_leaf_ok (mn_push))) (mt_node_ok (mt_leaf_ok (rfl)) (mt_node_ok (mt_leaf_ok (mn_if)) (mt_leaf_ok (mn_push))))) (mt_node_ok (mt_node_ok (mt_leaf_ok (mn_goto)) (mt_leaf_ok (mn_push))) (mt_node_ok (mt_leaf_ok (trivial)) (mt_node_ok (mt_leaf_ok (mn_push)) (mt_leaf_ok (trivial)))))
theorem mz_214 {g : xe_G} : mt_all (mnP mS) (mb_214 g).2.1 := mt_node_ok (mt_node_ok ((mz_214_0 (g := g))) ((mz_214_1 (g := g)))) (mt_node_ok ((mz_214_2 (g := g))) ((mz_214_3 (g := g))))
theorem mz_216_0 {g : xe_G} : mt_all (mnP mS) (mb_216_0 g) := mt_node_ok (mt_node_ok (mt_node_ok (mt_node_ok (mt_leaf_ok (mn_aload)) (mt_node_ok (mt_leaf_ok (mn_iload)) (mt_leaf_ok (rfl)))) (mt_node_ok (mt_node_ok (mt_leaf_ok (mn_aload)) (mt_leaf_ok (mn_slength))) (mt_node_ok (mt_leaf_ok (mn_if2)) (mt_leaf_ok (mn_push))))) (mt_node_ok (mt_node_ok (mt_leaf_ok (trivial)) (mt_node_ok (mt_leaf_ok (mn_push)) (mt_leaf_ok (mn_isto)))) (mt_node_ok (mt_node_ok (mt_leaf_ok (mn_iload)) (mt_leaf_ok (mn_aload))) (mt_node_ok (mt_leaf_ok (mn_slength)) (mt_leaf_ok (mn_if2)))))) (mt_node_ok (mt_node_ok (mt_node_ok (mt_leaf_ok (mn_aload)) (mt_node_ok (mt_leaf_ok (mn_iload)) (mt_leaf_ok (mn_iload)))) (mt_node_ok (mt_node_ok (mt_leaf_ok (rfl)) (mt_leaf_ok (mn_aload))) (mt_node_ok (mt_leaf_ok (mn_iload)) (mt_leaf_ok (mn_scharAt))))) (mt_node_ok (mt_node_ok (mt_leaf_ok (mn_if2)) (mt_node_ok (mt_leaf_ok (mn_push)) (mt_leaf_ok (trivial)))) (mt_node_ok (mt_node_ok (mt_leaf_ok (mn_iinc)) (mt_leaf_ok (mn_goto))) (mt_node_ok (mt_leaf_ok (mn_push)) (mt_leaf_ok (trivial))))))
theorem mz_216 {g : xe_G} : mt_all (mnP mS) (mb_216 g).2.1 := (mz_216_0 (g := g))
theorem mz_217_0 {g : xe_G} : mt_all (mnP mS) (mb_217_0 g) := mt_node_ok (mt_node_ok (mt_node_ok (mt_leaf_ok (mn_aload)) (mt_node_ok (mt_leaf_ok (mn_iload)) (mt_leaf_ok (mn_push)))) (mt_node_ok (mt_leaf_ok (rfl)) (mt_node_ok (mt_leaf_ok (mn_aload)) (mt_leaf_ok (mn_iload))))) (mt_node_ok (mt_node_ok (mt_leaf_ok (rfl)) (mt_node_ok (mt_leaf_ok (mn_if2)) (mt_leaf_ok (mn_push)))) (mt_node_ok (mt_leaf_ok (mn_goto)) (mt_node_ok (mt_leaf_ok (mn_push)) (mt_leaf_ok (trivial)))))
theorem mz_217 {g : xe_G} : mt_all (mnP mS) (mb_217 g).2.1 := (mz_217_0 (g := g))
theorem mz_218_0 {g : xe_G} : mt_all (mnP mS) (mb_218_0 g) := mt_node_ok (mt_node_ok (mt_node_ok (mt_node_ok (mt_node_ok (mt_leaf_ok (mn_aload)) (mt_node_ok (mt_leaf_ok (mn_iload)) (mt_leaf_ok (rfl)))) (mt_node_ok (mt_leaf_ok (mn_isto)) (mt_node_ok (mt_leaf_ok (mn_iload)) (mt_leaf_ok (mn_if))))) (mt_node_ok (mt_node_ok (mt_leaf_ok (mn_aload)) (mt_node_ok (mt_leaf_ok (mn_iload)) (mt_leaf_ok (mn_push)))) (mt_node_ok (mt_leaf_ok (rfl)) (mt_node_ok (mt_leaf_ok (mn_push)) (mt_leaf_ok (mn_if2)))))) (mt_node_ok (mt_node_ok (mt_node_ok (mt_leaf_ok (mn_push)) (mt_node_ok (mt_leaf_ok (trivial)) (mt_leaf_ok (mn_push)))) (mt_node_ok (mt_leaf_ok (mn_isto)) (mt_node_ok (mt_leaf_ok (mn_iload)) (mt_leaf_ok (mn_iload))))) (mt_node_ok (mt_node_ok (mt_leaf_ok (mn_if2)) (mt_node_ok (mt_leaf_ok (mn_aload)) (mt_leaf_ok (mn_iload)))) (mt_node_ok (mt_leaf_ok (mn_iload)) (mt_node_ok (mt_leaf_ok (rfl)) (mt_leaf_ok (mn_push))))))) (mt_node_ok (mt_node_ok (mt_node_ok (mt_node_ok (mt_leaf_ok (mn_if2)) (mt_node_ok (mt_leaf_ok (mn_aload)) (mt_leaf_ok (mn_iload)))) (mt_node_ok (mt_leaf_ok (mn_iload)) (mt_node_ok (mt_leaf_ok (rfl)) (mt_leaf_ok (mn_isto))))) (mt_node_ok (mt_node_ok (mt_leaf_ok (mn_iload)) (mt_node_ok (mt_leaf_ok (mn_if)) (mt_leaf_ok (mn_push)))) (mt_node_ok (mt_leaf_ok (trivial)) (mt_node_ok (mt_leaf_ok (mn_iload)) (mt_leaf_ok (mn_iload)))))) (mt_node_ok (mt_node_ok (mt_node_ok (mt_leaf_ok (mn_if2)) (mt_node_ok (mt_leaf_ok (mn_push)) (mt_leaf_ok (trivial)))) (mt_node_ok (mt_leaf_ok (mn_iinc)) (mt_node_ok (mt_leaf_ok (mn_iload)) (mt_leaf_ok (mn_push))))) (mt_node_ok (mt_node_ok (mt_leaf_ok (mn_bin)) (mt_node_ok (mt_leaf_ok (mn_iload)) (mt_leaf_ok (mn_if2)))) (mt_node_ok (mt_leaf_ok (mn_aload)) (mt_node_ok (mt_leaf_ok (mn_iload)) (mt_leaf_ok (mn_iload)))))))
theorem mz_218_1 {g : xe_G} : mt_all (mnP mS) (mb_218_1 g) := mt_node_ok (mt_node_ok (mt_node_ok (mt_node_ok (mt_leaf_ok (rfl)) (mt_leaf_ok (mn_push))) (mt_node_ok (mt_leaf_ok (mn_if2)) (mt_node_ok (mt_leaf_ok (mn_aload)) (mt_leaf_ok (mn_iload))))) (mt_node_ok (mt_node_ok (mt_leaf_ok (mn_iload)) (mt_leaf_ok (rfl))) (mt_node_ok (mt_leaf_ok (mn_iload)) (mt_node_ok (mt_leaf_ok (mn_if2)) (mt_leaf_ok (mn_push)))))) (mt_node_ok (mt_node_ok (mt_node_ok (mt_leaf_ok (trivial)) (mt_leaf_ok (mn_aload))) (mt_node_ok (mt_leaf_ok (mn_iload)) (mt_node_ok (mt_leaf_ok (rfl)) (mt_leaf_ok (mn_push))))) (mt_node_ok (mt_node_ok (mt_leaf_ok (mn_if2)) (mt_leaf_ok (mn_push))) (mt_node_ok (mt_leaf_ok (mn_goto)) (mt_node_ok (mt_leaf_ok (mn_push)) (mt_leaf_ok (trivial))))))
theorem mz_218 {g : xe_G} : mt_all (mnP mS) (mb_218 g).2.1 := mt_node_ok ((mz_218_0 (g := g))) ((mz_218_1 (g := g)))
theorem mz_219_0 {g : xe_G} : mt_all (mnP mS) (mb_219_0 g) := mt_node_ok (mt_node_ok (mt_node_ok (mt_node_ok (mt_leaf_ok (mn_aload)) (mt_leaf_ok (mn_get))) (mt_node_ok (mt_leaf_ok (mn_i2l)) (mt_node_ok (mt_leaf_ok (mn_lload)) (mt_leaf_ok (mn_binL))))) (mt_node_ok (mt_node_ok (mt_leaf_ok (mn_aload)) (mt_leaf_ok (mn_get))) (mt_node_ok (mt_leaf_ok (mn_i2l)) (mt_node_ok (mt_leaf_ok (mn_lcmp)) (mt_leaf_ok (mn_if)))))) (mt_node_ok (mt_node_ok (mt_node_ok (mt_leaf_ok (mn_aload)) (mt_leaf_ok (mn_push))) (mt_node_ok (mt_leaf_ok (mn_aload)) (mt_node_ok (mt_leaf_ok (mn_get)) (mt_leaf_ok (rfl))))) (mt_node_ok (mt_node_ok (mt_leaf_ok (mn_if)) (mt_leaf_ok (mn_push))) (mt_node_ok (mt_leaf_ok (mn_goto)) (mt_node_ok (mt_leaf_ok (mn_push)) (mt_leaf_ok (trivial))))))
theorem mz_219 {g : xe_G} : mt_all (mnP mS) (mb_219 g).2.1 := (mz_219_0 (g := g))
theorem mz_221_0 {g : xe_G} : mt_all (mnP mS) (mb_221_0 g) := mt_node_ok (mt_node_ok (mt_leaf_ok (mn_aload)) (mt_leaf_ok (mn_get))) (mt_node_ok (mt_leaf_ok (mn_iload)) (mt_node_ok (mt_leaf_ok (mn_ald)) (mt_leaf_ok (trivial))))
theorem mz_221 {g : xe_G} : mt_all (mnP mS) (mb_221 g).2.1 := (mz_221_0 (g := g))
theorem mz_224_0 {g : xe_G} : mt_all (mnP mS) (mb_224_0 g) := mt_node_ok (mt_node_ok (mt_node_ok (mt_node_ok (mt_node_ok (mt_leaf_ok (mn_aload)) (mt_node_ok (mt_leaf_ok (mn_push)) (mt_leaf_ok (rfl)))) (mt_node_ok (mt_leaf_ok (mn_if)) (mt_node_ok (mt_leaf_ok (mn_push)) (mt_leaf_ok (trivial))))) (mt_node_ok (mt_node_ok (mt_leaf_ok (mn_aload)) (mt_node_ok (mt_leaf_ok (mn_aload)) (mt_leaf_ok (mn_get)))) (mt_node_ok (mt_leaf_ok (rfl)) (mt_node_ok (mt_leaf_ok (mn_isto)) (mt_leaf_ok (mn_aload)))))) (mt_node_ok (mt_node_ok (mt_node_ok (mt_leaf_ok (mn_dup)) (mt_node_ok (mt_leaf_ok (mn_get)) (mt_leaf_ok (mn_push)))) (mt_node_ok (mt_leaf_ok (mn_bin)) (mt_node_ok (mt_leaf_ok (mn_put)) (mt_leaf_ok (mn_push))))) (mt_node_ok (mt_node_ok (mt_leaf_ok (mn_isto)) (mt_node_ok (mt_leaf_ok (mn_iload)) (mt_leaf_ok (mn_iload)))) (mt_node_ok (mt_leaf_ok (mn_if2)) (mt_node_ok (mt_leaf_ok (mn_push)) (mt_leaf_ok (mn_isto))))))) (mt_node_ok (mt_node_ok (mt_node_ok (mt_node_ok (mt_leaf_ok (mn_iload)) (mt_node_ok (mt_leaf_ok (mn_push)) (mt_leaf_ok (mn_if2)))) (mt_node_ok (mt_leaf_ok (mn_aload)) (mt_node_ok (mt_leaf_ok (mn_push)) (mt_leaf_ok (rfl))))) (mt_node_ok (mt_node_ok (mt_leaf_ok (mn_if)) (mt_node_ok (mt_leaf_ok (mn_push)) (mt_leaf_ok (trivial)))) (mt_node_ok (mt_leaf_ok (mn_aload)) (mt_node_ok (mt_leaf_ok (mn_dup)) (mt_leaf_ok (mn_get)))))) (mt_node_ok (mt_node_ok (mt_node_ok (mt_leaf_ok (mn_push)) (mt_node_ok (mt_leaf_ok (mn_bin)) (mt_leaf_ok (mn_put)))) (mt_node_ok (mt_leaf_ok (mn_iinc)) (mt_node_ok (mt_leaf_ok (mn_goto)) (mt_leaf_ok (mn_aload))))) (mt_node_ok (mt_node_ok (mt_leaf_ok (rfl)) (mt_node_ok (mt_leaf_ok (mn_if)) (mt_leaf_ok (mn_push)))) (mt_node_ok (mt_leaf_ok (trivial)) (mt_node_ok (mt_leaf_ok (mn_iinc)) (mt_leaf_ok (mn_goto)))))))
theorem mz_224_1 {g : xe_G} : mt_all (mnP mS) (mb_224_1 g) := mt_node_ok (mt_leaf_ok (mn_push)) (mt_leaf_ok (trivial))
theorem mz_224 {g : xe_G} : mt_all (mnP mS) (mb_224 g).2.1 := mt_node_ok ((mz_224_0 (g := g))) ((mz_224_1 (g := g)))
theorem mz_226_0 {g : xe_G} : mt_all (mnP mS) (mb_226_0 g) := mt_node_ok (mt_node_ok (mt_node_ok (mt_node_ok (mt_node_ok (mt_leaf_ok (mn_iload)) (mt_leaf_ok (mn_push))) (mt_node_ok (mt_leaf_ok (mn_bin)) (mt_node_ok (mt_leaf_ok (mn_isto)) (mt_leaf_ok (mn_iload))))) (mt_node_ok (mt_node_ok (mt_leaf_ok (mn_isto)) (mt_node_ok (mt_leaf_ok (mn_iload)) (mt_leaf_ok (mn_iload)))) (mt_node_ok (mt_leaf_ok (mn_if2)) (mt_node_ok (mt_leaf_ok (mn_iload)) (mt_leaf_ok (mn_iload)))))) (mt_node_ok (mt_node_ok (mt_node_ok (mt_leaf_ok (mn_if2)) (mt_node_ok (mt_leaf_ok (mn_aload)) (mt_leaf_ok (mn_iload)))) (mt_node_ok (mt_leaf_ok (mn_iload)) (mt_node_ok (mt_leaf_ok (rfl)) (mt_leaf_ok (mn_goto))))) (mt_node_ok (mt_node_ok (mt_leaf_ok (mn_push)) (mt_node_ok (mt_leaf_ok (mn_isto)) (mt_leaf_ok (mn_iload)))) (mt_node_ok (mt_leaf_ok (mn_push)) (mt_node_ok (mt_leaf_ok (mn_if2)) (mt_leaf_ok (mn_iload))))))) (mt_node_ok (mt_node_ok (mt_node_ok (mt_node_ok (mt_leaf_ok (mn_push)) (mt_leaf_ok (mn_if2))) (mt_node_ok (mt_leaf_ok (mn_iload)) (mt_node_ok (mt_leaf_ok (mn_push)) (mt_leaf_ok (mn_if2))))) (mt_node_ok (mt_node_ok (mt_leaf_ok (mn_push)) (mt_node_ok (mt_leaf_ok (trivial)) (mt_leaf_ok (mn_iload)))) (mt_node_ok (mt_leaf_ok (mn_push)) (mt_node_ok (mt_leaf_ok (mn_if2)) (mt_leaf_ok (mn_iload)))))) (mt_node_ok (mt_node_ok (mt_node_ok (mt_leaf_ok (mn_iload)) (mt_node_ok (mt_leaf_ok (mn_push)) (mt_leaf_ok (mn_bin)))) (mt_node_ok (mt_leaf_ok (mn_if2)) (mt_node_ok (mt_leaf_ok (mn_push)) (mt_leaf_ok (trivial))))) (mt_node_ok (mt_node_ok (mt_leaf_ok (mn_iload)) (mt_node_ok (mt_leaf_ok (mn_isto)) (mt_leaf_ok (mn_iinc)))) (mt_node_ok (mt_leaf_ok (mn_goto)) (mt_node_ok (mt_leaf_ok (mn_push)) (mt_leaf_ok (trivial)))))))
theorem mz_226 {g : xe_G} : mt_all (mnP mS) (mb_226 g).2.1 := (mz_226_0 (g := g))
theorem mz_230_0 {g : xe_G} : mt_all (mnP mS) (mb_230_0 g) := mt_node_ok (mt_node_ok (mt_node_ok (mt_node_ok (mt_leaf_ok (mn_aload)) (mt_leaf_ok (rfl))) (mt_node_ok (mt_leaf_ok (mn_aload)) (mt_node_ok (mt_leaf_ok (mn_iload)) (mt_leaf_ok (mn_put))))) (mt_node_ok (mt_node_ok (mt_leaf_ok (mn_push)) (mt_node_ok (mt_leaf_ok (mn_isto)) (mt_leaf_ok (mn_iload)))) (mt_node_ok (mt_leaf_ok (mn_iload)) (mt_node_ok (mt_leaf_ok (mn_if2)) (mt_leaf_ok (mn_aload)))))) (mt_node_ok (mt_node_ok (mt_node_ok (mt_leaf_ok (mn_get)) (mt_leaf_ok (mn_iload))) (mt_node_ok (mt_leaf_ok (mn_aload)) (mt_node_ok (mt_leaf_ok (mn_iload)) (mt_leaf_ok (mn_ald))))) (mt_node_ok (mt_node_ok (mt_leaf_ok (mn_ast)) (mt_node_ok (mt_leaf_ok (mn_iinc)) (mt_leaf_ok (mn_goto)))) (mt_node_ok (mt_leaf_ok (mn_aload)) (mt_node_ok (mt_leaf_ok (rfl)) (mt_leaf_ok (trivial))))))
theorem mz_230 {g : xe_G} : mt_all (mnP mS) (mb_230 g).2.1 := (mz_230_0 (g := g))
theorem mz_233_0 {g : xe_G} : mt_all (mnP mS) (mb_233_0 g) := mt_node_ok (mt_node_ok (mt_node_ok (mt_node_ok (mt_node_ok (mt_leaf_ok (mn_push)) (mt_leaf_ok (mn_isto))) (mt_node_ok (mt_leaf_ok (mn_push)) (mt_leaf_ok (mn_isto)))) (mt_node_ok (mt_node_ok (mt_leaf_ok (mn_aload)) (mt_leaf_ok (mn_iload))) (mt_node_ok (mt_leaf_ok (mn_iload)) (mt_leaf_ok (rfl))))) (mt_node_ok (mt_node_ok (mt_node_ok (mt_leaf_ok (mn_push)) (mt_leaf_ok (mn_if2))) (mt_node_ok (mt_leaf_ok (mn_aload)) (mt_leaf_ok (mn_iload)))) (mt_node_ok (mt_node_ok (mt_leaf_ok (mn_iload)) (mt_leaf_ok (rfl))) (mt_node_ok (mt_leaf_ok (mn_isto)) (mt_node_ok (mt_leaf_ok (mn_iload)) (mt_leaf_ok (mn_iload))))))) (mt_node_ok (mt_node_ok (mt_node_ok (mt_node_ok (mt_leaf_ok (mn_push)) (mt_leaf_ok (mn_if2))) (mt_node_ok (mt_leaf_ok (mn_iload)) (mt_leaf_ok (mn_push)))) (mt_node_ok (mt_node_ok (mt_leaf_ok (mn_if2)) (mt_leaf_ok (mn_push))) (mt_node_ok (mt_leaf_ok (mn_goto)) (mt_node_ok (mt_leaf_ok (mn_push)) (mt_leaf_ok (mn_bin)))))) (mt_node_ok (mt_node_ok (mt_node_ok (mt_leaf_ok (mn_isto)) (mt_leaf_ok (mn_aload))) (mt_node_ok (mt_leaf_ok (mn_iload)) (mt_leaf_ok (mn_iload)))) (mt_node_ok (mt_node_ok (mt_leaf_ok (rfl)) (mt_leaf_ok (mn_isto))) (mt_node_ok (mt_leaf_ok (mn_goto)) (mt_node_ok (mt_leaf_ok (mn_iload)) (mt_leaf_ok (trivial)))))))
theorem mz_233 {g : xe_G} : mt_all (mnP mS) (mb_233 g).2.1 := (mz_233_0 (g := g))
theorem mz_235_0 {g : xe_G} : mt_all (mnP mS) (mb_235_0 g) := mt_node_ok (mt_node_ok (mt_node_ok (mt_node_ok (mt_leaf_ok (mn_aload)) (mt_leaf_ok (mn_iload))) (mt_node_ok (mt_leaf_ok (rfl)) (mt_leaf_ok (mn_push)))) (mt_node_ok (mt_node_ok (mt_leaf_ok (mn_if2)) (mt_leaf_ok (mn_aload))) (mt_node_ok (mt_leaf_ok (mn_aload)) (mt_leaf_ok (mn_iload))))) (mt_node_ok (mt_node_ok (mt_node_ok (mt_leaf_ok (rfl)) (mt_leaf_ok (mn_push))) (mt_node_ok (mt_leaf_ok (rfl)) (mt_leaf_ok (mn_push)))) (mt_node_ok (mt_node_ok (mt_leaf_ok (mn_if2)) (mt_leaf_ok (mn_push))) (mt_node_ok (mt_leaf_ok (mn_goto)) (mt_node_ok (mt_leaf_ok (mn_push)) (mt_leaf_ok (trivial))))))
theorem mz_235 {g : xe_G} : mt_all (mnP mS) (mb_235 g).2.1 := (mz_235_0 (g := g))
theorem mz_237_0 {g : xe_G} : mt_all (mnP mS) (mb_237_0 g) := mt_node_ok (mt_node_ok (mt_node_ok (mt_node_ok (mt_node_ok (mt_leaf_ok (mn_aload)) (mt_node_ok (mt_leaf_ok (mn_push)) (mt_leaf_ok (mn_put)))) (mt_node_ok (mt_leaf_ok (mn_aload)) (mt_node_ok (mt_leaf_ok (mn_push)) (mt_leaf_ok (rfl))))) (mt_node_ok (mt_node_ok (mt_leaf_ok (mn_if)) (mt_node_ok (mt_leaf_ok (mn_push)) (mt_leaf_ok (trivial)))) (mt_node_ok (mt_leaf_ok (mn_aload)) (mt_node_ok (mt_leaf_ok (mn_push)) (mt_leaf_ok (rfl)))))) (mt_node_ok (mt_node_ok (mt_node_ok (mt_leaf_ok (mn_push)) (mt_node_ok (mt_leaf_ok (mn_lcmp)) (mt_leaf_ok (mn_if)))) (mt_node_ok (mt_leaf_ok (mn_aload)) (mt_node_ok (mt_leaf_ok (mn_push)) (mt_leaf_ok (mn_push))))) (mt_node_ok (mt_node_ok (mt_leaf_ok (rfl)) (mt_node_ok (mt_leaf_ok (trivial)) (mt_leaf_ok (mn_aload)))) (mt_node_ok (mt_leaf_ok (mn_push)) (mt_node_ok (mt_leaf_ok (mn_put)) (mt_leaf_ok (mn_aload))))))) (mt_node_ok (mt_node_ok (mt_node_ok (mt_node_ok (mt_leaf_ok (mn_push)) (mt_node_ok (mt_leaf_ok (rfl)) (mt_leaf_ok (mn_if)))) (mt_node_ok (mt_leaf_ok (mn_push)) (mt_node_ok (mt_leaf_ok (trivial)) (mt_leaf_ok (mn_aload))))) (mt_node_ok (mt_node_ok (mt_leaf_ok (mn_push)) (mt_node_ok (mt_leaf_ok (mn_put)) (mt_leaf_ok (mn_aload)))) (mt_node_ok (mt_leaf_ok (mn_push)) (mt_node_ok (mt_leaf_ok (rfl)) (mt_leaf_ok (mn_if)))))) (mt_node_ok (mt_node_ok (mt_node_ok (mt_leaf_ok (mn_push)) (mt_node_ok (mt_leaf_ok (trivial)) (mt_leaf_ok (mn_aload)))) (mt_node_ok (mt_leaf_ok (mn_aload)) (mt_node_ok (mt_leaf_ok (mn_push)) (mt_leaf_ok (rfl))))) (mt_node_ok (mt_node_ok (mt_leaf_ok (mn_put)) (mt_node_ok (mt_leaf_ok (mn_aload)) (mt_leaf_ok (mn_get)))) (mt_node_ok (mt_leaf_ok (mn_push)) (mt_node_ok (mt_leaf_ok (mn_if2)) (mt_leaf_ok (mn_aload)))))))
theorem mz_237_1 {g : xe_G} : mt_all (mnP mS) (mb_237_1 g) := mt_node_ok (mt_node_ok (mt_node_ok (mt_node_ok (mt_node_ok (mt_leaf_ok (mn_get)) (mt_node_ok (mt_leaf_ok (mn_push)) (mt_leaf_ok (mn_if2)))) (mt_node_ok (mt_leaf_ok (mn_aload)) (mt_node_ok (mt_leaf_ok (mn_get)) (mt_leaf_ok (mn_push))))) (mt_node_ok (mt_node_ok (mt_leaf_ok (mn_if2)) (mt_node_ok (mt_leaf_ok (mn_aload)) (mt_leaf_ok (mn_push)))) (mt_node_ok (mt_leaf_ok (rfl)) (mt_node_ok (mt_leaf_ok (mn_if)) (mt_leaf_ok (mn_aload)))))) (mt_node_ok (mt_node_ok (mt_node_ok (mt_leaf_ok (mn_push)) (mt_node_ok (mt_leaf_ok (mn_push)) (mt_leaf_ok (rfl)))) (mt_node_ok (mt_leaf_ok (trivial)) (mt_node_ok (mt_leaf_ok (mn_aload)) (mt_leaf_ok (mn_push))))) (mt_node_ok (mt_node_ok (mt_leaf_ok (mn_put)) (mt_node_ok (mt_leaf_ok (mn_aload)) (mt_leaf_ok (mn_push)))) (mt_node_ok (mt_leaf_ok (rfl)) (mt_node_ok (mt_leaf_ok (mn_if)) (mt_leaf_ok (mn_push))))))) (mt_node_ok (mt_node_ok (mt_node_ok (mt_node_ok (mt_leaf_ok (trivial)) (mt_node_ok (mt_leaf_ok (mn_aload)) (mt_leaf_ok (mn_aload)))) (mt_node_ok (mt_leaf_ok (mn_push)) (mt_node_ok (mt_leaf_ok (rfl)) (mt_leaf_ok (mn_put))))) (mt_node_ok (mt_node_ok (mt_leaf_ok (mn_aload)) (mt_node_ok (mt_leaf_ok (mn_get)) (mt_leaf_ok (mn_if)))) (mt_node_ok (mt_leaf_ok (mn_aload)) (mt_node_ok (mt_leaf_ok (mn_push)) (mt_leaf_ok (mn_push)))))) (mt_node_ok (mt_node_ok (mt_node_ok (mt_leaf_ok (rfl)) (mt_node_ok (mt_leaf_ok (trivial)) (mt_leaf_ok (mn_aload)))) (mt_node_ok (mt_leaf_ok (mn_push)) (mt_node_ok (mt_leaf_ok (mn_put)) (mt_leaf_ok (mn_aload))))) (mt_node_ok (mt_node_ok (mt_leaf_ok (rfl)) (mt_node_ok (mt_leaf_ok (mn_if)) (mt_leaf_ok (mn_push)))) (mt_node_ok (mt_leaf_ok (trivial)) (mt_node_ok (mt_leaf_ok (mn_aload)) (mt_leaf_ok (mn_aload)))))))
theorem mz_237_2 {g : xe_G} : mt_all (mnP mS) (mb_237_2 g) := mt_node_ok (mt_node_ok (mt_node_ok (mt_node_ok (mt_node_ok (mt_leaf_ok (mn_get)) (mt_node_ok (mt_leaf_ok (mn_put)) (mt_leaf_ok (mn_push)))) (mt_node_ok (mt_leaf_ok (mn_isto)) (mt_node_ok (mt_leaf_ok (mn_iload)) (mt_leaf_ok (mn_push))))) (mt_node_ok (mt_node_ok (mt_leaf_ok (mn_if2)) (mt_node_ok (mt_leaf_ok (mn_aload)) (mt_leaf_ok (mn_push)))) (mt_node_ok (mt_leaf_ok (rfl)) (mt_node_ok (mt_leaf_ok (mn_if)) (mt_leaf_ok (mn_push)))))) (mt_node_ok (mt_node_ok (mt_node_ok (mt_leaf_ok (trivial)) (mt_node_ok (mt_leaf_ok (mn_aload)) (mt_leaf_ok (mn_dup)))) (mt_node_ok (mt_leaf_ok (mn_get)) (mt_node_ok (mt_leaf_ok (mn_push)) (mt_leaf_ok (mn_bin))))) (mt_node_ok (mt_node_ok (mt_leaf_ok (mn_put)) (mt_node_ok (mt_leaf_ok (mn_iinc)) (mt_leaf_ok (mn_goto)))) (mt_node_ok (mt_leaf_ok (mn_aload)) (mt_node_ok (mt_leaf_ok (mn_aload)) (mt_leaf_ok (mn_get))))))) (mt_node_ok (mt_node_ok (mt_node_ok (mt_node_ok (mt_leaf_ok (mn_push)) (mt_node_ok (mt_leaf_ok (mn_bin)) (mt_leaf_ok (rfl)))) (mt_node_ok (mt_leaf_ok (mn_isto)) (mt_node_ok (mt_leaf_ok (mn_push)) (mt_leaf_ok (mn_isto))))) (mt_node_ok (mt_node_ok (mt_leaf_ok (mn_iload)) (mt_node_ok (mt_leaf_ok (mn_iload)) (mt_leaf_ok (mn_if2)))) (mt_node_ok (mt_leaf_ok (mn_aload)) (mt_node_ok (mt_leaf_ok (mn_push)) (mt_leaf_ok (rfl)))))) (mt_node_ok (mt_node_ok (mt_node_ok (mt_leaf_ok (mn_if)) (mt_node_ok (mt_leaf_ok (mn_push)) (mt_leaf_ok (trivial)))) (mt_node_ok (mt_leaf_ok (mn_aload)) (mt_node_ok (mt_leaf_ok (mn_dup)) (mt_leaf_ok (mn_get))))) (mt_node_ok (mt_node_ok (mt_leaf_ok (mn_push)) (mt_node_ok (mt_leaf_ok (mn_bin)) (mt_leaf_ok (mn_put)))) (mt_node_ok (mt_leaf_ok (mn_iinc)) (mt_node_ok (mt_leaf_ok (mn_goto)) (mt_leaf_ok (mn_aload)))))))
end
section
theorem mz_237_3 {g : xe_G} : mt_all (mnP mS) (mb_237_3 g) := mt_node_ok (mt_node_ok (mt_node_ok (mt_node_ok (mt_node_ok (mt_leaf_ok (mn_aload)) (mt_leaf_ok (mn_get))) (mt_node_ok (mt_leaf_ok (mn_put)) (mt_node_ok (mt_leaf_ok (mn_aload)) (mt_leaf_ok (rfl))))) (mt_node_ok (mt_node_ok (mt_leaf_ok (mn_if)) (mt_leaf_ok (mn_push))) (mt_node_ok (mt_leaf_ok (trivial)) (mt_node_ok (mt_leaf_ok (mn_aload)) (mt_leaf_ok (mn_aload)))))) (mt_node_ok (mt_node_ok (mt_node_ok (mt_leaf_ok (mn_get)) (mt_leaf_ok (mn_put))) (mt_node_ok (mt_leaf_ok (mn_aload)) (mt_node_ok (mt_leaf_ok (rfl)) (mt_leaf_ok (mn_if))))) (mt_node_ok (mt_node_ok (mt_leaf_ok (mn_push)) (mt_leaf_ok (trivial))) (mt_node_ok (mt_leaf_ok (mn_aload)) (mt_node_ok (mt_leaf_ok (mn_aload)) (mt_leaf_ok (mn_get))))))) (mt_node_ok (mt_node_ok (mt_node_ok (mt_node_ok (mt_leaf_ok (mn_put)) (mt_leaf_ok (mn_aload))) (mt_node_ok (mt_leaf_ok (rfl)) (mt_node_ok (mt_leaf_ok (mn_if)) (mt_leaf_ok (mn_push))))) (mt_node_ok (mt_node_ok (mt_leaf_ok (trivial)) (mt_leaf_ok (mn_aload))) (mt_node_ok (mt_leaf_ok (mn_get)) (mt_node_ok (mt_leaf_ok (mn_aload)) (mt_leaf_ok (mn_get)))))) (mt_node_ok (mt_node_ok (mt_node_ok (mt_leaf_ok (mn_if2)) (mt_leaf_ok (mn_aload))) (mt_node_ok (mt_leaf_ok (mn_push)) (mt_node_ok (mt_leaf_ok (mn_aload)) (mt_leaf_ok (mn_get))))) (mt_node_ok (mt_node_ok (mt_leaf_ok (rfl)) (mt_node_ok (mt_leaf_ok (mn_if)) (mt_leaf_ok (mn_push)))) (mt_node_ok (mt_leaf_ok (mn_goto)) (mt_node_ok (mt_leaf_ok (mn_push)) (mt_leaf_ok (trivial)))))))
theorem mz_237 {g : xe_G} : mt_all (mnP mS) (mb_237 g).2.1 := mt_node_ok (mt_node_ok ((mz_237_0 (g := g))) ((mz_237_1 (g := g)))) (mt_node_ok ((mz_237_2 (g := g))) ((mz_237_3 (g := g))))
theorem mz_238_0 {g : xe_G} : mt_all (mnP mS) (mb_238_0 g) := mt_node_ok (mt_node_ok (mt_node_ok (mt_node_ok (mt_node_ok (mt_leaf_ok (mn_aload)) (mt_node_ok (mt_leaf_ok (mn_aload)) (mt_leaf_ok (mn_get)))) (mt_node_ok (mt_leaf_ok (mn_put)) (mt_node_ok (mt_leaf_ok (mn_aload)) (mt_leaf_ok (mn_get))))) (mt_node_ok (mt_node_ok (mt_leaf_ok (mn_aload)) (mt_node_ok (mt_leaf_ok (mn_get)) (mt_leaf_ok (mn_push)))) (mt_node_ok (mt_leaf_ok (mn_ast)) (mt_node_ok (mt_leaf_ok (mn_push)) (mt_leaf_ok (mn_isto)))))) (mt_node_ok (mt_node_ok (mt_node_ok (mt_leaf_ok (mn_iload)) (mt_node_ok (mt_leaf_ok (mn_aload)) (mt_leaf_ok (mn_get)))) (mt_node_ok (mt_leaf_ok (mn_if2)) (mt_node_ok (mt_leaf_ok (mn_aload)) (mt_leaf_ok (mn_push))))) (mt_node_ok (mt_node_ok (mt_leaf_ok (rfl)) (mt_node_ok (mt_leaf_ok (mn_if)) (mt_leaf_ok (mn_push)))) (mt_node_ok (mt_leaf_ok (trivial)) (mt_node_ok (mt_leaf_ok (mn_aload)) (mt_leaf_ok (mn_aload))))))) (mt_node_ok (mt_node_ok (mt_node_ok (mt_node_ok (mt_leaf_ok (mn_get)) (mt_node_ok (mt_leaf_ok (rfl)) (mt_leaf_ok (mn_isto)))) (mt_node_ok (mt_leaf_ok (mn_aload)) (mt_node_ok (mt_leaf_ok (mn_get)) (mt_leaf_ok (mn_isto))))) (mt_node_ok (mt_node_ok (mt_leaf_ok (mn_aload)) (mt_node_ok (mt_leaf_ok (mn_get)) (mt_leaf_ok (mn_aload)))) (mt_node_ok (mt_leaf_ok (mn_get)) (mt_node_ok (mt_leaf_ok (mn_iload)) (mt_leaf_ok (mn_bin)))))) (mt_node_ok (mt_node_ok (mt_node_ok (mt_leaf_ok (mn_iload)) (mt_node_ok (mt_leaf_ok (mn_ast)) (mt_leaf_ok (mn_aload)))) (mt_node_ok (mt_leaf_ok (mn_get)) (mt_node_ok (mt_leaf_ok (mn_aload)) (mt_leaf_ok (mn_get))))) (mt_node_ok (mt_node_ok (mt_leaf_ok (mn_iload)) (mt_node_ok (mt_leaf_ok (mn_bin)) (mt_leaf_ok (mn_push)))) (mt_node_ok (mt_leaf_ok (mn_ast)) (mt_node_ok (mt_leaf_ok (mn_iload)) (mt_leaf_ok (mn_push)))))))
theorem mz_238_1 {g : xe_G} : mt_all (mnP mS) (mb_238_1 g) := mt_node_ok (mt_node_ok (mt_node_ok (mt_node_ok (mt_node_ok (mt_leaf_ok (mn_if2)) (mt_node_ok (mt_leaf_ok (mn_iload)) (mt_leaf_ok (mn_push)))) (mt_node_ok (mt_leaf_ok (mn_if2)) (mt_node_ok (mt_leaf_ok (mn_iload)) (mt_leaf_ok (mn_push))))) (mt_node_ok (mt_node_ok (mt_leaf_ok (mn_if2)) (mt_node_ok (mt_leaf_ok (mn_iload)) (mt_leaf_ok (mn_push)))) (mt_node_ok (mt_leaf_ok (mn_if2)) (mt_node_ok (mt_leaf_ok (mn_iload)) (mt_leaf_ok (mn_push)))))) (mt_node_ok (mt_node_ok (mt_node_ok (mt_leaf_ok (mn_if2)) (mt_node_ok (mt_leaf_ok (mn_iload)) (mt_leaf_ok (mn_push)))) (mt_node_ok (mt_leaf_ok (mn_if2)) (mt_node_ok (mt_leaf_ok (mn_aload)) (mt_leaf_ok (mn_get))))) (mt_node_ok (mt_node_ok (mt_leaf_ok (mn_push)) (mt_node_ok (mt_leaf_ok (mn_if2)) (mt_leaf_ok (mn_iload)))) (mt_node_ok (mt_leaf_ok (mn_push)) (mt_node_ok (mt_leaf_ok (mn_if2)) (mt_leaf_ok (mn_iload))))))) (mt_node_ok (mt_node_ok (mt_node_ok (mt_node_ok (mt_leaf_ok (mn_push)) (mt_node_ok (mt_leaf_ok (mn_if2)) (mt_leaf_ok (mn_aload)))) (mt_node_ok (mt_leaf_ok (mn_get)) (mt_node_ok (mt_leaf_ok (mn_push)) (mt_leaf_ok (mn_if2))))) (mt_node_ok (mt_node_ok (mt_leaf_ok (mn_iload)) (mt_node_ok (mt_leaf_ok (mn_push)) (mt_leaf_ok (mn_if2)))) (mt_node_ok (mt_leaf_ok (mn_aload)) (mt_node_ok (mt_leaf_ok (mn_get)) (mt_leaf_ok (mn_push)))))) (mt_node_ok (mt_node_ok (mt_node_ok (mt_leaf_ok (mn_if2)) (mt_node_ok (mt_leaf_ok (mn_push)) (mt_leaf_ok (mn_goto)))) (mt_node_ok (mt_leaf_ok (mn_push)) (mt_node_ok (mt_leaf_ok (mn_isto)) (mt_leaf_ok (mn_iload))))) (mt_node_ok (mt_node_ok (mt_leaf_ok (mn_if)) (mt_node_ok (mt_leaf_ok (mn_aload)) (mt_leaf_ok (mn_push)))) (mt_node_ok (mt_leaf_ok (mn_iload)) (mt_node_ok (mt_leaf_ok (rfl)) (mt_leaf_ok (trivial)))))))
theorem mz_238_2 {g : xe_G} : mt_all (mnP mS) (mb_238_2 g) := mt_node_ok (mt_node_ok (mt_node_ok (mt_node_ok (mt_node_ok (mt_leaf_ok (mn_iload)) (mt_node_ok (mt_leaf_ok (mn_push)) (mt_leaf_ok (mn_if2)))) (mt_node_ok (mt_leaf_ok (mn_iload)) (mt_node_ok (mt_leaf_ok (mn_push)) (mt_leaf_ok (mn_if2))))) (mt_node_ok (mt_node_ok (mt_leaf_ok (mn_iload)) (mt_node_ok (mt_leaf_ok (mn_push)) (mt_leaf_ok (mn_bin)))) (mt_node_ok (mt_leaf_ok (mn_aload)) (mt_node_ok (mt_leaf_ok (mn_get)) (mt_leaf_ok (mn_if2)))))) (mt_node_ok (mt_node_ok (mt_node_ok (mt_leaf_ok (mn_aload)) (mt_node_ok (mt_leaf_ok (mn_push)) (mt_leaf_ok (mn_iload)))) (mt_node_ok (mt_leaf_ok (rfl)) (mt_node_ok (mt_leaf_ok (trivial)) (mt_leaf_ok (mn_aload))))) (mt_node_ok (mt_node_ok (mt_leaf_ok (mn_dup)) (mt_node_ok (mt_leaf_ok (mn_get)) (mt_leaf_ok (mn_push)))) (mt_node_ok (mt_leaf_ok (mn_bin)) (mt_node_ok (mt_leaf_ok (mn_put)) (mt_leaf_ok (mn_iload))))))) (mt_node_ok (mt_node_ok (mt_node_ok (mt_node_ok (mt_leaf_ok (mn_push)) (mt_node_ok (mt_leaf_ok (mn_if2)) (mt_leaf_ok (mn_aload)))) (mt_node_ok (mt_leaf_ok (mn_push)) (mt_node_ok (mt_leaf_ok (rfl)) (mt_leaf_ok (mn_if))))) (mt_node_ok (mt_node_ok (mt_leaf_ok (mn_push)) (mt_node_ok (mt_leaf_ok (trivial)) (mt_leaf_ok (mn_aload)))) (mt_node_ok (mt_leaf_ok (mn_aload)) (mt_node_ok (mt_leaf_ok (mn_get)) (mt_leaf_ok (rfl)))))) (mt_node_ok (mt_node_ok (mt_node_ok (mt_leaf_ok (mn_isto)) (mt_node_ok (mt_leaf_ok (mn_aload)) (mt_leaf_ok (mn_dup)))) (mt_node_ok (mt_leaf_ok (mn_get)) (mt_node_ok (mt_leaf_ok (mn_push)) (mt_leaf_ok (mn_bin))))) (mt_node_ok (mt_node_ok (mt_leaf_ok (mn_put)) (mt_node_ok (mt_leaf_ok (mn_aload)) (mt_leaf_ok (mn_iload)))) (mt_node_ok (mt_leaf_ok (mn_i2l)) (mt_node_ok (mt_leaf_ok (rfl)) (mt_leaf_ok (mn_if)))))))
theorem mz_238_3 {g : xe_G} : mt_all (mnP mS) (mb_238_3 g) := mt_node_ok (mt_node_ok (mt_node_ok (mt_node_ok (mt_node_ok (mt_leaf_ok (mn_push)) (mt_node_ok (mt_leaf_ok (trivial)) (mt_leaf_ok (mn_aload)))) (mt_node_ok (mt_leaf_ok (mn_aload)) (mt_node_ok (mt_leaf_ok (mn_get)) (mt_leaf_ok (mn_iload))))) (mt_node_ok (mt_node_ok (mt_leaf_ok (mn_bin)) (mt_node_ok (mt_leaf_ok (mn_aload)) (mt_leaf_ok (mn_get)))) (mt_node_ok (mt_leaf_ok (mn_iload)) (mt_node_ok (mt_leaf_ok (rfl)) (mt_leaf_ok (mn_if)))))) (mt_node_ok (mt_node_ok (mt_node_ok (mt_leaf_ok (mn_push)) (mt_node_ok (mt_leaf_ok (trivial)) (mt_leaf_ok (mn_aload)))) (mt_node_ok (mt_leaf_ok (mn_dup)) (mt_node_ok (mt_leaf_ok (mn_get)) (mt_leaf_ok (mn_iload))))) (mt_node_ok (mt_node_ok (mt_leaf_ok (mn_bin)) (mt_node_ok (mt_leaf_ok (mn_put)) (mt_leaf_ok (mn_goto)))) (mt_node_ok (mt_leaf_ok (mn_iload)) (mt_node_ok (mt_leaf_ok (mn_push)) (mt_leaf_ok (mn_if2))))))) (mt_node_ok (mt_node_ok (mt_node_ok (mt_node_ok (mt_leaf_ok (mn_aload)) (mt_node_ok (mt_leaf_ok (mn_push)) (mt_leaf_ok (rfl)))) (mt_node_ok (mt_leaf_ok (mn_if)) (mt_node_ok (mt_leaf_ok (mn_push)) (mt_leaf_ok (trivial))))) (mt_node_ok (mt_node_ok (mt_leaf_ok (mn_aload)) (mt_node_ok (mt_leaf_ok (mn_dup)) (mt_leaf_ok (mn_get)))) (mt_node_ok (mt_leaf_ok (mn_push)) (mt_node_ok (mt_leaf_ok (mn_bin)) (mt_leaf_ok (mn_put)))))) (mt_node_ok (mt_node_ok (mt_node_ok (mt_leaf_ok (mn_aload)) (mt_node_ok (mt_leaf_ok (mn_push)) (mt_leaf_ok (rfl)))) (mt_node_ok (mt_leaf_ok (mn_if)) (mt_node_ok (mt_leaf_ok (mn_push)) (mt_leaf_ok (trivial))))) (mt_node_ok (mt_node_ok (mt_leaf_ok (mn_aload)) (mt_node_ok (mt_leaf_ok (mn_dup)) (mt_leaf_ok (mn_get)))) (mt_node_ok (mt_leaf_ok (mn_push)) (mt_node_ok (mt_leaf_ok (mn_bin)) (mt_leaf_ok (mn_put)))))))
theorem mz_238_4 {g : xe_G} : mt_all (mnP mS) (mb_238_4 g) := mt_node_ok (mt_node_ok (mt_node_ok (mt_node_ok (mt_node_ok (mt_leaf_ok (mn_goto)) (mt_node_ok (mt_leaf_ok (mn_iload)) (mt_leaf_ok (mn_push)))) (mt_node_ok (mt_leaf_ok (mn_if2)) (mt_node_ok (mt_leaf_ok (mn_iload)) (mt_leaf_ok (mn_push))))) (mt_node_ok (mt_node_ok (mt_leaf_ok (mn_if2)) (mt_node_ok (mt_leaf_ok (mn_aload)) (mt_leaf_ok (mn_push)))) (mt_node_ok (mt_leaf_ok (rfl)) (mt_node_ok (mt_leaf_ok (mn_if)) (mt_leaf_ok (mn_push)))))) (mt_node_ok (mt_node_ok (mt_node_ok (mt_leaf_ok (trivial)) (mt_node_ok (mt_leaf_ok (mn_aload)) (mt_leaf_ok (mn_dup)))) (mt_node_ok (mt_leaf_ok (mn_get)) (mt_node_ok (mt_leaf_ok (mn_push)) (mt_leaf_ok (mn_bin))))) (mt_node_ok (mt_node_ok (mt_leaf_ok (mn_put)) (mt_node_ok (mt_leaf_ok (mn_goto)) (mt_leaf_ok (mn_iload)))) (mt_node_ok (mt_leaf_ok (mn_push)) (mt_node_ok (mt_leaf_ok (mn_if2)) (mt_leaf_ok (mn_iload))))))) (mt_node_ok (mt_node_ok (mt_node_ok (mt_node_ok (mt_leaf_ok (mn_push)) (mt_node_ok (mt_leaf_ok (mn_if2)) (mt_leaf_ok (mn_push)))) (mt_node_ok (mt_leaf_ok (mn_isto)) (mt_node_ok (mt_leaf_ok (mn_iload)) (mt_leaf_ok (mn_push))))) (mt_node_ok (mt_node_ok (mt_leaf_ok (mn_if2)) (mt_node_ok (mt_leaf_ok (mn_aload)) (mt_leaf_ok (mn_push)))) (mt_node_ok (mt_leaf_ok (rfl)) (mt_node_ok (mt_leaf_ok (mn_if)) (mt_leaf_ok (mn_push)))))) (mt_node_ok (mt_node_ok (mt_node_ok (mt_leaf_ok (trivial)) (mt_node_ok (mt_leaf_ok (mn_aload)) (mt_leaf_ok (mn_dup)))) (mt_node_ok (mt_leaf_ok (mn_get)) (mt_node_ok (mt_leaf_ok (mn_push)) (mt_leaf_ok (mn_bin))))) (mt_node_ok (mt_node_ok (mt_leaf_ok (mn_put)) (mt_node_ok (mt_leaf_ok (mn_iinc)) (mt_leaf_ok (mn_goto)))) (mt_node_ok (mt_leaf_ok (mn_goto)) (mt_node_ok (mt_leaf_ok (mn_push)) (mt_leaf_ok (mn_isto)))))))
theorem mz_238_5 {g : xe_G} : mt_all (mnP mS) (mb_238_5 g) := mt_node_ok (mt_node_ok (mt_node_ok (mt_node_ok (mt_node_ok (mt_leaf_ok (mn_iload)) (mt_node_ok (mt_leaf_ok (mn_iload)) (mt_leaf_ok (mn_push)))) (mt_node_ok (mt_leaf_ok (mn_if2)) (mt_node_ok (mt_leaf_ok (mn_iload)) (mt_leaf_ok (mn_push))))) (mt_node_ok (mt_node_ok (mt_leaf_ok (mn_if2)) (mt_node_ok (mt_leaf_ok (mn_iload)) (mt_leaf_ok (mn_push)))) (mt_node_ok (mt_leaf_ok (mn_if2)) (mt_node_ok (mt_leaf_ok (mn_iload)) (mt_leaf_ok (mn_push)))))) (mt_node_ok (mt_node_ok (mt_node_ok (mt_leaf_ok (mn_if2)) (mt_node_ok (mt_leaf_ok (mn_push)) (mt_leaf_ok (mn_goto)))) (mt_node_ok (mt_leaf_ok (mn_push)) (mt_node_ok (mt_leaf_ok (mn_if2)) (mt_leaf_ok (mn_aload))))) (mt_node_ok (mt_node_ok (mt_leaf_ok (mn_push)) (mt_node_ok (mt_leaf_ok (rfl)) (mt_leaf_ok (mn_if)))) (mt_node_ok (mt_leaf_ok (mn_push)) (mt_node_ok (mt_leaf_ok (trivial)) (mt_leaf_ok (mn_aload))))))) (mt_node_ok (mt_node_ok (mt_node_ok (mt_node_ok (mt_leaf_ok (mn_dup)) (mt_node_ok (mt_leaf_ok (mn_get)) (mt_leaf_ok (mn_push)))) (mt_node_ok (mt_leaf_ok (mn_bin)) (mt_node_ok (mt_leaf_ok (mn_put)) (mt_leaf_ok (mn_iinc))))) (mt_node_ok (mt_node_ok (mt_leaf_ok (mn_goto)) (mt_node_ok (mt_leaf_ok (mn_iload)) (mt_leaf_ok (mn_push)))) (mt_node_ok (mt_leaf_ok (mn_if2)) (mt_node_ok (mt_leaf_ok (mn_iload)) (mt_leaf_ok (mn_push)))))) (mt_node_ok (mt_node_ok (mt_node_ok (mt_leaf_ok (mn_if2)) (mt_node_ok (mt_leaf_ok (mn_iinc)) (mt_leaf_ok (mn_aload)))) (mt_node_ok (mt_leaf_ok (mn_get)) (mt_node_ok (mt_leaf_ok (mn_aload)) (mt_leaf_ok (mn_get))))) (mt_node_ok (mt_node_ok (mt_leaf_ok (mn_iload)) (mt_node_ok (mt_leaf_ok (mn_bin)) (mt_leaf_ok (mn_push)))) (mt_node_ok (mt_leaf_ok (mn_ast)) (mt_node_ok (mt_leaf_ok (mn_iinc)) (mt_leaf_ok (mn_goto)))))))
theorem mz_238_6 {g : xe_G} : mt_all (mnP mS) (mb_238_6 g) := mt_node_ok (mt_node_ok (mt_node_ok (mt_leaf_ok (mn_aload)) (mt_leaf_ok (mn_aload))) (mt_node_ok (mt_leaf_ok (mn_get)) (mt_leaf_ok (mn_aload)))) (mt_node_ok (mt_node_ok (mt_leaf_ok (mn_get)) (mt_leaf_ok (mn_bin))) (mt_node_ok (mt_leaf_ok (mn_put)) (mt_node_ok (mt_leaf_ok (mn_push)) (mt_leaf_ok (trivial)))))
theorem mz_238 {g : xe_G} : mt_all (mnP mS) (mb_238 g).2.1 := mt_node_ok (mt_node_ok ((mz_238_0 (g := g))) (mt_node_ok ((mz_238_1 (g := g))) ((mz_238_2 (g := g))))) (mt_node_ok (mt_node_ok ((mz_238_3 (g := g))) ((mz_238_4 (g := g)))) (mt_node_ok ((mz_238_5 (g := g))) ((mz_238_6 (g := g)))))
theorem mz_242_0 {g : xe_G} : mt_all (mnP mS) (mb_242_0 g) := mt_node_ok (mt_node_ok (mt_node_ok (mt_node_ok (mt_leaf_ok (mn_iload)) (mt_node_ok (mt_leaf_ok (mn_iload)) (mt_leaf_ok (mn_bin)))) (mt_node_ok (mt_node_ok (mt_leaf_ok (mn_if)) (mt_leaf_ok (mn_push))) (mt_node_ok (mt_leaf_ok (mn_goto)) (mt_leaf_ok (mn_push))))) (mt_node_ok (mt_node_ok (mt_leaf_ok (mn_iload)) (mt_node_ok (mt_leaf_ok (mn_iload)) (mt_leaf_ok (mn_bin)))) (mt_node_ok (mt_node_ok (mt_leaf_ok (mn_if)) (mt_leaf_ok (mn_push))) (mt_node_ok (mt_leaf_ok (mn_goto)) (mt_leaf_ok (mn_push)))))) (mt_node_ok (mt_node_ok (mt_node_ok (mt_leaf_ok (mn_bin)) (mt_node_ok (mt_leaf_ok (mn_iload)) (mt_leaf_ok (mn_iload)))) (mt_node_ok (mt_node_ok (mt_leaf_ok (mn_bin)) (mt_leaf_ok (mn_if))) (mt_node_ok (mt_leaf_ok (mn_push)) (mt_leaf_ok (mn_goto))))) (mt_node_ok (mt_node_ok (mt_node_ok (mt_leaf_ok (mn_push)) (mt_leaf_ok (mn_bin))) (mt_node_ok (mt_leaf_ok (mn_push)) (mt_leaf_ok (mn_if2)))) (mt_node_ok (mt_node_ok (mt_leaf_ok (mn_push)) (mt_leaf_ok (mn_goto))) (mt_node_ok (mt_leaf_ok (mn_push)) (mt_leaf_ok (trivial))))))
theorem mz_242 {g : xe_G} : mt_all (mnP mS) (mb_242 g).2.1 := (mz_242_0 (g := g))
theorem mz_244_0 {g : xe_G} : mt_all (mnP mS) (mb_244_0 g) := mt_node_ok (mt_node_ok (mt_node_ok (mt_leaf_ok (mn_aload)) (mt_leaf_ok (mn_get))) (mt_node_ok (mt_leaf_ok (mn_aload)) (mt_leaf_ok (mn_get)))) (mt_node_ok (mt_node_ok (mt_leaf_ok (mn_iload)) (mt_leaf_ok (mn_bin))) (mt_node_ok (mt_leaf_ok (mn_ald)) (mt_leaf_ok (trivial))))
theorem mz_244 {g : xe_G} : mt_all (mnP mS) (mb_244 g).2.1 := (mz_244_0 (g := g))
theorem mz_245_0 {g : xe_G} : mt_all (mnP mS) (mb_245_0 g) := mt_node_ok (mt_node_ok (mt_node_ok (mt_node_ok (mt_node_ok (mt_leaf_ok (mn_push)) (mt_node_ok (mt_leaf_ok (mn_isto)) (mt_leaf_ok (mn_push)))) (mt_node_ok (mt_leaf_ok (mn_isto)) (mt_node_ok (mt_leaf_ok (mn_iload)) (mt_leaf_ok (mn_iload))))) (mt_node_ok (mt_node_ok (mt_leaf_ok (mn_if2)) (mt_node_ok (mt_leaf_ok (mn_push)) (mt_leaf_ok (mn_iload)))) (mt_node_ok (mt_leaf_ok (mn_bin)) (mt_node_ok (mt_leaf_ok (mn_aload)) (mt_leaf_ok (mn_get)))))) (mt_node_ok (mt_node_ok (mt_node_ok (mt_leaf_ok (mn_iload)) (mt_node_ok (mt_leaf_ok (mn_ald)) (mt_leaf_ok (mn_bin)))) (mt_node_ok (mt_leaf_ok (mn_isto)) (mt_node_ok (mt_leaf_ok (mn_iinc)) (mt_leaf_ok (mn_goto))))) (mt_node_ok (mt_node_ok (mt_leaf_ok (mn_iload)) (mt_node_ok (mt_leaf_ok (mn_iload)) (mt_leaf_ok (mn_push)))) (mt_node_ok (mt_leaf_ok (mn_bin)) (mt_node_ok (mt_leaf_ok (mn_bin)) (mt_leaf_ok (mn_push))))))) (mt_node_ok (mt_node_ok (mt_node_ok (mt_node_ok (mt_leaf_ok (mn_bin)) (mt_node_ok (mt_leaf_ok (mn_isto)) (mt_leaf_ok (mn_aload)))) (mt_node_ok (mt_leaf_ok (mn_get)) (mt_node_ok (mt_leaf_ok (mn_iload)) (mt_leaf_ok (mn_ald))))) (mt_node_ok (mt_node_ok (mt_leaf_ok (mn_isto)) (mt_node_ok (mt_leaf_ok (mn_iload)) (mt_leaf_ok (mn_if)))) (mt_node_ok (mt_leaf_ok (mn_aload)) (mt_node_ok (mt_leaf_ok (mn_get)) (mt_leaf_ok (mn_iload)))))) (mt_node_ok (mt_node_ok (mt_node_ok (mt_leaf_ok (mn_ald)) (mt_node_ok (mt_leaf_ok (mn_iload)) (mt_leaf_ok (mn_if2)))) (mt_node_ok (mt_leaf_ok (mn_push)) (mt_node_ok (mt_leaf_ok (mn_goto)) (mt_leaf_ok (mn_push))))) (mt_node_ok (mt_node_ok (mt_leaf_ok (mn_isto)) (mt_node_ok (mt_leaf_ok (mn_push)) (mt_leaf_ok (mn_isto)))) (mt_node_ok (mt_leaf_ok (mn_iload)) (mt_node_ok (mt_leaf_ok (mn_iload)) (mt_leaf_ok (mn_if2)))))))
theorem mz_245_1 {g : xe_G} : mt_all (mnP mS) (mb_245_1 g) := mt_node_ok (mt_node_ok (mt_node_ok (mt_node_ok (mt_node_ok (mt_leaf_ok (mn_iload)) (mt_node_ok (mt_leaf_ok (mn_if)) (mt_leaf_ok (mn_aload)))) (mt_node_ok (mt_leaf_ok (mn_get)) (mt_node_ok (mt_leaf_ok (mn_aload)) (mt_leaf_ok (mn_get))))) (mt_node_ok (mt_node_ok (mt_leaf_ok (mn_iload)) (mt_node_ok (mt_leaf_ok (mn_ald)) (mt_leaf_ok (mn_iload)))) (mt_node_ok (mt_leaf_ok (mn_bin)) (mt_node_ok (mt_leaf_ok (mn_ald)) (mt_leaf_ok (mn_aload)))))) (mt_node_ok (mt_node_ok (mt_node_ok (mt_leaf_ok (mn_get)) (mt_node_ok (mt_leaf_ok (mn_iload)) (mt_leaf_ok (mn_ald)))) (mt_node_ok (mt_leaf_ok (mn_if2)) (mt_node_ok (mt_leaf_ok (mn_push)) (mt_leaf_ok (mn_goto))))) (mt_node_ok (mt_node_ok (mt_leaf_ok (mn_push)) (mt_node_ok (mt_leaf_ok (mn_isto)) (mt_leaf_ok (mn_iinc)))) (mt_node_ok (mt_leaf_ok (mn_goto)) (mt_node_ok (mt_leaf_ok (mn_iload)) (mt_leaf_ok (mn_if))))))) (mt_node_ok (mt_node_ok (mt_node_ok (mt_node_ok (mt_leaf_ok (mn_iload)) (mt_node_ok (mt_leaf_ok (trivial)) (mt_leaf_ok (mn_aload)))) (mt_node_ok (mt_leaf_ok (mn_get)) (mt_node_ok (mt_leaf_ok (mn_iload)) (mt_leaf_ok (mn_ald))))) (mt_node_ok (mt_node_ok (mt_leaf_ok (mn_isto)) (mt_node_ok (mt_leaf_ok (mn_goto)) (mt_leaf_ok (mn_push)))) (mt_node_ok (mt_leaf_ok (mn_isto)) (mt_node_ok (mt_leaf_ok (mn_iload)) (mt_leaf_ok (mn_iload)))))) (mt_node_ok (mt_node_ok (mt_node_ok (mt_leaf_ok (mn_if2)) (mt_node_ok (mt_leaf_ok (mn_aload)) (mt_leaf_ok (mn_get)))) (mt_node_ok (mt_leaf_ok (mn_aload)) (mt_node_ok (mt_leaf_ok (mn_get)) (mt_leaf_ok (mn_iload))))) (mt_node_ok (mt_node_ok (mt_leaf_ok (mn_bin)) (mt_node_ok (mt_leaf_ok (mn_aload)) (mt_leaf_ok (mn_get)))) (mt_node_ok (mt_leaf_ok (mn_iload)) (mt_node_ok (mt_leaf_ok (mn_ald)) (mt_leaf_ok (mn_ast)))))))
theorem mz_245_2 {g : xe_G} : mt_all (mnP mS) (mb_245_2 g) := mt_node_ok (mt_node_ok (mt_node_ok (mt_node_ok (mt_node_ok (mt_leaf_ok (mn_iinc)) (mt_leaf_ok (mn_goto))) (mt_node_ok (mt_leaf_ok (mn_aload)) (mt_node_ok (mt_leaf_ok (mn_dup)) (mt_leaf_ok (mn_get))))) (mt_node_ok (mt_node_ok (mt_leaf_ok (mn_dup_x1)) (mt_leaf_ok (mn_push))) (mt_node_ok (mt_leaf_ok (mn_bin)) (mt_node_ok (mt_leaf_ok (mn_put)) (mt_leaf_ok (mn_isto)))))) (mt_node_ok (mt_node_ok (mt_node_ok (mt_leaf_ok (mn_aload)) (mt_leaf_ok (mn_get))) (mt_node_ok (mt_leaf_ok (mn_iload)) (mt_node_ok (mt_leaf_ok (mn_aload)) (mt_leaf_ok (mn_get))))) (mt_node_ok (mt_node_ok (mt_leaf_ok (mn_ast)) (mt_node_ok (mt_leaf_ok (mn_aload)) (mt_leaf_ok (mn_get)))) (mt_node_ok (mt_leaf_ok (mn_iload)) (mt_node_ok (mt_leaf_ok (mn_iload)) (mt_leaf_ok (mn_ast))))))) (mt_node_ok (mt_node_ok (mt_node_ok (mt_node_ok (mt_leaf_ok (mn_aload)) (mt_leaf_ok (mn_get))) (mt_node_ok (mt_leaf_ok (mn_iload)) (mt_node_ok (mt_leaf_ok (mn_aload)) (mt_leaf_ok (mn_get))))) (mt_node_ok (mt_node_ok (mt_leaf_ok (mn_iload)) (mt_leaf_ok (mn_ald))) (mt_node_ok (mt_leaf_ok (mn_ast)) (mt_node_ok (mt_leaf_ok (mn_aload)) (mt_leaf_ok (mn_get)))))) (mt_node_ok (mt_node_ok (mt_node_ok (mt_leaf_ok (mn_iload)) (mt_leaf_ok (mn_iload))) (mt_node_ok (mt_leaf_ok (mn_ast)) (mt_node_ok (mt_leaf_ok (mn_aload)) (mt_leaf_ok (mn_dup))))) (mt_node_ok (mt_node_ok (mt_leaf_ok (mn_get)) (mt_node_ok (mt_leaf_ok (mn_iload)) (mt_leaf_ok (mn_bin)))) (mt_node_ok (mt_leaf_ok (mn_put)) (mt_node_ok (mt_leaf_ok (mn_iload)) (mt_leaf_ok (trivial)))))))
theorem mz_245 {g : xe_G} : mt_all (mnP mS) (mb_245 g).2.1 := mt_node_ok ((mz_245_0 (g := g))) (mt_node_ok ((mz_245_1 (g := g))) ((mz_245_2 (g := g))))
theorem mz_246_0 {g : xe_G} : mt_all (mnP mS) (mb_246_0 g) := mt_node_ok (mt_node_ok (mt_node_ok (mt_node_ok (mt_leaf_ok (mn_push)) (mt_leaf_ok (mn_isto))) (mt_node_ok (mt_leaf_ok (mn_iload)) (mt_node_ok (mt_leaf_ok (mn_aload)) (mt_leaf_ok (mn_slength))))) (mt_node_ok (mt_node_ok (mt_leaf_ok (mn_if2)) (mt_leaf_ok (mn_aload))) (mt_node_ok (mt_leaf_ok (mn_get)) (mt_node_ok (mt_leaf_ok (mn_iload)) (mt_leaf_ok (mn_aload)))))) (mt_node_ok (mt_node_ok (mt_node_ok (mt_leaf_ok (mn_iload)) (mt_leaf_ok (mn_scharAt))) (mt_node_ok (mt_leaf_ok (mn_ast)) (mt_node_ok (mt_leaf_ok (mn_iinc)) (mt_leaf_ok (mn_goto))))) (mt_node_ok (mt_node_ok (mt_leaf_ok (mn_aload)) (mt_leaf_ok (mn_aload))) (mt_node_ok (mt_leaf_ok (mn_slength)) (mt_node_ok (mt_leaf_ok (rfl)) (mt_leaf_ok (trivial))))))
theorem mz_246 {g : xe_G} : mt_all (mnP mS) (mb_246 g).2.1 := (mz_246_0 (g := g))
theorem mz_247_0 {g : xe_G} : mt_all (mnP mS) (mb_247_0 g) := mt_node_ok (mt_node_ok (mt_node_ok (mt_node_ok (mt_leaf_ok (mn_iload)) (mt_node_ok (mt_leaf_ok (mn_if)) (mt_leaf_ok (mn_iload)))) (mt_node_ok (mt_leaf_ok (mn_aload)) (mt_node_ok (mt_leaf_ok (mn_get)) (mt_leaf_ok (mn_if2))))) (mt_node_ok (mt_node_ok (mt_leaf_ok (mn_aload)) (mt_node_ok (mt_leaf_ok (mn_get)) (mt_leaf_ok (mn_aload)))) (mt_node_ok (mt_node_ok (mt_leaf_ok (mn_get)) (mt_leaf_ok (mn_iload))) (mt_node_ok (mt_leaf_ok (mn_bin)) (mt_leaf_ok (mn_ald)))))) (mt_node_ok (mt_node_ok (mt_node_ok (mt_leaf_ok (mn_if)) (mt_node_ok (mt_leaf_ok (mn_push)) (mt_leaf_ok (mn_goto)))) (mt_node_ok (mt_leaf_ok (mn_aload)) (mt_node_ok (mt_leaf_ok (mn_aload)) (mt_leaf_ok (mn_get))))) (mt_node_ok (mt_node_ok (mt_leaf_ok (mn_aload)) (mt_node_ok (mt_leaf_ok (mn_get)) (mt_leaf_ok (mn_iload)))) (mt_node_ok (mt_node_ok (mt_leaf_ok (mn_bin)) (mt_leaf_ok (mn_ald))) (mt_node_ok (mt_leaf_ok (rfl)) (mt_leaf_ok (trivial))))))
theorem mz_247 {g : xe_G} : mt_all (mnP mS) (mb_247 g).2.1 := (mz_247_0 (g := g))
theorem mz_249_0 {g : xe_G} : mt_all (mnP mS) (mb_249_0 g) := mt_node_ok (mt_node_ok (mt_node_ok (mt_leaf_ok (mn_aload)) (mt_leaf_ok (mn_get))) (mt_node_ok (mt_leaf_ok (mn_aload)) (mt_node_ok (mt_leaf_ok (mn_get)) (mt_leaf_ok (mn_iload))))) (mt_node_ok (mt_node_ok (mt_leaf_ok (mn_bin)) (mt_leaf_ok (mn_ald))) (mt_node_ok (mt_leaf_ok (mn_push)) (mt_node_ok (mt_leaf_ok (mn_bin)) (mt_leaf_ok (trivial)))))
theorem mz_249 {g : xe_G} : mt_all (mnP mS) (mb_249 g).2.1 := (mz_249_0 (g := g))
theorem mz_250_0 {g : xe_G} : mt_all (mnP mS) (mb_250_0 g) := mt_node_ok (mt_node_ok (mt_node_ok (mt_leaf_ok (mn_aload)) (mt_node_ok (mt_leaf_ok (mn_iload)) (mt_leaf_ok (rfl)))) (mt_node_ok (mt_leaf_ok (mn_push)) (mt_node_ok (mt_leaf_ok (mn_bin)) (mt_leaf_ok (mn_aload))))) (mt_node_ok (mt_node_ok (mt_leaf_ok (mn_iload)) (mt_node_ok (mt_leaf_ok (mn_push)) (mt_leaf_ok (mn_bin)))) (mt_node_ok (mt_leaf_ok (rfl)) (mt_node_ok (mt_leaf_ok (mn_bin)) (mt_leaf_ok (trivial)))))
theorem mz_250 {g : xe_G} : mt_all (mnP mS) (mb_250 g).2.1 := (mz_250_0 (g := g))
theorem mz_251_0 {g : xe_G} : mt_all (mnP mS) (mb_251_0 g) := mt_node_ok (mt_node_ok (mt_node_ok (mt_leaf_ok (mn_aload)) (mt_node_ok (mt_leaf_ok (mn_iload)) (mt_leaf_ok (rfl)))) (mt_node_ok (mt_node_ok (mt_leaf_ok (mn_i2l)) (mt_leaf_ok (mn_push))) (mt_node_ok (mt_leaf_ok (mn_lshl)) (mt_leaf_ok (mn_aload))))) (mt_node_ok (mt_node_ok (mt_leaf_ok (mn_iload)) (mt_node_ok (mt_leaf_ok (mn_push)) (mt_leaf_ok (mn_bin)))) (mt_node_ok (mt_node_ok (mt_leaf_ok (rfl)) (mt_leaf_ok (mn_i2l))) (mt_node_ok (mt_leaf_ok (mn_binL)) (mt_leaf_ok (trivial)))))
theorem mz_251 {g : xe_G} : mt_all (mnP mS) (mb_251 g).2.1 := (mz_251_0 (g := g))
theorem mz_252_0 {g : xe_G} : mt_all (mnP mS) (mb_252_0 g) := mt_node_ok (mt_node_ok (mt_node_ok (mt_node_ok (mt_node_ok (mt_leaf_ok (mn_aload)) (mt_leaf_ok (mn_iload))) (mt_node_ok (mt_leaf_ok (rfl)) (mt_node_ok (mt_leaf_ok (mn_isto)) (mt_leaf_ok (mn_push))))) (mt_node_ok (mt_node_ok (mt_leaf_ok (mn_isto)) (mt_node_ok (mt_leaf_ok (mn_iload)) (mt_leaf_ok (mn_iload)))) (mt_node_ok (mt_leaf_ok (mn_if2)) (mt_node_ok (mt_leaf_ok (mn_aload)) (mt_leaf_ok (mn_iload)))))) (mt_node_ok (mt_node_ok (mt_node_ok (mt_leaf_ok (mn_iload)) (mt_leaf_ok (rfl))) (mt_node_ok (mt_leaf_ok (mn_isto)) (mt_node_ok (mt_leaf_ok (mn_iload)) (mt_leaf_ok (mn_push))))) (mt_node_ok (mt_node_ok (mt_leaf_ok (mn_if2)) (mt_node_ok (mt_leaf_ok (mn_iload)) (mt_leaf_ok (mn_push)))) (mt_node_ok (mt_leaf_ok (mn_if2)) (mt_node_ok (mt_leaf_ok (mn_iload)) (mt_leaf_ok (mn_push))))))) (mt_node_ok (mt_node_ok (mt_node_ok (mt_node_ok (mt_leaf_ok (mn_if2)) (mt_leaf_ok (mn_iload))) (mt_node_ok (mt_leaf_ok (mn_push)) (mt_node_ok (mt_leaf_ok (mn_if2)) (mt_leaf_ok (mn_iload))))) (mt_node_ok (mt_node_ok (mt_leaf_ok (mn_if)) (mt_node_ok (mt_leaf_ok (mn_iload)) (mt_leaf_ok (mn_push)))) (mt_node_ok (mt_leaf_ok (mn_if2)) (mt_node_ok (mt_leaf_ok (mn_iload)) (mt_leaf_ok (mn_push)))))) (mt_node_ok (mt_node_ok (mt_node_ok (mt_leaf_ok (mn_if2)) (mt_leaf_ok (mn_push))) (mt_node_ok (mt_leaf_ok (trivial)) (mt_node_ok (mt_leaf_ok (mn_iinc)) (mt_leaf_ok (mn_goto))))) (mt_node_ok (mt_node_ok (mt_leaf_ok (mn_iload)) (mt_node_ok (mt_leaf_ok (mn_if)) (mt_leaf_ok (mn_push)))) (mt_node_ok (mt_leaf_ok (mn_goto)) (mt_node_ok (mt_leaf_ok (mn_push)) (mt_leaf_ok (trivial)))))))
theorem mz_252 {g : xe_G} : mt_all (mnP mS) (mb_252 g).2.1 := (mz_252_0 (g := g))
theorem mz_253_0 {g : xe_G} : mt_all (mnP mS) (mb_253_0 g) := mt_node_ok (mt_node_ok (mt_node_ok (mt_node_ok (mt_node_ok (mt_leaf_ok (mn_push)) (mt_node_ok (mt_leaf_ok (mn_isto)) (mt_leaf_ok (mn_iload)))) (mt_node_ok (mt_leaf_ok (mn_isto)) (mt_node_ok (mt_leaf_ok (mn_iload)) (mt_leaf_ok (mn_iload))))) (mt_node_ok (mt_node_ok (mt_leaf_ok (mn_bin)) (mt_node_ok (mt_leaf_ok (mn_isto)) (mt_leaf_ok (mn_iload)))) (mt_node_ok (mt_leaf_ok (mn_iload)) (mt_node_ok (mt_leaf_ok (mn_if2)) (mt_leaf_ok (mn_aload)))))) (mt_node_ok (mt_node_ok (mt_node_ok (mt_leaf_ok (mn_iload)) (mt_node_ok (mt_leaf_ok (rfl)) (mt_leaf_ok (mn_isto)))) (mt_node_ok (mt_leaf_ok (mn_iload)) (mt_node_ok (mt_leaf_ok (mn_if)) (mt_leaf_ok (mn_iload))))) (mt_node_ok (mt_node_ok (mt_leaf_ok (mn_push)) (mt_node_ok (mt_leaf_ok (mn_if2)) (mt_leaf_ok (mn_iload)))) (mt_node_ok (mt_leaf_ok (mn_push)) (mt_node_ok (mt_leaf_ok (mn_if2)) (mt_leaf_ok (mn_iload))))))) (mt_node_ok (mt_node_ok (mt_node_ok (mt_node_ok (mt_leaf_ok (mn_push)) (mt_node_ok (mt_leaf_ok (mn_if2)) (mt_leaf_ok (mn_aload)))) (mt_node_ok (mt_leaf_ok (mn_push)) (mt_node_ok (mt_leaf_ok (mn_iload)) (mt_leaf_ok (rfl))))) (mt_node_ok (mt_node_ok (mt_leaf_ok (trivial)) (mt_node_ok (mt_leaf_ok (mn_iload)) (mt_leaf_ok (mn_push)))) (mt_node_ok (mt_leaf_ok (mn_if2)) (mt_node_ok (mt_leaf_ok (mn_push)) (mt_leaf_ok (mn_goto)))))) (mt_node_ok (mt_node_ok (mt_node_ok (mt_leaf_ok (mn_iload)) (mt_node_ok (mt_leaf_ok (mn_push)) (mt_leaf_ok (mn_if2)))) (mt_node_ok (mt_leaf_ok (mn_push)) (mt_node_ok (mt_leaf_ok (mn_goto)) (mt_leaf_ok (mn_push))))) (mt_node_ok (mt_node_ok (mt_leaf_ok (mn_isto)) (mt_node_ok (mt_leaf_ok (mn_push)) (mt_leaf_ok (mn_isto)))) (mt_node_ok (mt_leaf_ok (mn_iload)) (mt_node_ok (mt_leaf_ok (mn_iload)) (mt_leaf_ok (mn_if2)))))))
theorem mz_253_1 {g : xe_G} : mt_all (mnP mS) (mb_253_1 g) := mt_node_ok (mt_node_ok (mt_node_ok (mt_node_ok (mt_node_ok (mt_leaf_ok (mn_iload)) (mt_node_ok (mt_leaf_ok (mn_iload)) (mt_leaf_ok (mn_bin)))) (mt_node_ok (mt_leaf_ok (mn_iload)) (mt_node_ok (mt_leaf_ok (mn_if2)) (mt_leaf_ok (mn_aload))))) (mt_node_ok (mt_node_ok (mt_leaf_ok (mn_iload)) (mt_node_ok (mt_leaf_ok (mn_iload)) (mt_leaf_ok (mn_bin)))) (mt_node_ok (mt_leaf_ok (rfl)) (mt_node_ok (mt_leaf_ok (mn_push)) (mt_leaf_ok (mn_bin)))))) (mt_node_ok (mt_node_ok (mt_node_ok (mt_leaf_ok (mn_push)) (mt_node_ok (mt_leaf_ok (mn_if2)) (mt_leaf_ok (mn_aload)))) (mt_node_ok (mt_leaf_ok (mn_push)) (mt_node_ok (mt_leaf_ok (mn_iload)) (mt_leaf_ok (rfl))))) (mt_node_ok (mt_node_ok (mt_leaf_ok (trivial)) (mt_node_ok (mt_leaf_ok (mn_iinc)) (mt_leaf_ok (mn_goto)))) (mt_node_ok (mt_leaf_ok (mn_aload)) (mt_node_ok (mt_leaf_ok (mn_get)) (mt_leaf_ok (mn_iload))))))) (mt_node_ok (mt_node_ok (mt_node_ok (mt_node_ok (mt_leaf_ok (mn_iinc)) (mt_node_ok (mt_leaf_ok (mn_iload)) (mt_leaf_ok (mn_if)))) (mt_node_ok (mt_leaf_ok (mn_iload)) (mt_node_ok (mt_leaf_ok (mn_goto)) (mt_leaf_ok (mn_iload))))) (mt_node_ok (mt_node_ok (mt_leaf_ok (mn_push)) (mt_node_ok (mt_leaf_ok (mn_if2)) (mt_leaf_ok (mn_iload)))) (mt_node_ok (mt_leaf_ok (mn_push)) (mt_node_ok (mt_leaf_ok (mn_bin)) (mt_leaf_ok (mn_push)))))) (mt_node_ok (mt_node_ok (mt_node_ok (mt_leaf_ok (mn_bin)) (mt_node_ok (mt_leaf_ok (mn_aload)) (mt_leaf_ok (mn_iload)))) (mt_node_ok (mt_leaf_ok (mn_push)) (mt_node_ok (mt_leaf_ok (mn_bin)) (mt_leaf_ok (rfl))))) (mt_node_ok (mt_node_ok (mt_leaf_ok (mn_push)) (mt_node_ok (mt_leaf_ok (mn_bin)) (mt_leaf_ok (mn_bin)))) (mt_node_ok (mt_leaf_ok (mn_goto)) (mt_node_ok (mt_leaf_ok (mn_iload)) (mt_leaf_ok (mn_push)))))))
theorem mz_253_2 {g : xe_G} : mt_all (mnP mS) (mb_253_2 g) := mt_node_ok (mt_node_ok (mt_node_ok (mt_node_ok (mt_node_ok (mt_leaf_ok (mn_bin)) (mt_leaf_ok (mn_push))) (mt_node_ok (mt_leaf_ok (mn_bin)) (mt_leaf_ok (mn_aload)))) (mt_node_ok (mt_node_ok (mt_leaf_ok (mn_iload)) (mt_leaf_ok (mn_push))) (mt_node_ok (mt_leaf_ok (mn_bin)) (mt_node_ok (mt_leaf_ok (rfl)) (mt_leaf_ok (mn_push)))))) (mt_node_ok (mt_node_ok (mt_node_ok (mt_leaf_ok (mn_bin)) (mt_leaf_ok (mn_push))) (mt_node_ok (mt_leaf_ok (mn_bin)) (mt_node_ok (mt_leaf_ok (mn_bin)) (mt_leaf_ok (mn_aload))))) (mt_node_ok (mt_node_ok (mt_leaf_ok (mn_iload)) (mt_leaf_ok (mn_push))) (mt_node_ok (mt_leaf_ok (mn_bin)) (mt_node_ok (mt_leaf_ok (rfl)) (mt_leaf_ok (mn_push))))))) (mt_node_ok (mt_node_ok (mt_node_ok (mt_node_ok (mt_leaf_ok (mn_bin)) (mt_leaf_ok (mn_bin))) (mt_node_ok (mt_leaf_ok (mn_un)) (mt_node_ok (mt_leaf_ok (mn_ast)) (mt_leaf_ok (mn_iload))))) (mt_node_ok (mt_node_ok (mt_leaf_ok (mn_iload)) (mt_leaf_ok (mn_push))) (mt_node_ok (mt_leaf_ok (mn_bin)) (mt_node_ok (mt_leaf_ok (mn_bin)) (mt_leaf_ok (mn_isto)))))) (mt_node_ok (mt_node_ok (mt_node_ok (mt_leaf_ok (mn_goto)) (mt_leaf_ok (mn_aload))) (mt_node_ok (mt_leaf_ok (mn_get)) (mt_node_ok (mt_leaf_ok (mn_iload)) (mt_leaf_ok (mn_aload))))) (mt_node_ok (mt_node_ok (mt_leaf_ok (mn_iload)) (mt_leaf_ok (rfl))) (mt_node_ok (mt_leaf_ok (mn_ast)) (mt_node_ok (mt_leaf_ok (mn_push)) (mt_leaf_ok (trivial)))))))
theorem mz_253 {g : xe_G} : mt_all (mnP mS) (mb_253 g).2.1 := mt_node_ok ((mz_253_0 (g := g))) (mt_node_ok ((mz_253_1 (g := g))) ((mz_253_2 (g := g))))
theorem mz_257_0 {g : xe_G} : mt_all (mnP mS) (mb_257_0 g) := mt_node_ok (mt_node_ok (mt_node_ok (mt_leaf_ok (mn_aload)) (mt_leaf_ok (mn_iload))) (mt_node_ok (mt_leaf_ok (mn_put)) (mt_leaf_ok (mn_aload)))) (mt_node_ok (mt_node_ok (mt_leaf_ok (mn_iload)) (mt_leaf_ok (mn_put))) (mt_node_ok (mt_leaf_ok (mn_push)) (mt_leaf_ok (trivial))))
theorem mz_257 {g : xe_G} : mt_all (mnP mS) (mb_257 g).2.1 := (mz_257_0 (g := g))
theorem mz_all {g : xe_G} : mnT (mT g) mS := by
  intro y b hy hb
  simp only [mS, List.mem_cons, List.not_mem_nil, or_false] at hy
  rcases hy with rfl | rfl | rfl | rfl | rfl | rfl | rfl | rfl | rfl | rfl | rfl | rfl | rfl | rfl | rfl | rfl | rfl | rfl | rfl | rfl | rfl | rfl | rfl | rfl | rfl | rfl | rfl | rfl | rfl | rfl | rfl | rfl | rfl | rfl | rfl | rfl | rfl | rfl | rfl | rfl | rfl | rfl | rfl | rfl | rfl
  · cases (show some (mb_175 g) = some b from hb)
    exact mz_175 (g := g)
  · cases (show some (mb_176 g) = some b from hb)
    exact mz_176 (g := g)
  · cases (show some (mb_177 g) = some b from hb)
    exact mz_177 (g := g)
  · cases (show some (mb_178 g) = some b from hb)
    exact mz_178 (g := g)
  · cases (show some (mb_185 g) = some b from hb)
    exact mz_185 (g := g)
  · cases (show some (mb_187 g) = some b from hb)
    exact mz_187 (g := g)
  · cases (show some (mb_188 g) = some b from hb)
    exact mz_188 (g := g)
  · cases (show some (mb_189 g) = some b from hb)
    exact mz_189 (g := g)
  · cases (show some (mb_190 g) = some b from hb)
    exact mz_190 (g := g)
  · cases (show some (mb_191 g) = some b from hb)
    exact mz_191 (g := g)
  · cases (show some (mb_192 g) = some b from hb)
    exact mz_192 (g := g)
  · cases (show some (mb_193 g) = some b from hb)
    exact mz_193 (g := g)
  · cases (show some (mb_194 g) = some b from hb)
    exact mz_194 (g := g)
  · cases (show some (mb_195 g) = some b from hb)
    exact mz_195 (g := g)
  · cases (show some (mb_196 g) = some b from hb)
    exact mz_196 (g := g)
  · cases (show some (mb_197 g) = some b from hb)
    exact mz_197 (g := g)
  · cases (show some (mb_203 g) = some b from hb)
    exact mz_203 (g := g)
  · cases (show some (mb_206 g) = some b from hb)
    exact mz_206 (g := g)
  · cases (show some (mb_209 g) = some b from hb)
    exact mz_209 (g := g)
  · cases (show some (mb_212 g) = some b from hb)
    exact mz_212 (g := g)
  · cases (show some (mb_213 g) = some b from hb)
    exact mz_213 (g := g)
  · cases (show some (mb_214 g) = some b from hb)
    exact mz_214 (g := g)
  · cases (show some (mb_216 g) = some b from hb)
    exact mz_216 (g := g)
  · cases (show some (mb_217 g) = some b from hb)
    exact mz_217 (g := g)
  · cases (show some (mb_218 g) = some b from hb)
    exact mz_218 (g := g)
  · cases (show some (mb_219 g) = some b from hb)
    exact mz_219 (g := g)
  · cases (show some (mb_221 g) = some b from hb)
    exact mz_221 (g := g)
  · cases (show some (mb_224 g) = some b from hb)
    exact mz_224 (g := g)
  · cases (show some (mb_226 g) = some b from hb)
    exact mz_226 (g := g)
  · cases (show some (mb_230 g) = some b from hb)
    exact mz_230 (g := g)
  · cases (show some (mb_233 g) = some b from hb)
    exact mz_233 (g := g)
  · cases (show some (mb_235 g) = some b from hb)
    exact mz_235 (g := g)
  · cases (show some (mb_237 g) = some b from hb)
    exact mz_237 (g := g)
  · cases (show some (mb_238 g) = some b from hb)
    exact mz_238 (g := g)
  · cases (show some (mb_242 g) = some b from hb)
    exact mz_242 (g := g)
  · cases (show some (mb_244 g) = some b from hb)
    exact mz_244 (g := g)
  · cases (show some (mb_245 g) = some b from hb)
    exact mz_245 (g := g)
  · cases (show some (mb_246 g) = some b from hb)
    exact mz_246 (g := g)
  · cases (show some (mb_247 g) = some b from hb)
    exact mz_247 (g := g)
  · cases (show some (mb_249 g) = some b from hb)
    exact mz_249 (g := g)
  · cases (show some (mb_250 g) = some b from hb)
    exact mz_250 (g := g)
  · cases (show some (mb_251 g) = some b from hb)
    exact mz_251 (g := g)
  · cases (show some (mb_252 g) = some b from hb)
    exact mz_252 (g := g)
  · cases (show some (mb_253 g) = some b from hb)
    exact mz_253 (g := g)
  · cases (show some (mb_257 g) = some b from hb)
    exact mz_257 (g := g)
end
section
/-! the reference: look-ups (my own text) -/
section MIA5
def AGX (c : Int32 → Int32) (n a : Int32) : Prop := ∃ m b, itr (AG1 c n) m a b ∧ 0 ≤ b.toInt ∧ b.toInt + 1 < n.toInt ∧ c b = 41
theorem AGX.w {c : Int32 → Int32} {n a : Int32} (h : AGX c n a) : AGW c n a := by
  obtain ⟨m, b, h1, h2, h3, h4⟩ := h
  exact ⟨m, b, h1, h2, by omega, h4⟩
theorem AGX.next {c : Int32 → Int32} {n a : Int32} (h : AGX c n a) (ha : ¬ c a = 41) : a.toInt < (FTx c n a).toInt ∧ AGX c n (FTx c n a) := by
  obtain ⟨m, b, h1, h2, h3, h4⟩ := h
  cases m with
  | zero => cases h1; exact absurd h4 ha
  | succ m =>
    obtain ⟨c1, h5, h6⟩ := h1.front
    obtain ⟨d1, d2, d3, d4, d5, d6⟩ := h5
    subst d4
    exact ⟨d5, m, b, h6, h2, h3, h4⟩
theorem AGX.end {c : Int32 → Int32} {n a : Int32} (h : AGX c n a) (ha : c a = 41) : 0 ≤ a.toInt ∧ a.toInt + 1 < n.toInt := by
  obtain ⟨m, b, h1, h2, h3, h4⟩ := h
  cases m with
  | zero => cases h1; exact ⟨h2, h3⟩
  | succ m =>
    obtain ⟨c1, h5, h6⟩ := h1.front
    exact absurd ha h5.2.2.1
theorem i_ltn {x : Int32} {k : Nat} (h : x < nI k) (hk : k ≤ 8192) : x.toInt < k := by
  have := i_lt h
  rw [nI_val (by omega)] at this
  exact this
theorem i_lt8 {x : Int32} {k : Nat} (h : x < nI k) (hk : k ≤ 8192) : x < 8192 := by
  have := i_ltn h hk
  apply Int32.lt_iff_toInt_lt.mpr
  have : (8192 : Int32).toInt = 8192 := rfl
  omega
theorem esz_mid {t : Int32} (h1 : ¬ t < 9) (h2 : t ≤ 12) : esz t = 5 ∧ t ≠ 0 := by
  have a := i_nlt h1
  have b := i_le h2
  have a9 : (9 : Int32).toInt = 9 := rfl
  have b12 : (12 : Int32).toInt = 12 := rfl
  have h : t.toInt = 9 ∨ t.toInt = 10 ∨ t.toInt = 11 ∨ t.toInt = 12 := by omega
  have h' : t = 9 ∨ t = 10 ∨ t = 11 ∨ t = 12 := h.imp (fun e => Int32.toInt_inj.mp e) (fun h => h.imp (fun e => Int32.toInt_inj.mp e) (fun h => h.imp (fun e => Int32.toInt_inj.mp e) (fun e => Int32.toInt_inj.mp e)))
  rcases h' with h | h | h | h <;> rw [h] <;> exact ⟨rfl, by decide⟩
/-- the first bytes of a row are known -/
def KB (k c : Nat) (R : rR) : Prop := ∀ i, i < c → ∃ b, R k i = some b
theorem KB.put {k c : Nat} {R R' : rR} {i x : Int32} (h : KB k c R) (h0 : i.toInt = c) (h1 : R' k i.toNatClampNeg = some x) (h2 : ∀ b, b ≠ i.toNatClampNeg → R' k b = R k b) : KB k (c + 1) R' := by
  intro b hb
  by_cases e : b = i.toNatClampNeg
  · exact ⟨x, e ▸ h1⟩
  · rw [h2 b e]
    have : i.toNatClampNeg = i.toInt.toNat := rfl
    exact h b (by omega)
theorem KB.eq {k c : Nat} {R R' : rR} (h : KB k c R) (e : R' k = R k) : KB k c R' := fun i hi => by rw [e]; exact h i hi
theorem KB.le {k c c' : Nat} {R : rR} (h : KB k c R) (e : c' ≤ c) : KB k c' R := fun i hi => h i (by omega)
theorem nI_s1 {c : Nat} (h : c ≤ 65540) : nI c + 1 = nI (c + 1) := by
  apply Int32.toInt_inj.mp
  have e1 : (1 : Int32).toInt = 1 := rfl
  rw [i_add (by rw [nI_val (by omega)]; omega) (by rw [nI_val (by omega)]; omega), nI_val (by omega), nI_val (by omega), e1]
  omega
end MIA5
end
section
/-! the reference: look-ups (laid by wip/p2/c73.py) -/
set_option maxHeartbeats 2000000 in
theorem rm_bad {g : xe_G}  {m0 : Nat} {q : Nat → Nat} {z : Nat × Nat} {I : rI} {R : rR} {M : mi_H}  (hR : RS g m0 q z I R M) {d : Nat} (hd : 1 ≤ d) : mt (mT g) d 182 [.ref m0] M (fun v M' => ∃ (x : Int32) (I' : rI) (R' : rR), v = some (.int x) ∧ RS g m0 q z I' R' M' ∧ eqI [0] I I' ∧ eqR [] R R' ∧ I' 0 = some 1) := by
  obtain ⟨d, rfl⟩ : ∃ e, d = e + 1 := ⟨d - 1, by omega⟩
  refine mt_in (b := mb_182 g) rfl rfl ?_
  show ml (mT g) d (mb_182 g).2 (0, [(0, .ref m0)], [], M) _
  refine ml_blk 2 (S' := (2, [(0, .ref m0)], [.int 1, .ref m0], M)) rfl ?_
  refine rp_int rfl hR rfl (fun M11 I12 hR13 e14 f15 => ?_)
  show ml _ _ _ (5, [(0, .ref m0)], [], M11) _
  refine ml_st (S' := (6, [(0, .ref m0)], [.int 0], M11)) rfl rfl rfl ?_
  exact ml_ret rfl (rfl) (⟨_, _, _, rfl, hR13, (eqI.rf.put f15 (by decide)), eqR.rf, e14⟩)
set_option maxHeartbeats 2000000 in
theorem rm_place {g : xe_G}  {m0 : Nat} {q : Nat → Nat} {z : Nat × Nat} {I : rI} {R : rR} {M : mi_H} {lp : Int32}  (hR : RS g m0 q z I R M) (hk73 : I 73 = some lp) {d : Nat} (hd : 1 ≤ d) : mt (mT g) d 231 [.ref m0] M (fun v M' => ∃ (x : Int32) (I' : rI) (R' : rR), v = some (.int x) ∧ RS g m0 q z I' R' M' ∧ eqI [0] I I' ∧ eqR [] R R') := by
  obtain ⟨d, rfl⟩ : ∃ e, d = e + 1 := ⟨d - 1, by omega⟩
  refine mt_in (b := mb_231 g) rfl rfl ?_
  show ml (mT g) d (mb_231 g).2 (0, [(0, .ref m0)], [], M) _
  refine ml_blk 2 (S' := (2, [(0, .ref m0)], [.int 0, .ref m0], M)) rfl ?_
  refine rp_int rfl hR rfl (fun M11 I12 hR13 e14 f15 => ?_)
  show ml _ _ _ (5, [(0, .ref m0)], [], M11) _
  refine ml_st (S' := (6, [(0, .ref m0)], [.ref m0], M11)) rfl rfl rfl ?_
  refine rg_int (S' := (9, [(0, .ref m0)], [.int lp], M11)) rfl hR13 rfl ((f15 73 (by decide)).trans (hk73)) rfl ?_
  exact ml_ret rfl (rfl) (⟨_, _, _, rfl, hR13, (eqI.rf.put f15 (by decide)), eqR.rf⟩)
set_option maxHeartbeats 2000000 in
theorem rm_thrown {g : xe_G}  {m0 : Nat} {q : Nat → Nat} {z : Nat × Nat} {I : rI} {R : rR} {M : mi_H} {th : Int32}  (hR : RS g m0 q z I R M) (hk0 : I 0 = some th) {d : Nat} (hd : 1 ≤ d) : mt (mT g) d 248 [.ref m0] M (fun v M' => v = some (.int th) ∧ M' = M) := by
  obtain ⟨d, rfl⟩ : ∃ e, d = e + 1 := ⟨d - 1, by omega⟩
  refine mt_in (b := mb_248 g) rfl rfl ?_
  show ml (mT g) d (mb_248 g).2 (0, [(0, .ref m0)], [], M) _
  refine ml_st (S' := (1, [(0, .ref m0)], [.ref m0], M)) rfl rfl rfl ?_
  refine rg_int (S' := (4, [(0, .ref m0)], [.int th], M)) rfl hR rfl (hk0) rfl ?_
  exact ml_ret rfl (rfl) (⟨rfl, rfl⟩)
set_option maxHeartbeats 2000000 in
theorem rm_count {g : xe_G}  {m0 : Nat} {q : Nat → Nat} {z : Nat × Nat} {I : rI} {R : rR} {M : mi_H} {x1 kn : Int32} {n : Nat} {f : Nat → Int32}  (hR : RS g m0 q z I R M) (hk18 : I 18 = some kn) (hG : (kn < 0 ∨ GD n f I R)) {d : Nat} (hd : 3 ≤ d) : mt (mT g) d 198 [.ref m0, .int x1] M (fun v M' => ∃ (x : Int32) (I' : rI) (R' : rR), v = some (.int x) ∧ RS g m0 q z I' R' M' ∧ eqI [0] I I' ∧ eqR [] R R') := by
  obtain ⟨d, rfl⟩ : ∃ e, d = e + 1 := ⟨d - 1, by omega⟩
  refine mt_in (b := mb_198 g) rfl rfl ?_
  show ml (mT g) d (mb_198 g).2 (0, [(0, .ref m0), (1, .int x1)], [], M) _
  refine ml_blk 2 (S' := (2, [(0, .ref m0), (1, .int x1)], [.int 0, .ref m0], M)) rfl ?_
  refine rp_int rfl hR rfl (fun M11 I12 hR13 e14 f15 => ?_)
  show ml _ _ _ (5, [(0, .ref m0), (1, .int x1)], [], M11) _
  refine ml_st (S' := (6, [(0, .ref m0), (1, .int x1)], [.int x1], M11)) rfl rfl rfl ?_
  refine ml_if (S1 := (15, [(0, .ref m0)], [], M11)) (S2 := (9, [(0, .ref m0), (1, .int x1)], [], M11)) rfl rfl rfl (fun c_6 => ?_) (fun c_6 => ?_)
  · have c_6 : x1 < 0 := of_decide_eq_true c_6
    refine ml_st (S' := (16, [(0, .ref m0)], [.ref m0], M11)) rfl rfl rfl ?_
    refine ml_call (a := [.ref m0]) (rest := []) rfl (hR13.okc rfl rfl rfl) rfl rfl (rm_bad hR13 (by omega)) (fun v16 M17 h18 => ?_)
    obtain ⟨u24, I19, R20, rfl, hR21, hI22, hV23, w25⟩ := h18
    show ml _ _ _ (19, [(0, .ref m0)], [.int u24], M17) _
    exact ml_ret rfl (rfl) (⟨_, _, _, rfl, hR21, ((eqI.rf.put f15 (by decide)).tr hI22 (by decide)), (eqR.rf.tr hV23 (by decide))⟩)
  · have c_6 : ¬ (x1 < 0) := of_decide_eq_false c_6
    refine ml_blk 2 (S' := (12, [(0, .ref m0), (1, .int x1)], [.int 15, .int x1], M11)) rfl ?_
    refine ml_if2 (S1 := (20, [(0, .ref m0), (1, .int x1)], [], M11)) (S2 := (15, [(0, .ref m0)], [], M11)) rfl rfl rfl (fun c_12 => ?_) (fun c_12 => ?_)
    · have c_12 : x1 ≤ 15 := of_decide_eq_true c_12
      refine ml_st (S' := (21, [(0, .ref m0), (1, .int x1)], [.ref m0], M11)) rfl rfl rfl ?_
      refine rg_int (S' := (24, [(0, .ref m0), (1, .int x1)], [.int kn], M11)) rfl hR13 rfl ((f15 18 (by decide)).trans (hk18)) rfl ?_
      refine ml_if (S1 := (29, [(0, .ref m0), (1, .int x1)], [], M11)) (S2 := (27, [(0, .ref m0), (1, .int x1)], [], M11)) rfl rfl rfl (fun c_24 => ?_) (fun c_24 => ?_)
      · have c_24 : 0 ≤ kn := of_decide_eq_true c_24
        obtain ⟨S, cN, sa, sl, ch, cp, mj, pa, py, hA, fA, mA, aA, nf, ni, kf, km, hF0, hY0, hP0, hE0, hFO, kq54, kq58, kq61, hkf, kq25, hfk, hkm, kq26, hmk, hNW⟩ := hG.resolve_left (Int32.not_lt.mpr c_24)
        have hn := hF0.1
        obtain ⟨hNk, nb, nc, kq70, kq71, hnc, hbs⟩ := hNW
        obtain ⟨w65, kq65⟩ := hNk 65 (by decide)
        obtain ⟨w66, kq66⟩ := hNk 66 (by decide)
        obtain ⟨w67, kq67⟩ := hNk 67 (by decide)
        obtain ⟨w68, kq68⟩ := hNk 68 (by decide)
        obtain ⟨w69, kq69⟩ := hNk 69 (by decide)
        obtain ⟨w72, kq72⟩ := hNk 72 (by decide)
        obtain ⟨hcp, ⟨hh0, hh1, hh2⟩, hmb1, hmb2, eE, hatE⟩ := hFO
        have hq6 := f2_pos (f := f) (x := hA + 6)
        refine ml_st (S' := (30, [(0, .ref m0), (1, .int x1)], [.int x1], M11)) rfl rfl rfl ?_
        refine ml_sw rfl (fun t_30 ht_30 => ?_)
        have kt_30 := ht_30
        have ht_30 : t_30 ∈ [104, 109, 114, 119, 124, 129, 134, 139, 144, 150, 161, 172, 213, 218, 223, 228] := mi_sw_sub ht_30 (by decide)
        simp only [List.mem_cons, List.not_mem_nil, or_false] at ht_30
        rcases ht_30 with rfl | rfl | rfl | rfl | rfl | rfl | rfl | rfl | rfl | rfl | rfl | rfl | rfl | rfl | rfl | rfl
        · show ml _ _ _ (104, [(0, .ref m0), (1, .int x1)], [], M11) _
          refine ml_st (S' := (105, [(0, .ref m0), (1, .int x1)], [.ref m0], M11)) rfl rfl rfl ?_
          refine rg_int (S' := (108, [(0, .ref m0), (1, .int x1)], [.int cp], M11)) rfl hR13 rfl ((f15 52 (by decide)).trans (hP0.2.1)) rfl ?_
          exact ml_ret rfl (rfl) (⟨_, _, _, rfl, hR13, (eqI.rf.put f15 (by decide)), eqR.rf⟩)
        · show ml _ _ _ (109, [(0, .ref m0), (1, .int x1)], [], M11) _
          refine ml_st (S' := (110, [(0, .ref m0), (1, .int x1)], [.ref m0], M11)) rfl rfl rfl ?_
          refine rg_int (S' := (113, [(0, .ref m0), (1, .int x1)], [.int (nI kf)], M11)) rfl hR13 rfl ((f15 25 (by decide)).trans (kq25)) rfl ?_
          exact ml_ret rfl (rfl) (⟨_, _, _, rfl, hR13, (eqI.rf.put f15 (by decide)), eqR.rf⟩)
        · show ml _ _ _ (114, [(0, .ref m0), (1, .int x1)], [], M11) _
          refine ml_st (S' := (115, [(0, .ref m0), (1, .int x1)], [.ref m0], M11)) rfl rfl rfl ?_
          refine rg_int (S' := (118, [(0, .ref m0), (1, .int x1)], [.int (nI km)], M11)) rfl hR13 rfl ((f15 26 (by decide)).trans (kq26)) rfl ?_
          exact ml_ret rfl (rfl) (⟨_, _, _, rfl, hR13, (eqI.rf.put f15 (by decide)), eqR.rf⟩)
        · show ml _ _ _ (119, [(0, .ref m0), (1, .int x1)], [], M11) _
          refine ml_st (S' := (120, [(0, .ref m0), (1, .int x1)], [.ref m0], M11)) rfl rfl rfl ?_
          refine rg_int (S' := (123, [(0, .ref m0), (1, .int x1)], [.int ni], M11)) rfl hR13 rfl ((f15 61 (by decide)).trans (kq61)) rfl ?_
          exact ml_ret rfl (rfl) (⟨_, _, _, rfl, hR13, (eqI.rf.put f15 (by decide)), eqR.rf⟩)
        · show ml _ _ _ (124, [(0, .ref m0), (1, .int x1)], [], M11) _
          refine ml_st (S' := (125, [(0, .ref m0), (1, .int x1)], [.ref m0], M11)) rfl rfl rfl ?_
          refine rg_int (S' := (128, [(0, .ref m0), (1, .int x1)], [.int nc], M11)) rfl hR13 rfl ((f15 71 (by decide)).trans (kq71)) rfl ?_
          exact ml_ret rfl (rfl) (⟨_, _, _, rfl, hR13, (eqI.rf.put f15 (by decide)), eqR.rf⟩)
        · show ml _ _ _ (129, [(0, .ref m0), (1, .int x1)], [], M11) _
          refine ml_st (S' := (130, [(0, .ref m0), (1, .int x1)], [.ref m0], M11)) rfl rfl rfl ?_
          refine rg_int (S' := (133, [(0, .ref m0), (1, .int x1)], [.int w66], M11)) rfl hR13 rfl ((f15 66 (by decide)).trans (kq66)) rfl ?_
          exact ml_ret rfl (rfl) (⟨_, _, _, rfl, hR13, (eqI.rf.put f15 (by decide)), eqR.rf⟩)
        · show ml _ _ _ (134, [(0, .ref m0), (1, .int x1)], [], M11) _
          refine ml_st (S' := (135, [(0, .ref m0), (1, .int x1)], [.ref m0], M11)) rfl rfl rfl ?_
          refine rg_int (S' := (138, [(0, .ref m0), (1, .int x1)], [.int nf], M11)) rfl hR13 rfl ((f15 58 (by decide)).trans (kq58)) rfl ?_
          exact ml_ret rfl (rfl) (⟨_, _, _, rfl, hR13, (eqI.rf.put f15 (by decide)), eqR.rf⟩)
        · show ml _ _ _ (139, [(0, .ref m0), (1, .int x1)], [], M11) _
          refine ml_st (S' := (140, [(0, .ref m0), (1, .int x1)], [.ref m0], M11)) rfl rfl rfl ?_
          refine rg_int (S' := (143, [(0, .ref m0), (1, .int x1)], [.int mj], M11)) rfl hR13 rfl ((f15 53 (by decide)).trans (hP0.2.2.1)) rfl ?_
          exact ml_ret rfl (rfl) (⟨_, _, _, rfl, hR13, (eqI.rf.put f15 (by decide)), eqR.rf⟩)
        · show ml _ _ _ (144, [(0, .ref m0), (1, .int x1)], [], M11) _
          refine ml_blk 2 (S' := (146, [(0, .ref m0), (1, .int x1)], [.int 4, .ref m0], M11)) rfl ?_
          have hF26 : FK n f I12 R := (hF0.mono (pIx f15 (by decide)) (fun _ _ => rfl))
          refine ml_call (a := [.ref m0, .int 4]) (rest := []) rfl (hR13.okc rfl rfl rfl) rfl rfl (rm_u2 hR13 hF26 (by decide) (by have : (4 : Int32).toInt = 4 := rfl; omega) (by omega)) (fun v27 M28 h29 => ?_)
          obtain ⟨rfl, h29⟩ := h29
          rw [h29]
          show ml _ _ _ (149, [(0, .ref m0), (1, .int x1)], [.int (f2 f 4)], M11) _
          exact ml_ret rfl (rfl) (⟨_, _, _, rfl, hR13, (eqI.rf.put f15 (by decide)), eqR.rf⟩)
        · show ml _ _ _ (150, [(0, .ref m0), (1, .int x1)], [], M11) _
          have e2 : (hA + 2).toInt = hA.toInt + 2 := i_add (by have : (2 : Int32).toInt = 2 := rfl; omega) (by have : (2 : Int32).toInt = 2 := rfl; omega)
          refine ml_blk 2 (S' := (152, [(0, .ref m0), (1, .int x1)], [.ref m0, .ref m0], M11)) rfl ?_
          refine rg_int (S' := (155, [(0, .ref m0), (1, .int x1)], [.int hA, .ref m0], M11)) rfl hR13 rfl ((f15 54 (by decide)).trans (kq54)) rfl ?_
          refine ml_blk 2 (S' := (157, [(0, .ref m0), (1, .int x1)], [.int (hA + 2), .ref m0], M11)) rfl ?_
          have hF30 : FK n f I12 R := (hF0.mono (pIx f15 (by decide)) (fun _ _ => rfl))
          refine ml_call (a := [.ref m0, .int (hA + 2)]) (rest := []) rfl (hR13.okc rfl rfl rfl) rfl rfl (rm_u2 hR13 hF30 (by omega) (by omega) (by omega)) (fun v31 M32 h33 => ?_)
          obtain ⟨rfl, h33⟩ := h33
          rw [h33]
          show ml _ _ _ (160, [(0, .ref m0), (1, .int x1)], [.int (f2 f (hA + 2))], M11) _
          exact ml_ret rfl (rfl) (⟨_, _, _, rfl, hR13, (eqI.rf.put f15 (by decide)), eqR.rf⟩)
        · show ml _ _ _ (161, [(0, .ref m0), (1, .int x1)], [], M11) _
          have e4 : (hA + 4).toInt = hA.toInt + 4 := i_add (by have : (4 : Int32).toInt = 4 := rfl; omega) (by have : (4 : Int32).toInt = 4 := rfl; omega)
          refine ml_blk 2 (S' := (163, [(0, .ref m0), (1, .int x1)], [.ref m0, .ref m0], M11)) rfl ?_
          refine rg_int (S' := (166, [(0, .ref m0), (1, .int x1)], [.int hA, .ref m0], M11)) rfl hR13 rfl ((f15 54 (by decide)).trans (kq54)) rfl ?_
          refine ml_blk 2 (S' := (168, [(0, .ref m0), (1, .int x1)], [.int (hA + 4), .ref m0], M11)) rfl ?_
          have hF34 : FK n f I12 R := (hF0.mono (pIx f15 (by decide)) (fun _ _ => rfl))
          refine ml_call (a := [.ref m0, .int (hA + 4)]) (rest := []) rfl (hR13.okc rfl rfl rfl) rfl rfl (rm_u2 hR13 hF34 (by omega) (by omega) (by omega)) (fun v35 M36 h37 => ?_)
          obtain ⟨rfl, h37⟩ := h37
          rw [h37]
          show ml _ _ _ (171, [(0, .ref m0), (1, .int x1)], [.int (f2 f (hA + 4))], M11) _
          exact ml_ret rfl (rfl) (⟨_, _, _, rfl, hR13, (eqI.rf.put f15 (by decide)), eqR.rf⟩)
        · show ml _ _ _ (172, [(0, .ref m0), (1, .int x1)], [], M11) _
          refine ml_st (S' := (173, [(0, .ref m0), (1, .int x1)], [.int 0], M11)) rfl rfl rfl ?_
          refine ml_st (S' := (174, [(2, .int 0), (0, .ref m0), (1, .int x1)], [], M11)) rfl rfl rfl ?_
          refine ml_st (S' := (175, [(2, .int 0), (0, .ref m0), (1, .int x1)], [.int 1], M11)) rfl rfl rfl ?_
          refine ml_st (S' := (176, [(0, .ref m0), (2, .int 0), (3, .int 1)], [], M11)) rfl rfl rfl ?_
          have L_176 : ∀ (n_176 : Nat) (i176_2 : Int32) (i176_3 : Int32), (2147483648 - i176_3.toInt).toNat ≤ n_176 → 1 ≤ i176_3.toInt → ml (mT g) d (mb_198 g).2 (176, [(0, .ref m0), (2, .int i176_2), (3, .int i176_3)], [], M11) (fun v M' => ∃ (x : Int32) (I' : rI) (R' : rR), v = some (.int x) ∧ RS g m0 q z I' R' M' ∧ eqI [0] I I' ∧ eqR [] R R') := by
            intro n_176
            induction n_176 with
            | zero => intro i176_2 i176_3 hn; exact (loop_zero hn).elim
            | succ n_176 ih_176 =>
              intro i176_2 i176_3 hn_176 hi_176
              refine ml_blk 2 (S' := (178, [(0, .ref m0), (2, .int i176_2), (3, .int i176_3)], [.ref m0, .int i176_3], M11)) rfl ?_
              refine rg_int (S' := (181, [(0, .ref m0), (2, .int i176_2), (3, .int i176_3)], [.int cp, .int i176_3], M11)) rfl hR13 rfl ((f15 52 (by decide)).trans (hP0.2.1)) rfl ?_
              refine ml_if2 (S1 := (211, [(0, .ref m0), (2, .int i176_2), (3, .int i176_3)], [], M11)) (S2 := (184, [(0, .ref m0), (2, .int i176_2), (3, .int i176_3)], [], M11)) rfl rfl rfl (fun c_181 => ?_) (fun c_181 => ?_)
              · have c_181 : cp ≤ i176_3 := of_decide_eq_true c_181
                refine ml_st (S' := (212, [(0, .ref m0), (2, .int i176_2), (3, .int i176_3)], [.int i176_2], M11)) rfl rfl rfl ?_
                exact ml_ret rfl (rfl) (⟨_, _, _, rfl, hR13, (eqI.rf.put f15 (by decide)), eqR.rf⟩)
              · have c_181 : ¬ (cp ≤ i176_3) := of_decide_eq_false c_181
                refine ml_blk 2 (S' := (186, [(0, .ref m0), (2, .int i176_2), (3, .int i176_3)], [.int i176_3, .ref m0], M11)) rfl ?_
                have hF38 : FK n f I12 R := (hF0.mono (pIx f15 (by decide)) (fun _ _ => rfl))
                have hP39 : PK n f S cp mj pa py I12 R := (hP0.mono (pIx f15 (by decide)) (fun _ _ => rfl))
                refine ml_call (a := [.ref m0, .int i176_3]) (rest := []) rfl (hR13.okc rfl rfl rfl) rfl rfl (rm_tag hR13 hF38 hP39 (by omega)) (fun v40 M41 h42 => ?_)
                obtain ⟨rfl, h42⟩ := h42
                rw [h42]
                show ml _ _ _ (189, [(0, .ref m0), (2, .int i176_2), (3, .int i176_3)], [.int (tgf f cp pa i176_3)], M11) _
                refine ml_st (S' := (190, [(0, .ref m0), (2, .int i176_2), (3, .int i176_3)], [.int 1, .int (tgf f cp pa i176_3)], M11)) rfl rfl rfl ?_
                refine ml_if2 (S1 := (205, [(0, .ref m0), (2, .int i176_2), (3, .int i176_3)], [], M11)) (S2 := (193, [(0, .ref m0), (2, .int i176_2), (3, .int i176_3)], [], M11)) rfl rfl rfl (fun c_190 => ?_) (fun c_190 => ?_)
                · have c_190 : ¬ (tgf f cp pa i176_3) = 1 := of_decide_eq_true c_190
                  refine ml_st (S' := (208, [(3, .int (i176_3 + 1)), (0, .ref m0), (2, .int i176_2)], [], M11)) rfl rfl rfl ?_
                  refine ml_st (S' := (176, [(0, .ref m0), (2, .int i176_2), (3, .int (i176_3 + 1))], [], M11)) rfl rfl rfl ?_
                  exact ih_176 i176_2 (i176_3 + 1) (loop_inc (Int32.not_le.mp c_181) hn_176) (by rw [inc_lt (Int32.not_le.mp c_181)]; omega)
                · have c_190 : ¬ (¬ (tgf f cp pa i176_3) = 1) := of_decide_eq_false c_190
                  refine ml_blk 3 (S' := (196, [(0, .ref m0), (2, .int i176_2), (3, .int i176_3)], [.ref m0, .ref m0, .int i176_2], M11)) rfl ?_
                  refine ml_st (S' := (197, [(0, .ref m0), (2, .int i176_2), (3, .int i176_3)], [.int i176_3, .ref m0, .ref m0, .int i176_2], M11)) rfl rfl rfl ?_
                  refine ml_call (a := [.ref m0, .int i176_3]) (rest := [.ref m0, .int i176_2]) rfl (hR13.okc rfl rfl rfl) rfl rfl (rm_symOf hR13 hP39 (Decidable.not_not.mp c_190) (by omega)) (fun v43 M44 h45 => ?_)
                  obtain ⟨rfl, h45⟩ := h45
                  rw [h45]
                  show ml _ _ _ (200, [(0, .ref m0), (2, .int i176_2), (3, .int i176_3)], [.int (pyf py i176_3), .ref m0, .int i176_2], M11) _
                  have hY46 : SK S cN sa sl ch I12 R := (hY0.mono (pIx f15 (by decide)) (fun _ _ => rfl))
                  refine ml_call (a := [.ref m0, .int (pyf py i176_3)]) (rest := [.int i176_2]) rfl (hR13.okc rfl rfl rfl) rfl rfl (rm_length hR13 hY46 ((hP0.y (Decidable.not_not.mp c_190)).2.2.1) ((hP0.y (Decidable.not_not.mp c_190)).2.2.2) (by omega)) (fun v47 M48 h49 => ?_)
                  obtain ⟨rfl, h49⟩ := h49
                  rw [h49]
                  show ml _ _ _ (203, [(0, .ref m0), (2, .int i176_2), (3, .int i176_3)], [.int (sL sl (pyf py i176_3)), .int i176_2], M11) _
                  refine ml_st (S' := (204, [(0, .ref m0), (2, .int i176_2), (3, .int i176_3)], [.int (i176_2 + (sL sl (pyf py i176_3)))], M11)) rfl rfl rfl ?_
                  refine ml_st (S' := (205, [(0, .ref m0), (2, .int (i176_2 + (sL sl (pyf py i176_3)))), (3, .int i176_3)], [], M11)) rfl rfl rfl ?_
                  refine ml_st (S' := (208, [(3, .int (i176_3 + 1)), (0, .ref m0), (2, .int (i176_2 + (sL sl (pyf py i176_3))))], [], M11)) rfl rfl rfl ?_
                  refine ml_st (S' := (176, [(0, .ref m0), (2, .int (i176_2 + (sL sl (pyf py i176_3)))), (3, .int (i176_3 + 1))], [], M11)) rfl rfl rfl ?_
                  exact ih_176 (i176_2 + (sL sl (pyf py i176_3))) (i176_3 + 1) (loop_inc (Int32.not_le.mp c_181) hn_176) (by rw [inc_lt (Int32.not_le.mp c_181)]; omega)
          exact L_176 _ 0 1 (Nat.le_refl _) (by decide)
        · show ml _ _ _ (213, [(0, .ref m0), (1, .int x1)], [], M11) _
          refine ml_st (S' := (214, [(0, .ref m0), (1, .int x1)], [.ref m0], M11)) rfl rfl rfl ?_
          refine rg_int (S' := (217, [(0, .ref m0), (1, .int x1)], [.int w65], M11)) rfl hR13 rfl ((f15 65 (by decide)).trans (kq65)) rfl ?_
          exact ml_ret rfl (rfl) (⟨_, _, _, rfl, hR13, (eqI.rf.put f15 (by decide)), eqR.rf⟩)
        · show ml _ _ _ (218, [(0, .ref m0), (1, .int x1)], [], M11) _
          refine ml_st (S' := (219, [(0, .ref m0), (1, .int x1)], [.ref m0], M11)) rfl rfl rfl ?_
          refine rg_int (S' := (222, [(0, .ref m0), (1, .int x1)], [.int w68], M11)) rfl hR13 rfl ((f15 68 (by decide)).trans (kq68)) rfl ?_
          exact ml_ret rfl (rfl) (⟨_, _, _, rfl, hR13, (eqI.rf.put f15 (by decide)), eqR.rf⟩)
        · show ml _ _ _ (223, [(0, .ref m0), (1, .int x1)], [], M11) _
          refine ml_st (S' := (224, [(0, .ref m0), (1, .int x1)], [.ref m0], M11)) rfl rfl rfl ?_
          refine rg_int (S' := (227, [(0, .ref m0), (1, .int x1)], [.int w69], M11)) rfl hR13 rfl ((f15 69 (by decide)).trans (kq69)) rfl ?_
          exact ml_ret rfl (rfl) (⟨_, _, _, rfl, hR13, (eqI.rf.put f15 (by decide)), eqR.rf⟩)
        · show ml _ _ _ (228, [(0, .ref m0), (1, .int x1)], [], M11) _
          refine ml_st (S' := (229, [(0, .ref m0), (1, .int x1)], [.ref m0], M11)) rfl rfl rfl ?_
          refine rg_int (S' := (232, [(0, .ref m0), (1, .int x1)], [.int w72], M11)) rfl hR13 rfl ((f15 72 (by decide)).trans (kq72)) rfl ?_
          exact ml_ret rfl (rfl) (⟨_, _, _, rfl, hR13, (eqI.rf.put f15 (by decide)), eqR.rf⟩)
      · have c_24 : ¬ (0 ≤ kn) := of_decide_eq_false c_24
        refine ml_st (S' := (28, [(0, .ref m0), (1, .int x1)], [.int (-1)], M11)) rfl rfl rfl ?_
        exact ml_ret rfl (rfl) (⟨_, _, _, rfl, hR13, (eqI.rf.put f15 (by decide)), eqR.rf⟩)
    · have c_12 : ¬ (x1 ≤ 15) := of_decide_eq_false c_12
      refine ml_st (S' := (16, [(0, .ref m0)], [.ref m0], M11)) rfl rfl rfl ?_
      refine ml_call (a := [.ref m0]) (rest := []) rfl (hR13.okc rfl rfl rfl) rfl rfl (rm_bad hR13 (by omega)) (fun v50 M51 h52 => ?_)
      obtain ⟨u58, I53, R54, rfl, hR55, hI56, hV57, w59⟩ := h52
      show ml _ _ _ (19, [(0, .ref m0)], [.int u58], M51) _
      exact ml_ret rfl (rfl) (⟨_, _, _, rfl, hR55, ((eqI.rf.put f15 (by decide)).tr hI56 (by decide)), (eqR.rf.tr hV57 (by decide))⟩)
set_option maxHeartbeats 2000000 in
theorem rm_entry {g : xe_G}  {m0 : Nat} {q : Nat → Nat} {z : Nat × Nat} {I : rI} {R : rR} {M : mi_H} {x1 x2 kn : Int32} {n : Nat} {f : Nat → Int32}  (hR : RS g m0 q z I R M) (hk18 : I 18 = some kn) (hG : (kn < 0 ∨ GD n f I R)) {d : Nat} (hd : 4 ≤ d) : mt (mT g) d 204 [.ref m0, .int x1, .int x2] M (fun v M' => ∃ (x : Int32) (I' : rI) (R' : rR), v = some (.int x) ∧ RS g m0 q z I' R' M' ∧ eqI [0] I I' ∧ eqR [] R R') := by
  obtain ⟨d, rfl⟩ : ∃ e, d = e + 1 := ⟨d - 1, by omega⟩
  refine mt_in (b := mb_204 g) rfl rfl ?_
  show ml (mT g) d (mb_204 g).2 (0, [(0, .ref m0), (1, .int x1), (2, .int x2)], [], M) _
  refine ml_blk 2 (S' := (2, [(0, .ref m0), (1, .int x1), (2, .int x2)], [.int 0, .ref m0], M)) rfl ?_
  refine rp_int rfl hR rfl (fun M11 I12 hR13 e14 f15 => ?_)
  show ml _ _ _ (5, [(0, .ref m0), (1, .int x1), (2, .int x2)], [], M11) _
  refine ml_st (S' := (6, [(0, .ref m0), (1, .int x1), (2, .int x2)], [.int x2], M11)) rfl rfl rfl ?_
  refine ml_if (S1 := (14, [(0, .ref m0)], [], M11)) (S2 := (9, [(0, .ref m0), (1, .int x1), (2, .int x2)], [], M11)) rfl rfl rfl (fun c_6 => ?_) (fun c_6 => ?_)
  · have c_6 : x2 < 0 := of_decide_eq_true c_6
    refine ml_st (S' := (15, [(0, .ref m0)], [.ref m0], M11)) rfl rfl rfl ?_
    refine ml_call (a := [.ref m0]) (rest := []) rfl (hR13.okc rfl rfl rfl) rfl rfl (rm_bad hR13 (by omega)) (fun v16 M17 h18 => ?_)
    obtain ⟨u24, I19, R20, rfl, hR21, hI22, hV23, w25⟩ := h18
    show ml _ _ _ (18, [(0, .ref m0)], [.int u24], M17) _
    exact ml_ret rfl (rfl) (⟨_, _, _, rfl, hR21, ((eqI.rf.put f15 (by decide)).tr hI22 (by decide)), (eqR.rf.tr hV23 (by decide))⟩)
  · have c_6 : ¬ (x2 < 0) := of_decide_eq_false c_6
    refine ml_blk 2 (S' := (11, [(0, .ref m0), (1, .int x1), (2, .int x2)], [.int 2, .int x2], M11)) rfl ?_
    refine ml_if2 (S1 := (19, [(0, .ref m0), (1, .int x1), (2, .int x2)], [], M11)) (S2 := (14, [(0, .ref m0)], [], M11)) rfl rfl rfl (fun c_11 => ?_) (fun c_11 => ?_)
    · have c_11 : x2 ≤ 2 := of_decide_eq_true c_11
      refine ml_st (S' := (20, [(0, .ref m0), (1, .int x1), (2, .int x2)], [.ref m0], M11)) rfl rfl rfl ?_
      refine rg_int (S' := (23, [(0, .ref m0), (1, .int x1), (2, .int x2)], [.int kn], M11)) rfl hR13 rfl ((f15 18 (by decide)).trans (hk18)) rfl ?_
      refine ml_if (S1 := (38, [], [], M11)) (S2 := (26, [(0, .ref m0), (1, .int x1), (2, .int x2)], [], M11)) rfl rfl rfl (fun c_23 => ?_) (fun c_23 => ?_)
      · have c_23 : kn < 0 := of_decide_eq_true c_23
        refine ml_st (S' := (39, [], [.int (-1)], M11)) rfl rfl rfl ?_
        exact ml_ret rfl (rfl) (⟨_, _, _, rfl, hR13, (eqI.rf.put f15 (by decide)), eqR.rf⟩)
      · have c_23 : ¬ (kn < 0) := of_decide_eq_false c_23
        obtain ⟨S, cN, sa, sl, ch, cp, mj, pa, py, hA, fA, mA, aA, nf, ni, kf, km, hF0, hY0, hP0, hE0, hFO, kq54, kq58, kq61, hkf, kq25, hfk, hkm, kq26, hmk, hNW⟩ := hG.resolve_left (c_23)
        have hn := hF0.1
        refine ml_st (S' := (27, [(0, .ref m0), (1, .int x1), (2, .int x2)], [.int x1], M11)) rfl rfl rfl ?_
        refine ml_if (S1 := (38, [], [], M11)) (S2 := (30, [(0, .ref m0), (1, .int x1), (2, .int x2)], [], M11)) rfl rfl rfl (fun c_27 => ?_) (fun c_27 => ?_)
        · have c_27 : x1 < 0 := of_decide_eq_true c_27
          refine ml_st (S' := (39, [], [.int (-1)], M11)) rfl rfl rfl ?_
          exact ml_ret rfl (rfl) (⟨_, _, _, rfl, hR13, (eqI.rf.put f15 (by decide)), eqR.rf⟩)
        · have c_27 : ¬ (x1 < 0) := of_decide_eq_false c_27
          refine ml_blk 2 (S' := (32, [(0, .ref m0), (1, .int x1), (2, .int x2)], [.ref m0, .int x1], M11)) rfl ?_
          refine rg_int (S' := (35, [(0, .ref m0), (1, .int x1), (2, .int x2)], [.int cp, .int x1], M11)) rfl hR13 rfl ((f15 52 (by decide)).trans (hP0.2.1)) rfl ?_
          refine ml_if2 (S1 := (40, [(0, .ref m0), (1, .int x1), (2, .int x2)], [], M11)) (S2 := (38, [], [], M11)) rfl rfl rfl (fun c_35 => ?_) (fun c_35 => ?_)
          · have c_35 : x1 < cp := of_decide_eq_true c_35
            refine ml_blk 2 (S' := (42, [(0, .ref m0), (1, .int x1), (2, .int x2)], [.int x1, .ref m0], M11)) rfl ?_
            have hF26 : FK n f I12 R := (hF0.mono (pIx f15 (by decide)) (fun _ _ => rfl))
            have hP27 : PK n f S cp mj pa py I12 R := (hP0.mono (pIx f15 (by decide)) (fun _ _ => rfl))
            refine ml_call (a := [.ref m0, .int x1]) (rest := []) rfl (hR13.okc rfl rfl rfl) rfl rfl (rm_tag hR13 hF26 hP27 (by omega)) (fun v28 M29 h30 => ?_)
            obtain ⟨rfl, h30⟩ := h30
            rw [h30]
            show ml _ _ _ (45, [(0, .ref m0), (1, .int x1), (2, .int x2)], [.int (tgf f cp pa x1)], M11) _
            refine ml_st (S' := (46, [(3, .int (tgf f cp pa x1)), (0, .ref m0), (1, .int x1), (2, .int x2)], [], M11)) rfl rfl rfl ?_
            refine ml_st (S' := (47, [(3, .int (tgf f cp pa x1)), (0, .ref m0), (1, .int x1), (2, .int x2)], [.int x2], M11)) rfl rfl rfl ?_
            refine ml_if (S1 := (52, [(3, .int (tgf f cp pa x1)), (0, .ref m0), (1, .int x1), (2, .int x2)], [], M11)) (S2 := (50, [(3, .int (tgf f cp pa x1)), (0, .ref m0), (1, .int x1), (2, .int x2)], [], M11)) rfl rfl rfl (fun c_47 => ?_) (fun c_47 => ?_)
            · have c_47 : ¬ x2 = 0 := of_decide_eq_true c_47
              refine ml_blk 2 (S' := (55, [(3, .int (tgf f cp pa x1)), (0, .ref m0), (1, .int x1), (2, .int x2)], [.int 15, .int (tgf f cp pa x1)], M11)) rfl ?_
              refine ml_if2 (S1 := (85, [(3, .int (tgf f cp pa x1)), (0, .ref m0), (1, .int x1), (2, .int x2)], [], M11)) (S2 := (58, [(3, .int (tgf f cp pa x1)), (0, .ref m0), (1, .int x1), (2, .int x2)], [], M11)) rfl rfl rfl (fun c_55 => ?_) (fun c_55 => ?_)
              · have c_55 : ¬ (tgf f cp pa x1) = 15 := of_decide_eq_true c_55
                refine ml_blk 2 (S' := (88, [(3, .int (tgf f cp pa x1)), (0, .ref m0), (1, .int x1), (2, .int x2)], [.int 7, .int (tgf f cp pa x1)], M11)) rfl ?_
                have J_115 : (tgf f cp pa x1 = 7 ∨ tgf f cp pa x1 = 8 ∨ tgf f cp pa x1 = 16 ∨ tgf f cp pa x1 = 19 ∨ tgf f cp pa x1 = 20) → ml (mT g) d (mb_204 g).2 (115, [(0, .ref m0), (1, .int x1), (2, .int x2)], [], M11) (fun v M' => ∃ (x : Int32) (I' : rI) (R' : rR), v = some (.int x) ∧ RS g m0 q z I' R' M' ∧ eqI [0] I I' ∧ eqR [] R R') := by
                  intro hj_115
                  have h7 := hP0.tg (rfl : tgf f cp pa x1 = _) (fun e => by rcases hj_115 with h | h | h | h | h <;> rw [h] at e <;> exact absurd e (by decide))
                  have q7 : (pa (Int32.toNatClampNeg x1)).toInt + 3 ≤ n := by have q := h7.2.2.2.2; rcases hj_115 with h | h | h | h | h <;> rw [h] at q <;> exact q
                  refine ml_blk 2 (S' := (117, [(0, .ref m0), (1, .int x1), (2, .int x2)], [.int 1, .int x2], M11)) rfl ?_
                  refine ml_if2 (S1 := (129, [(0, .ref m0), (1, .int x1), (2, .int x2)], [], M11)) (S2 := (120, [(0, .ref m0), (1, .int x1), (2, .int x2)], [], M11)) rfl rfl rfl (fun c_117 => ?_) (fun c_117 => ?_)
                  · have c_117 : ¬ x2 = 1 := of_decide_eq_true c_117
                    refine ml_st (S' := (130, [], [.int 0], M11)) rfl rfl rfl ?_
                    exact ml_ret rfl (rfl) (⟨_, _, _, rfl, hR13, (eqI.rf.put f15 (by decide)), eqR.rf⟩)
                  · have c_117 : ¬ (¬ x2 = 1) := of_decide_eq_false c_117
                    refine ml_blk 3 (S' := (123, [(0, .ref m0), (1, .int x1), (2, .int x2)], [.int 1, .int x1, .ref m0], M11)) rfl ?_
                    refine ml_call (a := [.ref m0, .int x1, .int 1]) (rest := []) rfl (hR13.okc rfl rfl rfl) rfl rfl (rm_index hR13 hF26 hP27 (h7.1) (h7.2.1) (h7.2.2.1) (by decide) (by have : (1 : Int32).toInt = 1 := rfl; omega) (by omega)) (fun v31 M32 h33 => ?_)
                    obtain ⟨rfl, h33⟩ := h33
                    rw [h33]
                    show ml _ _ _ (126, [(0, .ref m0), (1, .int x1), (2, .int x2)], [.int (ixf f pa x1 1)], M11) _
                    refine ml_st (S' := (130, [], [.int (ixf f pa x1 1)], M11)) rfl rfl rfl ?_
                    exact ml_ret rfl (rfl) (⟨_, _, _, rfl, hR13, (eqI.rf.put f15 (by decide)), eqR.rf⟩)
                refine ml_if2 (S1 := (115, [(0, .ref m0), (1, .int x1), (2, .int x2)], [], M11)) (S2 := (91, [(3, .int (tgf f cp pa x1)), (0, .ref m0), (1, .int x1), (2, .int x2)], [], M11)) rfl rfl rfl (fun c_88 => ?_) (fun c_88 => ?_)
                · have c_88 : (tgf f cp pa x1) = 7 := of_decide_eq_true c_88
                  exact J_115  (Or.inl c_88)
                · have c_88 : ¬ ((tgf f cp pa x1) = 7) := of_decide_eq_false c_88
                  refine ml_blk 2 (S' := (94, [(3, .int (tgf f cp pa x1)), (0, .ref m0), (1, .int x1), (2, .int x2)], [.int 8, .int (tgf f cp pa x1)], M11)) rfl ?_
                  refine ml_if2 (S1 := (115, [(0, .ref m0), (1, .int x1), (2, .int x2)], [], M11)) (S2 := (97, [(3, .int (tgf f cp pa x1)), (0, .ref m0), (1, .int x1), (2, .int x2)], [], M11)) rfl rfl rfl (fun c_94 => ?_) (fun c_94 => ?_)
                  · have c_94 : (tgf f cp pa x1) = 8 := of_decide_eq_true c_94
                    exact J_115  (Or.inr (Or.inl c_94))
                  · have c_94 : ¬ ((tgf f cp pa x1) = 8) := of_decide_eq_false c_94
                    refine ml_blk 2 (S' := (100, [(3, .int (tgf f cp pa x1)), (0, .ref m0), (1, .int x1), (2, .int x2)], [.int 16, .int (tgf f cp pa x1)], M11)) rfl ?_
                    refine ml_if2 (S1 := (115, [(0, .ref m0), (1, .int x1), (2, .int x2)], [], M11)) (S2 := (103, [(3, .int (tgf f cp pa x1)), (0, .ref m0), (1, .int x1), (2, .int x2)], [], M11)) rfl rfl rfl (fun c_100 => ?_) (fun c_100 => ?_)
                    · have c_100 : (tgf f cp pa x1) = 16 := of_decide_eq_true c_100
                      exact J_115  (Or.inr (Or.inr (Or.inl c_100)))
                    · have c_100 : ¬ ((tgf f cp pa x1) = 16) := of_decide_eq_false c_100
                      refine ml_blk 2 (S' := (106, [(3, .int (tgf f cp pa x1)), (0, .ref m0), (1, .int x1), (2, .int x2)], [.int 19, .int (tgf f cp pa x1)], M11)) rfl ?_
                      refine ml_if2 (S1 := (115, [(0, .ref m0), (1, .int x1), (2, .int x2)], [], M11)) (S2 := (109, [(3, .int (tgf f cp pa x1)), (0, .ref m0), (1, .int x1), (2, .int x2)], [], M11)) rfl rfl rfl (fun c_106 => ?_) (fun c_106 => ?_)
                      · have c_106 : (tgf f cp pa x1) = 19 := of_decide_eq_true c_106
                        exact J_115  (Or.inr (Or.inr (Or.inr (Or.inl c_106))))
                      · have c_106 : ¬ ((tgf f cp pa x1) = 19) := of_decide_eq_false c_106
                        refine ml_blk 2 (S' := (112, [(3, .int (tgf f cp pa x1)), (0, .ref m0), (1, .int x1), (2, .int x2)], [.int 20, .int (tgf f cp pa x1)], M11)) rfl ?_
                        refine ml_if2 (S1 := (131, [(3, .int (tgf f cp pa x1)), (0, .ref m0), (1, .int x1), (2, .int x2)], [], M11)) (S2 := (115, [(0, .ref m0), (1, .int x1), (2, .int x2)], [], M11)) rfl rfl rfl (fun c_112 => ?_) (fun c_112 => ?_)
                        · have c_112 : ¬ (tgf f cp pa x1) = 20 := of_decide_eq_true c_112
                          refine ml_blk 2 (S' := (134, [(3, .int (tgf f cp pa x1)), (0, .ref m0), (1, .int x1), (2, .int x2)], [.int 9, .int (tgf f cp pa x1)], M11)) rfl ?_
                          have J_155 : (esz (tgf f cp pa x1) = 5 ∧ tgf f cp pa x1 ≠ 0) → ml (mT g) d (mb_204 g).2 (155, [(0, .ref m0), (1, .int x1), (2, .int x2)], [], M11) (fun v M' => ∃ (x : Int32) (I' : rI) (R' : rR), v = some (.int x) ∧ RS g m0 q z I' R' M' ∧ eqI [0] I I' ∧ eqR [] R R') := by
                            intro hj_155
                            have h9 := hP0.tg (rfl : tgf f cp pa x1 = _) hj_155.2
                            have q9 : (pa (Int32.toNatClampNeg x1)).toInt + 5 ≤ n := by have q := h9.2.2.2.2; rw [hj_155.1] at q; exact q
                            refine ml_blk 3 (S' := (158, [(0, .ref m0), (1, .int x1), (2, .int x2)], [.int x2, .int x1, .ref m0], M11)) rfl ?_
                            refine ml_st (S' := (159, [(0, .ref m0), (1, .int x1), (2, .int x2)], [.int 1, .int x2, .int x1, .ref m0], M11)) rfl rfl rfl ?_
                            refine ml_if2 (S1 := (166, [(0, .ref m0), (1, .int x1), (2, .int x2)], [.int x1, .ref m0], M11)) (S2 := (162, [(0, .ref m0), (1, .int x1), (2, .int x2)], [.int x1, .ref m0], M11)) rfl rfl rfl (fun c_159 => ?_) (fun c_159 => ?_)
                            · have c_159 : ¬ x2 = 1 := of_decide_eq_true c_159
                              refine ml_st (S' := (167, [], [.int 3, .int x1, .ref m0], M11)) rfl rfl rfl ?_
                              refine ml_call (a := [.ref m0, .int x1, .int 3]) (rest := []) rfl (hR13.okc rfl rfl rfl) rfl rfl (rm_index hR13 hF26 hP27 (h9.1) (h9.2.1) (h9.2.2.1) (by decide) (by have : (3 : Int32).toInt = 3 := rfl; omega) (by omega)) (fun v34 M35 h36 => ?_)
                              obtain ⟨rfl, h36⟩ := h36
                              rw [h36]
                              show ml _ _ _ (170, [], [.int (ixf f pa x1 3)], M11) _
                              exact ml_ret rfl (rfl) (⟨_, _, _, rfl, hR13, (eqI.rf.put f15 (by decide)), eqR.rf⟩)
                            · have c_159 : ¬ (¬ x2 = 1) := of_decide_eq_false c_159
                              refine ml_st (S' := (163, [(0, .ref m0), (1, .int x1), (2, .int x2)], [.int 1, .int x1, .ref m0], M11)) rfl rfl rfl ?_
                              refine ml_st (S' := (167, [], [.int 1, .int x1, .ref m0], M11)) rfl rfl rfl ?_
                              refine ml_call (a := [.ref m0, .int x1, .int 1]) (rest := []) rfl (hR13.okc rfl rfl rfl) rfl rfl (rm_index hR13 hF26 hP27 (h9.1) (h9.2.1) (h9.2.2.1) (by decide) (by have : (1 : Int32).toInt = 1 := rfl; omega) (by omega)) (fun v37 M38 h39 => ?_)
                              obtain ⟨rfl, h39⟩ := h39
                              rw [h39]
                              show ml _ _ _ (170, [], [.int (ixf f pa x1 1)], M11) _
                              exact ml_ret rfl (rfl) (⟨_, _, _, rfl, hR13, (eqI.rf.put f15 (by decide)), eqR.rf⟩)
                          have J_143 : ml (mT g) d (mb_204 g).2 (143, [(0, .ref m0), (1, .int x1), (2, .int x2), (3, .int (tgf f cp pa x1))], [], M11) (fun v M' => ∃ (x : Int32) (I' : rI) (R' : rR), v = some (.int x) ∧ RS g m0 q z I' R' M' ∧ eqI [0] I I' ∧ eqR [] R R') := by
                            refine ml_blk 2 (S' := (146, [(0, .ref m0), (1, .int x1), (2, .int x2), (3, .int (tgf f cp pa x1))], [.int 17, .int (tgf f cp pa x1)], M11)) rfl ?_
                            refine ml_if2 (S1 := (155, [(0, .ref m0), (1, .int x1), (2, .int x2)], [], M11)) (S2 := (149, [(0, .ref m0), (1, .int x1), (2, .int x2), (3, .int (tgf f cp pa x1))], [], M11)) rfl rfl rfl (fun c_146 => ?_) (fun c_146 => ?_)
                            · have c_146 : (tgf f cp pa x1) = 17 := of_decide_eq_true c_146
                              exact J_155  (by rw [c_146]; decide)
                            · have c_146 : ¬ ((tgf f cp pa x1) = 17) := of_decide_eq_false c_146
                              refine ml_blk 2 (S' := (152, [(0, .ref m0), (1, .int x1), (2, .int x2), (3, .int (tgf f cp pa x1))], [.int 18, .int (tgf f cp pa x1)], M11)) rfl ?_
                              refine ml_if2 (S1 := (171, [(0, .ref m0), (1, .int x1), (2, .int x2), (3, .int (tgf f cp pa x1))], [], M11)) (S2 := (155, [(0, .ref m0), (1, .int x1), (2, .int x2)], [], M11)) rfl rfl rfl (fun c_152 => ?_) (fun c_152 => ?_)
                              · have c_152 : ¬ (tgf f cp pa x1) = 18 := of_decide_eq_true c_152
                                refine ml_st (S' := (172, [(0, .ref m0), (1, .int x1), (2, .int x2), (3, .int (tgf f cp pa x1))], [.int 0], M11)) rfl rfl rfl ?_
                                exact ml_ret rfl (rfl) (⟨_, _, _, rfl, hR13, (eqI.rf.put f15 (by decide)), eqR.rf⟩)
                              · have c_152 : ¬ (¬ (tgf f cp pa x1) = 18) := of_decide_eq_false c_152
                                exact J_155  (by rw [show tgf f cp pa x1 = 18 from Decidable.not_not.mp c_152]; decide)
                          refine ml_if2 (S1 := (143, [(0, .ref m0), (1, .int x1), (2, .int x2), (3, .int (tgf f cp pa x1))], [], M11)) (S2 := (137, [(3, .int (tgf f cp pa x1)), (0, .ref m0), (1, .int x1), (2, .int x2)], [], M11)) rfl rfl rfl (fun c_134 => ?_) (fun c_134 => ?_)
                          · have c_134 : (tgf f cp pa x1) < 9 := of_decide_eq_true c_134
                            exact J_143 
                          · have c_134 : ¬ ((tgf f cp pa x1) < 9) := of_decide_eq_false c_134
                            refine ml_blk 2 (S' := (140, [(3, .int (tgf f cp pa x1)), (0, .ref m0), (1, .int x1), (2, .int x2)], [.int 12, .int (tgf f cp pa x1)], M11)) rfl ?_
                            refine ml_if2 (S1 := (155, [(0, .ref m0), (1, .int x1), (2, .int x2)], [], M11)) (S2 := (143, [(0, .ref m0), (1, .int x1), (2, .int x2), (3, .int (tgf f cp pa x1))], [], M11)) rfl rfl rfl (fun c_140 => ?_) (fun c_140 => ?_)
                            · have c_140 : (tgf f cp pa x1) ≤ 12 := of_decide_eq_true c_140
                              exact J_155  (esz_mid c_134 c_140)
                            · have c_140 : ¬ ((tgf f cp pa x1) ≤ 12) := of_decide_eq_false c_140
                              exact J_143 
                        · have c_112 : ¬ (¬ (tgf f cp pa x1) = 20) := of_decide_eq_false c_112
                          exact J_115  (Or.inr (Or.inr (Or.inr (Or.inr (Decidable.not_not.mp c_112)))))
              · have c_55 : ¬ (¬ (tgf f cp pa x1) = 15) := of_decide_eq_false c_55
                have h15 := hP0.tg (Decidable.not_not.mp c_55) (by decide)
                have q15 : (pa (Int32.toNatClampNeg x1)).toInt + 4 ≤ n := h15.2.2.2.2
                have e1 : ((pa (Int32.toNatClampNeg x1)) + 1).toInt = (pa (Int32.toNatClampNeg x1)).toInt + 1 := i_add (by have : (1 : Int32).toInt = 1 := rfl; omega) (by have : (1 : Int32).toInt = 1 := rfl; omega)
                refine ml_blk 2 (S' := (60, [(3, .int (tgf f cp pa x1)), (0, .ref m0), (1, .int x1), (2, .int x2)], [.int 1, .int x2], M11)) rfl ?_
                refine ml_if2 (S1 := (78, [(3, .int (tgf f cp pa x1)), (0, .ref m0), (1, .int x1), (2, .int x2)], [], M11)) (S2 := (63, [(3, .int (tgf f cp pa x1)), (0, .ref m0), (1, .int x1), (2, .int x2)], [], M11)) rfl rfl rfl (fun c_60 => ?_) (fun c_60 => ?_)
                · have c_60 : ¬ x2 = 1 := of_decide_eq_true c_60
                  refine ml_blk 3 (S' := (81, [(3, .int (tgf f cp pa x1)), (0, .ref m0), (1, .int x1), (2, .int x2)], [.int 2, .int x1, .ref m0], M11)) rfl ?_
                  refine ml_call (a := [.ref m0, .int x1, .int 2]) (rest := []) rfl (hR13.okc rfl rfl rfl) rfl rfl (rm_index hR13 hF26 hP27 (h15.1) (h15.2.1) (h15.2.2.1) (by decide) (by have : (2 : Int32).toInt = 2 := rfl; omega) (by omega)) (fun v40 M41 h42 => ?_)
                  obtain ⟨rfl, h42⟩ := h42
                  rw [h42]
                  show ml _ _ _ (84, [], [.int (ixf f pa x1 2)], M11) _
                  exact ml_ret rfl (rfl) (⟨_, _, _, rfl, hR13, (eqI.rf.put f15 (by decide)), eqR.rf⟩)
                · have c_60 : ¬ (¬ x2 = 1) := of_decide_eq_false c_60
                  refine ml_blk 2 (S' := (65, [(3, .int (tgf f cp pa x1)), (0, .ref m0), (1, .int x1), (2, .int x2)], [.ref m0, .ref m0], M11)) rfl ?_
                  refine rg_ref (S' := (68, [(3, .int (tgf f cp pa x1)), (0, .ref m0), (1, .int x1), (2, .int x2)], [.ref (q 21), .ref m0], M11)) rfl hR13 rfl rfl ?_
                  refine ml_st (S' := (69, [(3, .int (tgf f cp pa x1)), (0, .ref m0), (1, .int x1), (2, .int x2)], [.int x1, .ref (q 21), .ref m0], M11)) rfl rfl rfl ?_
                  refine ra_ld (k := 21) (S' := (70, [(3, .int (tgf f cp pa x1)), (0, .ref m0), (1, .int x1), (2, .int x2)], [.int (pa (Int32.toNatClampNeg x1)), .ref m0], M11)) rfl hR13 rfl (by have q := (hP0.e h15.1 h15.2.1).2.1; rwa [Int32.zero_add] at q) (by have q := (hP0.e h15.1 h15.2.1).1; rwa [Int32.zero_add] at q) rfl ?_
                  refine ml_blk 2 (S' := (72, [(3, .int (tgf f cp pa x1)), (0, .ref m0), (1, .int x1), (2, .int x2)], [.int ((pa (Int32.toNatClampNeg x1)) + 1), .ref m0], M11)) rfl ?_
                  refine ml_call (a := [.ref m0, .int ((pa (Int32.toNatClampNeg x1)) + 1)]) (rest := []) rfl (hR13.okc rfl rfl rfl) rfl rfl (rm_u1 hR13 hF26 (by omega) (by omega) (by omega)) (fun v43 M44 h45 => ?_)
                  obtain ⟨rfl, h45⟩ := h45
                  rw [h45]
                  show ml _ _ _ (75, [(3, .int (tgf f cp pa x1)), (0, .ref m0), (1, .int x1), (2, .int x2)], [.int (f1 f ((pa (Int32.toNatClampNeg x1)) + 1))], M11) _
                  refine ml_st (S' := (84, [], [.int (f1 f ((pa (Int32.toNatClampNeg x1)) + 1))], M11)) rfl rfl rfl ?_
                  exact ml_ret rfl (rfl) (⟨_, _, _, rfl, hR13, (eqI.rf.put f15 (by decide)), eqR.rf⟩)
            · have c_47 : ¬ (¬ x2 = 0) := of_decide_eq_false c_47
              refine ml_st (S' := (51, [(3, .int (tgf f cp pa x1)), (0, .ref m0), (1, .int x1), (2, .int x2)], [.int (tgf f cp pa x1)], M11)) rfl rfl rfl ?_
              exact ml_ret rfl (rfl) (⟨_, _, _, rfl, hR13, (eqI.rf.put f15 (by decide)), eqR.rf⟩)
          · have c_35 : ¬ (x1 < cp) := of_decide_eq_false c_35
            refine ml_st (S' := (39, [], [.int (-1)], M11)) rfl rfl rfl ?_
            exact ml_ret rfl (rfl) (⟨_, _, _, rfl, hR13, (eqI.rf.put f15 (by decide)), eqR.rf⟩)
    · have c_11 : ¬ (x2 ≤ 2) := of_decide_eq_false c_11
      refine ml_st (S' := (15, [(0, .ref m0)], [.ref m0], M11)) rfl rfl rfl ?_
      refine ml_call (a := [.ref m0]) (rest := []) rfl (hR13.okc rfl rfl rfl) rfl rfl (rm_bad hR13 (by omega)) (fun v46 M47 h48 => ?_)
      obtain ⟨u54, I49, R50, rfl, hR51, hI52, hV53, w55⟩ := h48
      show ml _ _ _ (18, [(0, .ref m0)], [.int u54], M47) _
      exact ml_ret rfl (rfl) (⟨_, _, _, rfl, hR51, ((eqI.rf.put f15 (by decide)).tr hI52 (by decide)), (eqR.rf.tr hV53 (by decide))⟩)
end
section
set_option maxHeartbeats 2000000 in
theorem rm_bits {g : xe_G}  {m0 : Nat} {q : Nat → Nat} {z : Nat × Nat} {I : rI} {R : rR} {M : mi_H} {x1 kn : Int32} {n : Nat} {f : Nat → Int32}  (hR : RS g m0 q z I R M) (hk18 : I 18 = some kn) (hG : (kn < 0 ∨ GD n f I R)) {d : Nat} (hd : 4 ≤ d) : mt (mT g) d 183 [.ref m0, .int x1] M (fun v M' => ∃ (x : Int64) (I' : rI) (R' : rR), v = some (.long x) ∧ RS g m0 q z I' R' M' ∧ eqI [0] I I' ∧ eqR [] R R') := by
  obtain ⟨d, rfl⟩ : ∃ e, d = e + 1 := ⟨d - 1, by omega⟩
  refine mt_in (b := mb_183 g) rfl rfl ?_
  show ml (mT g) d (mb_183 g).2 (0, [(0, .ref m0), (1, .int x1)], [], M) _
  refine ml_blk 2 (S' := (2, [(0, .ref m0), (1, .int x1)], [.int 0, .ref m0], M)) rfl ?_
  refine rp_int rfl hR rfl (fun M11 I12 hR13 e14 f15 => ?_)
  show ml _ _ _ (5, [(0, .ref m0), (1, .int x1)], [], M11) _
  refine ml_st (S' := (6, [(0, .ref m0), (1, .int x1)], [.ref m0], M11)) rfl rfl rfl ?_
  refine rg_int (S' := (9, [(0, .ref m0), (1, .int x1)], [.int kn], M11)) rfl hR13 rfl ((f15 18 (by decide)).trans (hk18)) rfl ?_
  refine ml_if (S1 := (14, [(0, .ref m0), (1, .int x1)], [], M11)) (S2 := (12, [(0, .ref m0), (1, .int x1)], [], M11)) rfl rfl rfl (fun c_9 => ?_) (fun c_9 => ?_)
  · have c_9 : 0 ≤ kn := of_decide_eq_true c_9
    obtain ⟨S, cN, sa, sl, ch, cp, mj, pa, py, hA, fA, mA, aA, nf, ni, kf, km, hF0, hY0, hP0, hE0, hFO, kq54, kq58, kq61, hkf, kq25, hfk, hkm, kq26, hmk, hNW⟩ := hG.resolve_left (Int32.not_lt.mpr c_9)
    have hn := hF0.1
    refine ml_blk 2 (S' := (16, [(0, .ref m0), (1, .int x1)], [.int x1, .ref m0], M11)) rfl ?_
    have hF16 : FK n f I12 R := (hF0.mono (pIx f15 (by decide)) (fun _ _ => rfl))
    have hP17 : PK n f S cp mj pa py I12 R := (hP0.mono (pIx f15 (by decide)) (fun _ _ => rfl))
    refine ml_call (a := [.ref m0, .int x1]) (rest := []) rfl (hR13.okc rfl rfl rfl) rfl rfl (rm_tag hR13 hF16 hP17 (by omega)) (fun v18 M19 h20 => ?_)
    obtain ⟨rfl, h20⟩ := h20
    rw [h20]
    show ml _ _ _ (19, [(0, .ref m0), (1, .int x1)], [.int (tgf f cp pa x1)], M11) _
    refine ml_st (S' := (20, [(2, .int (tgf f cp pa x1)), (0, .ref m0), (1, .int x1)], [], M11)) rfl rfl rfl ?_
    refine ml_blk 2 (S' := (22, [(2, .int (tgf f cp pa x1)), (0, .ref m0), (1, .int x1)], [.int 3, .int (tgf f cp pa x1)], M11)) rfl ?_
    have J_30 : (tgf f cp pa x1 = 3 ∨ tgf f cp pa x1 = 4) → ml (mT g) d (mb_183 g).2 (30, [(0, .ref m0), (1, .int x1)], [], M11) (fun v M' => ∃ (x : Int64) (I' : rI) (R' : rR), v = some (.long x) ∧ RS g m0 q z I' R' M' ∧ eqI [0] I I' ∧ eqR [] R R') := by
      intro hj_30
      have h3 := hP0.tg (rfl : tgf f cp pa x1 = _) (fun e => by rcases hj_30 with h | h <;> rw [h] at e <;> exact absurd e (by decide))
      have q3 : (pa (Int32.toNatClampNeg x1)).toInt + 5 ≤ n := by have q := h3.2.2.2.2; rcases hj_30 with h | h <;> rw [h] at q <;> exact q
      have e1 : ((pa (Int32.toNatClampNeg x1)) + 1).toInt = (pa (Int32.toNatClampNeg x1)).toInt + 1 := i_add (by have : (1 : Int32).toInt = 1 := rfl; omega) (by have : (1 : Int32).toInt = 1 := rfl; omega)
      refine ml_blk 2 (S' := (32, [(0, .ref m0), (1, .int x1)], [.ref m0, .ref m0], M11)) rfl ?_
      refine rg_ref (S' := (35, [(0, .ref m0), (1, .int x1)], [.ref (q 21), .ref m0], M11)) rfl hR13 rfl rfl ?_
      refine ml_st (S' := (36, [(0, .ref m0), (1, .int x1)], [.int x1, .ref (q 21), .ref m0], M11)) rfl rfl rfl ?_
      refine ra_ld (k := 21) (S' := (37, [(0, .ref m0), (1, .int x1)], [.int (pa (Int32.toNatClampNeg x1)), .ref m0], M11)) rfl hR13 rfl (by have q := (hP0.e h3.1 h3.2.1).2.1; rwa [Int32.zero_add] at q) (by have q := (hP0.e h3.1 h3.2.1).1; rwa [Int32.zero_add] at q) rfl ?_
      refine ml_blk 2 (S' := (39, [(0, .ref m0), (1, .int x1)], [.int ((pa (Int32.toNatClampNeg x1)) + 1), .ref m0], M11)) rfl ?_
      refine ml_call (a := [.ref m0, .int ((pa (Int32.toNatClampNeg x1)) + 1)]) (rest := []) rfl (hR13.okc rfl rfl rfl) rfl rfl (rm_u4 hR13 hF16 (by omega) (by omega) (by omega)) (fun v21 M22 h23 => ?_)
      obtain ⟨rfl, h23⟩ := h23
      rw [h23]
      show ml _ _ _ (42, [(0, .ref m0), (1, .int x1)], [.long (f4 f ((pa (Int32.toNatClampNeg x1)) + 1))], M11) _
      refine ml_blk 2 (S' := (44, [(0, .ref m0), (1, .int x1)], [.long (Int32.toInt64 (Int64.toInt32 (f4 f ((pa (Int32.toNatClampNeg x1)) + 1))))], M11)) rfl ?_
      exact ml_ret rfl (rfl) (⟨_, _, _, rfl, hR13, (eqI.rf.put f15 (by decide)), eqR.rf⟩)
    refine ml_if2 (S1 := (30, [(0, .ref m0), (1, .int x1)], [], M11)) (S2 := (25, [(2, .int (tgf f cp pa x1)), (0, .ref m0), (1, .int x1)], [], M11)) rfl rfl rfl (fun c_22 => ?_) (fun c_22 => ?_)
    · have c_22 : (tgf f cp pa x1) = 3 := of_decide_eq_true c_22
      exact J_30  (Or.inl c_22)
    · have c_22 : ¬ ((tgf f cp pa x1) = 3) := of_decide_eq_false c_22
      refine ml_blk 2 (S' := (27, [(2, .int (tgf f cp pa x1)), (0, .ref m0), (1, .int x1)], [.int 4, .int (tgf f cp pa x1)], M11)) rfl ?_
      refine ml_if2 (S1 := (45, [(2, .int (tgf f cp pa x1)), (0, .ref m0), (1, .int x1)], [], M11)) (S2 := (30, [(0, .ref m0), (1, .int x1)], [], M11)) rfl rfl rfl (fun c_27 => ?_) (fun c_27 => ?_)
      · have c_27 : ¬ (tgf f cp pa x1) = 4 := of_decide_eq_true c_27
        refine ml_blk 2 (S' := (47, [(2, .int (tgf f cp pa x1)), (0, .ref m0), (1, .int x1)], [.int 5, .int (tgf f cp pa x1)], M11)) rfl ?_
        have J_56 : (tgf f cp pa x1 = 5 ∨ tgf f cp pa x1 = 6) → ml (mT g) d (mb_183 g).2 (56, [(0, .ref m0), (1, .int x1)], [], M11) (fun v M' => ∃ (x : Int64) (I' : rI) (R' : rR), v = some (.long x) ∧ RS g m0 q z I' R' M' ∧ eqI [0] I I' ∧ eqR [] R R') := by
          intro hj_56
          have h3 := hP0.tg (rfl : tgf f cp pa x1 = _) (fun e => by rcases hj_56 with h | h <;> rw [h] at e <;> exact absurd e (by decide))
          have q3 : (pa (Int32.toNatClampNeg x1)).toInt + 9 ≤ n := by have q := h3.2.2.2.2; rcases hj_56 with h | h <;> rw [h] at q <;> exact q
          have e1 : ((pa (Int32.toNatClampNeg x1)) + 1).toInt = (pa (Int32.toNatClampNeg x1)).toInt + 1 := i_add (by have : (1 : Int32).toInt = 1 := rfl; omega) (by have : (1 : Int32).toInt = 1 := rfl; omega)
          have e5 : ((pa (Int32.toNatClampNeg x1)) + 5).toInt = (pa (Int32.toNatClampNeg x1)).toInt + 5 := i_add (by have : (5 : Int32).toInt = 5 := rfl; omega) (by have : (5 : Int32).toInt = 5 := rfl; omega)
          refine ml_blk 2 (S' := (58, [(0, .ref m0), (1, .int x1)], [.ref m0, .ref m0], M11)) rfl ?_
          refine rg_ref (S' := (61, [(0, .ref m0), (1, .int x1)], [.ref (q 21), .ref m0], M11)) rfl hR13 rfl rfl ?_
          refine ml_st (S' := (62, [(0, .ref m0), (1, .int x1)], [.int x1, .ref (q 21), .ref m0], M11)) rfl rfl rfl ?_
          refine ra_ld (k := 21) (S' := (63, [(0, .ref m0), (1, .int x1)], [.int (pa (Int32.toNatClampNeg x1)), .ref m0], M11)) rfl hR13 rfl (by have q := (hP0.e h3.1 h3.2.1).2.1; rwa [Int32.zero_add] at q) (by have q := (hP0.e h3.1 h3.2.1).1; rwa [Int32.zero_add] at q) rfl ?_
          refine ml_blk 2 (S' := (65, [(0, .ref m0), (1, .int x1)], [.int ((pa (Int32.toNatClampNeg x1)) + 1), .ref m0], M11)) rfl ?_
          refine ml_call (a := [.ref m0, .int ((pa (Int32.toNatClampNeg x1)) + 1)]) (rest := []) rfl (hR13.okc rfl rfl rfl) rfl rfl (rm_u4 hR13 hF16 (by omega) (by omega) (by omega)) (fun v24 M25 h26 => ?_)
          obtain ⟨rfl, h26⟩ := h26
          rw [h26]
          show ml _ _ _ (68, [(0, .ref m0), (1, .int x1)], [.long (f4 f ((pa (Int32.toNatClampNeg x1)) + 1))], M11) _
          refine ml_blk 3 (S' := (72, [(0, .ref m0), (1, .int x1)], [.ref m0, .long ((f4 f ((pa (Int32.toNatClampNeg x1)) + 1)) <<< (Int32.toInt64 32 &&& 63))], M11)) rfl ?_
          refine ml_st (S' := (73, [(0, .ref m0), (1, .int x1)], [.ref m0, .ref m0, .long ((f4 f ((pa (Int32.toNatClampNeg x1)) + 1)) <<< (Int32.toInt64 32 &&& 63))], M11)) rfl rfl rfl ?_
          refine rg_ref (S' := (76, [(0, .ref m0), (1, .int x1)], [.ref (q 21), .ref m0, .long ((f4 f ((pa (Int32.toNatClampNeg x1)) + 1)) <<< (Int32.toInt64 32 &&& 63))], M11)) rfl hR13 rfl rfl ?_
          refine ml_st (S' := (77, [(0, .ref m0), (1, .int x1)], [.int x1, .ref (q 21), .ref m0, .long ((f4 f ((pa (Int32.toNatClampNeg x1)) + 1)) <<< (Int32.toInt64 32 &&& 63))], M11)) rfl rfl rfl ?_
          refine ra_ld (k := 21) (S' := (78, [(0, .ref m0), (1, .int x1)], [.int (pa (Int32.toNatClampNeg x1)), .ref m0, .long ((f4 f ((pa (Int32.toNatClampNeg x1)) + 1)) <<< (Int32.toInt64 32 &&& 63))], M11)) rfl hR13 rfl (by have q := (hP0.e h3.1 h3.2.1).2.1; rwa [Int32.zero_add] at q) (by have q := (hP0.e h3.1 h3.2.1).1; rwa [Int32.zero_add] at q) rfl ?_
          refine ml_blk 2 (S' := (80, [(0, .ref m0), (1, .int x1)], [.int ((pa (Int32.toNatClampNeg x1)) + 5), .ref m0, .long ((f4 f ((pa (Int32.toNatClampNeg x1)) + 1)) <<< (Int32.toInt64 32 &&& 63))], M11)) rfl ?_
          refine ml_call (a := [.ref m0, .int ((pa (Int32.toNatClampNeg x1)) + 5)]) (rest := [.long ((f4 f ((pa (Int32.toNatClampNeg x1)) + 1)) <<< (Int32.toInt64 32 &&& 63))]) rfl (hR13.okc rfl rfl rfl) rfl rfl (rm_u4 hR13 hF16 (by omega) (by omega) (by omega)) (fun v27 M28 h29 => ?_)
          obtain ⟨rfl, h29⟩ := h29
          rw [h29]
          show ml _ _ _ (83, [(0, .ref m0), (1, .int x1)], [.long (f4 f ((pa (Int32.toNatClampNeg x1)) + 5)), .long ((f4 f ((pa (Int32.toNatClampNeg x1)) + 1)) <<< (Int32.toInt64 32 &&& 63))], M11) _
          refine ml_st (S' := (84, [(0, .ref m0), (1, .int x1)], [.long (((f4 f ((pa (Int32.toNatClampNeg x1)) + 1)) <<< (Int32.toInt64 32 &&& 63)) ||| (f4 f ((pa (Int32.toNatClampNeg x1)) + 5)))], M11)) rfl rfl rfl ?_
          exact ml_ret rfl (rfl) (⟨_, _, _, rfl, hR13, (eqI.rf.put f15 (by decide)), eqR.rf⟩)
        refine ml_if2 (S1 := (56, [(0, .ref m0), (1, .int x1)], [], M11)) (S2 := (50, [(2, .int (tgf f cp pa x1)), (0, .ref m0), (1, .int x1)], [], M11)) rfl rfl rfl (fun c_47 => ?_) (fun c_47 => ?_)
        · have c_47 : (tgf f cp pa x1) = 5 := of_decide_eq_true c_47
          exact J_56  (Or.inl c_47)
        · have c_47 : ¬ ((tgf f cp pa x1) = 5) := of_decide_eq_false c_47
          refine ml_blk 2 (S' := (53, [(2, .int (tgf f cp pa x1)), (0, .ref m0), (1, .int x1)], [.int 6, .int (tgf f cp pa x1)], M11)) rfl ?_
          refine ml_if2 (S1 := (85, [(2, .int (tgf f cp pa x1)), (0, .ref m0), (1, .int x1)], [], M11)) (S2 := (56, [(0, .ref m0), (1, .int x1)], [], M11)) rfl rfl rfl (fun c_53 => ?_) (fun c_53 => ?_)
          · have c_53 : ¬ (tgf f cp pa x1) = 6 := of_decide_eq_true c_53
            refine ml_st (S' := (86, [(2, .int (tgf f cp pa x1)), (0, .ref m0), (1, .int x1)], [.long 0], M11)) rfl rfl rfl ?_
            exact ml_ret rfl (rfl) (⟨_, _, _, rfl, hR13, (eqI.rf.put f15 (by decide)), eqR.rf⟩)
          · have c_53 : ¬ (¬ (tgf f cp pa x1) = 6) := of_decide_eq_false c_53
            exact J_56  (Or.inr (Decidable.not_not.mp c_53))
      · have c_27 : ¬ (¬ (tgf f cp pa x1) = 4) := of_decide_eq_false c_27
        exact J_30  (Or.inr (Decidable.not_not.mp c_27))
  · have c_9 : ¬ (0 ≤ kn) := of_decide_eq_false c_9
    refine ml_st (S' := (13, [(0, .ref m0), (1, .int x1)], [.long 0], M11)) rfl rfl rfl ?_
    exact ml_ret rfl (rfl) (⟨_, _, _, rfl, hR13, (eqI.rf.put f15 (by decide)), eqR.rf⟩)
set_option maxHeartbeats 2000000 in
theorem rm_character {g : xe_G}  {m0 : Nat} {q : Nat → Nat} {z : Nat × Nat} {I : rI} {R : rR} {M : mi_H} {x1 x2 kn : Int32} {n : Nat} {f : Nat → Int32}  (hR : RS g m0 q z I R M) (hk18 : I 18 = some kn) (hG : (kn < 0 ∨ GD n f I R)) {d : Nat} (hd : 3 ≤ d) : mt (mT g) d 186 [.ref m0, .int x1, .int x2] M (fun v M' => ∃ (x : Int32) (I' : rI) (R' : rR), v = some (.int x) ∧ RS g m0 q z I' R' M' ∧ eqI [0] I I' ∧ eqR [] R R') := by
  obtain ⟨d, rfl⟩ : ∃ e, d = e + 1 := ⟨d - 1, by omega⟩
  refine mt_in (b := mb_186 g) rfl rfl ?_
  show ml (mT g) d (mb_186 g).2 (0, [(0, .ref m0), (1, .int x1), (2, .int x2)], [], M) _
  refine ml_blk 2 (S' := (2, [(0, .ref m0), (1, .int x1), (2, .int x2)], [.int 0, .ref m0], M)) rfl ?_
  refine rp_int rfl hR rfl (fun M11 I12 hR13 e14 f15 => ?_)
  show ml _ _ _ (5, [(0, .ref m0), (1, .int x1), (2, .int x2)], [], M11) _
  refine ml_st (S' := (6, [(0, .ref m0), (1, .int x1), (2, .int x2)], [.ref m0], M11)) rfl rfl rfl ?_
  refine rg_int (S' := (9, [(0, .ref m0), (1, .int x1), (2, .int x2)], [.int kn], M11)) rfl hR13 rfl ((f15 18 (by decide)).trans (hk18)) rfl ?_
  refine ml_if (S1 := (38, [], [], M11)) (S2 := (12, [(0, .ref m0), (1, .int x1), (2, .int x2)], [], M11)) rfl rfl rfl (fun c_9 => ?_) (fun c_9 => ?_)
  · have c_9 : kn < 0 := of_decide_eq_true c_9
    refine ml_st (S' := (39, [], [.int (-1)], M11)) rfl rfl rfl ?_
    refine ml_st (S' := (52, [], [.int (-1)], M11)) rfl rfl rfl ?_
    exact ml_ret rfl (rfl) (⟨_, _, _, rfl, hR13, (eqI.rf.put f15 (by decide)), eqR.rf⟩)
  · have c_9 : ¬ (kn < 0) := of_decide_eq_false c_9
    obtain ⟨S, cN, sa, sl, ch, cp, mj, pa, py, hA, fA, mA, aA, nf, ni, kf, km, hF0, hY0, hP0, hE0, hFO, kq54, kq58, kq61, hkf, kq25, hfk, hkm, kq26, hmk, hNW⟩ := hG.resolve_left (c_9)
    have hn := hF0.1
    refine ml_blk 2 (S' := (14, [(0, .ref m0), (1, .int x1), (2, .int x2)], [.int x1, .ref m0], M11)) rfl ?_
    have hF16 : FK n f I12 R := (hF0.mono (pIx f15 (by decide)) (fun _ _ => rfl))
    have hP17 : PK n f S cp mj pa py I12 R := (hP0.mono (pIx f15 (by decide)) (fun _ _ => rfl))
    refine ml_call (a := [.ref m0, .int x1]) (rest := []) rfl (hR13.okc rfl rfl rfl) rfl rfl (rm_tag hR13 hF16 hP17 (by omega)) (fun v18 M19 h20 => ?_)
    obtain ⟨rfl, h20⟩ := h20
    rw [h20]
    show ml _ _ _ (17, [(0, .ref m0), (1, .int x1), (2, .int x2)], [.int (tgf f cp pa x1)], M11) _
    refine ml_st (S' := (18, [(0, .ref m0), (1, .int x1), (2, .int x2)], [.int 1, .int (tgf f cp pa x1)], M11)) rfl rfl rfl ?_
    refine ml_if2 (S1 := (38, [], [], M11)) (S2 := (21, [(0, .ref m0), (1, .int x1), (2, .int x2)], [], M11)) rfl rfl rfl (fun c_18 => ?_) (fun c_18 => ?_)
    · have c_18 : ¬ (tgf f cp pa x1) = 1 := of_decide_eq_true c_18
      refine ml_st (S' := (39, [], [.int (-1)], M11)) rfl rfl rfl ?_
      refine ml_st (S' := (52, [], [.int (-1)], M11)) rfl rfl rfl ?_
      exact ml_ret rfl (rfl) (⟨_, _, _, rfl, hR13, (eqI.rf.put f15 (by decide)), eqR.rf⟩)
    · have c_18 : ¬ (¬ (tgf f cp pa x1) = 1) := of_decide_eq_false c_18
      refine ml_st (S' := (22, [(0, .ref m0), (1, .int x1), (2, .int x2)], [.int x2], M11)) rfl rfl rfl ?_
      refine ml_if (S1 := (38, [], [], M11)) (S2 := (25, [(0, .ref m0), (1, .int x1), (2, .int x2)], [], M11)) rfl rfl rfl (fun c_22 => ?_) (fun c_22 => ?_)
      · have c_22 : x2 < 0 := of_decide_eq_true c_22
        refine ml_st (S' := (39, [], [.int (-1)], M11)) rfl rfl rfl ?_
        refine ml_st (S' := (52, [], [.int (-1)], M11)) rfl rfl rfl ?_
        exact ml_ret rfl (rfl) (⟨_, _, _, rfl, hR13, (eqI.rf.put f15 (by decide)), eqR.rf⟩)
      · have c_22 : ¬ (x2 < 0) := of_decide_eq_false c_22
        refine ml_blk 3 (S' := (28, [(0, .ref m0), (1, .int x1), (2, .int x2)], [.ref m0, .ref m0, .int x2], M11)) rfl ?_
        refine ml_st (S' := (29, [(0, .ref m0), (1, .int x1), (2, .int x2)], [.int x1, .ref m0, .ref m0, .int x2], M11)) rfl rfl rfl ?_
        refine ml_call (a := [.ref m0, .int x1]) (rest := [.ref m0, .int x2]) rfl (hR13.okc rfl rfl rfl) rfl rfl (rm_symOf hR13 hP17 (Decidable.not_not.mp c_18) (by omega)) (fun v21 M22 h23 => ?_)
        obtain ⟨rfl, h23⟩ := h23
        rw [h23]
        show ml _ _ _ (32, [(0, .ref m0), (1, .int x1), (2, .int x2)], [.int (pyf py x1), .ref m0, .int x2], M11) _
        have hY24 : SK S cN sa sl ch I12 R := (hY0.mono (pIx f15 (by decide)) (fun _ _ => rfl))
        refine ml_call (a := [.ref m0, .int (pyf py x1)]) (rest := [.int x2]) rfl (hR13.okc rfl rfl rfl) rfl rfl (rm_length hR13 hY24 ((hP0.y (Decidable.not_not.mp c_18)).2.2.1) ((hP0.y (Decidable.not_not.mp c_18)).2.2.2) (by omega)) (fun v25 M26 h27 => ?_)
        obtain ⟨rfl, h27⟩ := h27
        rw [h27]
        show ml _ _ _ (35, [(0, .ref m0), (1, .int x1), (2, .int x2)], [.int (sL sl (pyf py x1)), .int x2], M11) _
        refine ml_if2 (S1 := (42, [(0, .ref m0), (1, .int x1), (2, .int x2)], [], M11)) (S2 := (38, [], [], M11)) rfl rfl rfl (fun c_35 => ?_) (fun c_35 => ?_)
        · have c_35 : x2 < (sL sl (pyf py x1)) := of_decide_eq_true c_35
          refine ml_blk 3 (S' := (45, [(0, .ref m0), (1, .int x1), (2, .int x2)], [.int x1, .ref m0, .ref m0], M11)) rfl ?_
          refine ml_call (a := [.ref m0, .int x1]) (rest := [.ref m0]) rfl (hR13.okc rfl rfl rfl) rfl rfl (rm_symOf hR13 hP17 (Decidable.not_not.mp c_18) (by omega)) (fun v28 M29 h30 => ?_)
          obtain ⟨rfl, h30⟩ := h30
          rw [h30]
          show ml _ _ _ (48, [(0, .ref m0), (1, .int x1), (2, .int x2)], [.int (pyf py x1), .ref m0], M11) _
          refine ml_st (S' := (49, [(0, .ref m0), (1, .int x1), (2, .int x2)], [.int x2, .int (pyf py x1), .ref m0], M11)) rfl rfl rfl ?_
          refine ml_call (a := [.ref m0, .int (pyf py x1), .int x2]) (rest := []) rfl (hR13.okc rfl rfl rfl) rfl rfl (rm_at hR13 hY24 ((hP0.y (Decidable.not_not.mp c_18)).2.2.1) ((hP0.y (Decidable.not_not.mp c_18)).2.2.2) (i_nlt c_22) (i_lt c_35) (by omega)) (fun v31 M32 h33 => ?_)
          obtain ⟨rfl, h33⟩ := h33
          rw [h33]
          show ml _ _ _ (52, [], [.int (tx sa ch (pyf py x1) x2)], M11) _
          exact ml_ret rfl (rfl) (⟨_, _, _, rfl, hR13, (eqI.rf.put f15 (by decide)), eqR.rf⟩)
        · have c_35 : ¬ (x2 < (sL sl (pyf py x1))) := of_decide_eq_false c_35
          refine ml_st (S' := (39, [], [.int (-1)], M11)) rfl rfl rfl ?_
          refine ml_st (S' := (52, [], [.int (-1)], M11)) rfl rfl rfl ?_
          exact ml_ret rfl (rfl) (⟨_, _, _, rfl, hR13, (eqI.rf.put f15 (by decide)), eqR.rf⟩)
set_option maxHeartbeats 2000000 in
theorem rm_member {g : xe_G}  {m0 : Nat} {q : Nat → Nat} {z : Nat × Nat} {I : rI} {R : rR} {M : mi_H} {x1 x2 x3 kn : Int32} {n : Nat} {f : Nat → Int32}  (hR : RS g m0 q z I R M) (hk18 : I 18 = some kn) (hG : (kn < 0 ∨ GD n f I R)) {d : Nat} (hd : 5 ≤ d) : mt (mT g) d 223 [.ref m0, .int x1, .int x2, .int x3] M (fun v M' => ∃ (x : Int32) (I' : rI) (R' : rR), v = some (.int x) ∧ RS g m0 q z I' R' M' ∧ eqI [0] I I' ∧ eqR [] R R') := by
  obtain ⟨d, rfl⟩ : ∃ e, d = e + 1 := ⟨d - 1, by omega⟩
  refine mt_in (b := mb_223 g) rfl rfl ?_
  show ml (mT g) d (mb_223 g).2 (0, [(0, .ref m0), (1, .int x1), (2, .int x2), (3, .int x3)], [], M) _
  refine ml_blk 2 (S' := (2, [(0, .ref m0), (1, .int x1), (2, .int x2), (3, .int x3)], [.int 0, .ref m0], M)) rfl ?_
  refine rp_int rfl hR rfl (fun M11 I12 hR13 e14 f15 => ?_)
  show ml _ _ _ (5, [(0, .ref m0), (1, .int x1), (2, .int x2), (3, .int x3)], [], M11) _
  refine ml_st (S' := (6, [(0, .ref m0), (1, .int x1), (2, .int x2), (3, .int x3)], [.int x3], M11)) rfl rfl rfl ?_
  refine ml_if (S1 := (15, [(0, .ref m0)], [], M11)) (S2 := (9, [(0, .ref m0), (1, .int x1), (2, .int x2), (3, .int x3)], [], M11)) rfl rfl rfl (fun c_6 => ?_) (fun c_6 => ?_)
  · have c_6 : x3 < 0 := of_decide_eq_true c_6
    refine ml_st (S' := (16, [(0, .ref m0)], [.ref m0], M11)) rfl rfl rfl ?_
    refine ml_call (a := [.ref m0]) (rest := []) rfl (hR13.okc rfl rfl rfl) rfl rfl (rm_bad hR13 (by omega)) (fun v16 M17 h18 => ?_)
    obtain ⟨u24, I19, R20, rfl, hR21, hI22, hV23, w25⟩ := h18
    show ml _ _ _ (19, [(0, .ref m0)], [.int u24], M17) _
    exact ml_ret rfl (rfl) (⟨_, _, _, rfl, hR21, ((eqI.rf.put f15 (by decide)).tr hI22 (by decide)), (eqR.rf.tr hV23 (by decide))⟩)
  · have c_6 : ¬ (x3 < 0) := of_decide_eq_false c_6
    refine ml_blk 2 (S' := (12, [(0, .ref m0), (1, .int x1), (2, .int x2), (3, .int x3)], [.int 9, .int x3], M11)) rfl ?_
    refine ml_if2 (S1 := (20, [(0, .ref m0), (1, .int x1), (2, .int x2), (3, .int x3)], [], M11)) (S2 := (15, [(0, .ref m0)], [], M11)) rfl rfl rfl (fun c_12 => ?_) (fun c_12 => ?_)
    · have c_12 : x3 ≤ 9 := of_decide_eq_true c_12
      refine ml_st (S' := (21, [(0, .ref m0), (1, .int x1), (2, .int x2), (3, .int x3)], [.ref m0], M11)) rfl rfl rfl ?_
      refine rg_int (S' := (24, [(0, .ref m0), (1, .int x1), (2, .int x2), (3, .int x3)], [.int kn], M11)) rfl hR13 rfl ((f15 18 (by decide)).trans (hk18)) rfl ?_
      refine ml_if (S1 := (50, [], [], M11)) (S2 := (27, [(0, .ref m0), (1, .int x1), (2, .int x2), (3, .int x3)], [], M11)) rfl rfl rfl (fun c_24 => ?_) (fun c_24 => ?_)
      · have c_24 : kn < 0 := of_decide_eq_true c_24
        refine ml_st (S' := (51, [], [.int (-1)], M11)) rfl rfl rfl ?_
        exact ml_ret rfl (rfl) (⟨_, _, _, rfl, hR13, (eqI.rf.put f15 (by decide)), eqR.rf⟩)
      · have c_24 : ¬ (kn < 0) := of_decide_eq_false c_24
        obtain ⟨S, cN, sa, sl, ch, cp, mj, pa, py, hA, fA, mA, aA, nf, ni, kf, km, hF0, hY0, hP0, hE0, hFO, kq54, kq58, kq61, hkf, kq25, hfk, hkm, kq26, hmk, hNW⟩ := hG.resolve_left (c_24)
        have hn := hF0.1
        refine ml_st (S' := (28, [(0, .ref m0), (1, .int x1), (2, .int x2), (3, .int x3)], [.int x2], M11)) rfl rfl rfl ?_
        refine ml_if (S1 := (50, [], [], M11)) (S2 := (31, [(0, .ref m0), (1, .int x1), (2, .int x2), (3, .int x3)], [], M11)) rfl rfl rfl (fun c_28 => ?_) (fun c_28 => ?_)
        · have c_28 : x2 < 0 := of_decide_eq_true c_28
          refine ml_st (S' := (51, [], [.int (-1)], M11)) rfl rfl rfl ?_
          exact ml_ret rfl (rfl) (⟨_, _, _, rfl, hR13, (eqI.rf.put f15 (by decide)), eqR.rf⟩)
        · have c_28 : ¬ (x2 < 0) := of_decide_eq_false c_28
          refine ml_blk 2 (S' := (33, [(0, .ref m0), (1, .int x1), (2, .int x2), (3, .int x3)], [.int x1, .int x2], M11)) rfl ?_
          have J_47 : ∀ (s47_0 : Int32), ((x1 = 0 → s47_0 = nI kf) ∧ (¬ x1 = 0 → s47_0 = nI km)) → ml (mT g) d (mb_223 g).2 (47, [(0, .ref m0), (1, .int x1), (2, .int x2), (3, .int x3)], [.int s47_0, .int x2], M11) (fun v M' => ∃ (x : Int32) (I' : rI) (R' : rR), v = some (.int x) ∧ RS g m0 q z I' R' M' ∧ eqI [0] I I' ∧ eqR [] R R') := by
            intro s47_0 hj_47
            refine ml_if2 (S1 := (52, [(0, .ref m0), (1, .int x1), (2, .int x2), (3, .int x3)], [], M11)) (S2 := (50, [], [], M11)) rfl rfl rfl (fun c_47 => ?_) (fun c_47 => ?_)
            · have c_47 : x2 < s47_0 := of_decide_eq_true c_47
              have hj_52 : (0 ≤ x2.toInt ∧ (x1 = 0 → x2.toInt < kf) ∧ (¬ x1 = 0 → x2.toInt < km)) := ⟨i_nlt c_28, fun e => i_ltn (hj_47.1 e ▸ c_47) hkf, fun e => i_ltn (hj_47.2 e ▸ c_47) hkm⟩
              refine ml_st (S' := (53, [(0, .ref m0), (1, .int x1), (2, .int x2), (3, .int x3)], [.int x3], M11)) rfl rfl rfl ?_
              refine ml_sw rfl (fun t_53 ht_53 => ?_)
              have kt_53 := ht_53
              have ht_53 : t_53 ∈ [88, 108, 128, 148, 168, 188] := mi_sw_sub ht_53 (by decide)
              simp only [List.mem_cons, List.not_mem_nil, or_false] at ht_53
              rcases ht_53 with rfl | rfl | rfl | rfl | rfl | rfl
              · show ml _ _ _ (88, [(0, .ref m0), (1, .int x1), (2, .int x2), (3, .int x3)], [], M11) _
                refine ml_st (S' := (89, [(0, .ref m0), (1, .int x1), (2, .int x2), (3, .int x3)], [.int x1], M11)) rfl rfl rfl ?_
                refine ml_if (S1 := (101, [(0, .ref m0), (1, .int x1), (2, .int x2), (3, .int x3)], [], M11)) (S2 := (92, [(0, .ref m0), (1, .int x1), (2, .int x2), (3, .int x3)], [], M11)) rfl rfl rfl (fun c_89 => ?_) (fun c_89 => ?_)
                · have c_89 : x1 = 0 := of_decide_eq_true c_89
                  refine ml_st (S' := (102, [(0, .ref m0), (1, .int x1), (2, .int x2), (3, .int x3)], [.ref m0], M11)) rfl rfl rfl ?_
                  refine rg_ref (S' := (105, [(0, .ref m0), (1, .int x1), (2, .int x2), (3, .int x3)], [.ref (q 27)], M11)) rfl hR13 rfl rfl ?_
                  refine ml_st (S' := (106, [(0, .ref m0), (1, .int x1), (2, .int x2), (3, .int x3)], [.int x2, .ref (q 27)], M11)) rfl rfl rfl ?_
                  have hx106 := hj_52.2.1 c_89
                  obtain ⟨v26, hv27⟩ := hfk x2.toNatClampNeg (by show x2.toInt.toNat < kf; omega) 27 (by decide)
                  refine ra_ld (k := 27) (S' := (107, [], [.int v26], M11)) rfl hR13 rfl (vin_lt hj_52.1 (by omega)) (hv27) rfl ?_
                  exact ml_ret rfl (rfl) (⟨_, _, _, rfl, hR13, (eqI.rf.put f15 (by decide)), eqR.rf⟩)
                · have c_89 : ¬ (x1 = 0) := of_decide_eq_false c_89
                  refine ml_st (S' := (93, [(0, .ref m0), (1, .int x1), (2, .int x2), (3, .int x3)], [.ref m0], M11)) rfl rfl rfl ?_
                  refine rg_ref (S' := (96, [(0, .ref m0), (1, .int x1), (2, .int x2), (3, .int x3)], [.ref (q 34)], M11)) rfl hR13 rfl rfl ?_
                  refine ml_st (S' := (97, [(0, .ref m0), (1, .int x1), (2, .int x2), (3, .int x3)], [.int x2, .ref (q 34)], M11)) rfl rfl rfl ?_
                  have hx97 := hj_52.2.2 c_89
                  obtain ⟨v28, hv29⟩ := (hmk x2.toNatClampNeg (by show x2.toInt.toNat < km; omega)).1 34 (by decide)
                  refine ra_ld (k := 34) (S' := (98, [(0, .ref m0), (1, .int x1), (2, .int x2), (3, .int x3)], [.int v28], M11)) rfl hR13 rfl (vin_lt hj_52.1 (by omega)) (hv29) rfl ?_
                  refine ml_st (S' := (107, [], [.int v28], M11)) rfl rfl rfl ?_
                  exact ml_ret rfl (rfl) (⟨_, _, _, rfl, hR13, (eqI.rf.put f15 (by decide)), eqR.rf⟩)
              · show ml _ _ _ (108, [(0, .ref m0), (1, .int x1), (2, .int x2), (3, .int x3)], [], M11) _
                refine ml_st (S' := (109, [(0, .ref m0), (1, .int x1), (2, .int x2), (3, .int x3)], [.int x1], M11)) rfl rfl rfl ?_
                refine ml_if (S1 := (121, [(0, .ref m0), (1, .int x1), (2, .int x2), (3, .int x3)], [], M11)) (S2 := (112, [(0, .ref m0), (1, .int x1), (2, .int x2), (3, .int x3)], [], M11)) rfl rfl rfl (fun c_109 => ?_) (fun c_109 => ?_)
                · have c_109 : x1 = 0 := of_decide_eq_true c_109
                  refine ml_st (S' := (122, [(0, .ref m0), (1, .int x1), (2, .int x2), (3, .int x3)], [.ref m0], M11)) rfl rfl rfl ?_
                  refine rg_ref (S' := (125, [(0, .ref m0), (1, .int x1), (2, .int x2), (3, .int x3)], [.ref (q 32)], M11)) rfl hR13 rfl rfl ?_
                  refine ml_st (S' := (126, [(0, .ref m0), (1, .int x1), (2, .int x2), (3, .int x3)], [.int x2, .ref (q 32)], M11)) rfl rfl rfl ?_
                  have hx126 := hj_52.2.1 c_109
                  obtain ⟨v30, hv31⟩ := hfk x2.toNatClampNeg (by show x2.toInt.toNat < kf; omega) 32 (by decide)
                  refine ra_ld (k := 32) (S' := (127, [], [.int v30], M11)) rfl hR13 rfl (vin_lt hj_52.1 (by omega)) (hv31) rfl ?_
                  exact ml_ret rfl (rfl) (⟨_, _, _, rfl, hR13, (eqI.rf.put f15 (by decide)), eqR.rf⟩)
                · have c_109 : ¬ (x1 = 0) := of_decide_eq_false c_109
                  refine ml_st (S' := (113, [(0, .ref m0), (1, .int x1), (2, .int x2), (3, .int x3)], [.ref m0], M11)) rfl rfl rfl ?_
                  refine rg_ref (S' := (116, [(0, .ref m0), (1, .int x1), (2, .int x2), (3, .int x3)], [.ref (q 45)], M11)) rfl hR13 rfl rfl ?_
                  refine ml_st (S' := (117, [(0, .ref m0), (1, .int x1), (2, .int x2), (3, .int x3)], [.int x2, .ref (q 45)], M11)) rfl rfl rfl ?_
                  have hx117 := hj_52.2.2 c_109
                  obtain ⟨v32, hv33⟩ := (hmk x2.toNatClampNeg (by show x2.toInt.toNat < km; omega)).1 45 (by decide)
                  refine ra_ld (k := 45) (S' := (118, [(0, .ref m0), (1, .int x1), (2, .int x2), (3, .int x3)], [.int v32], M11)) rfl hR13 rfl (vin_lt hj_52.1 (by omega)) (hv33) rfl ?_
                  refine ml_st (S' := (127, [], [.int v32], M11)) rfl rfl rfl ?_
                  exact ml_ret rfl (rfl) (⟨_, _, _, rfl, hR13, (eqI.rf.put f15 (by decide)), eqR.rf⟩)
              · show ml _ _ _ (128, [(0, .ref m0), (1, .int x1), (2, .int x2), (3, .int x3)], [], M11) _
                refine ml_st (S' := (129, [(0, .ref m0), (1, .int x1), (2, .int x2), (3, .int x3)], [.int x1], M11)) rfl rfl rfl ?_
                refine ml_if (S1 := (141, [(0, .ref m0), (1, .int x1), (2, .int x2), (3, .int x3)], [], M11)) (S2 := (132, [(0, .ref m0), (1, .int x1), (2, .int x2), (3, .int x3)], [], M11)) rfl rfl rfl (fun c_129 => ?_) (fun c_129 => ?_)
                · have c_129 : x1 = 0 := of_decide_eq_true c_129
                  refine ml_st (S' := (142, [(0, .ref m0), (1, .int x1), (2, .int x2), (3, .int x3)], [.ref m0], M11)) rfl rfl rfl ?_
                  refine rg_ref (S' := (145, [(0, .ref m0), (1, .int x1), (2, .int x2), (3, .int x3)], [.ref (q 33)], M11)) rfl hR13 rfl rfl ?_
                  refine ml_st (S' := (146, [(0, .ref m0), (1, .int x1), (2, .int x2), (3, .int x3)], [.int x2, .ref (q 33)], M11)) rfl rfl rfl ?_
                  have hx146 := hj_52.2.1 c_129
                  obtain ⟨v34, hv35⟩ := hfk x2.toNatClampNeg (by show x2.toInt.toNat < kf; omega) 33 (by decide)
                  refine ra_ld (k := 33) (S' := (147, [], [.int v34], M11)) rfl hR13 rfl (vin_lt hj_52.1 (by omega)) (hv35) rfl ?_
                  exact ml_ret rfl (rfl) (⟨_, _, _, rfl, hR13, (eqI.rf.put f15 (by decide)), eqR.rf⟩)
                · have c_129 : ¬ (x1 = 0) := of_decide_eq_false c_129
                  refine ml_st (S' := (133, [(0, .ref m0), (1, .int x1), (2, .int x2), (3, .int x3)], [.ref m0], M11)) rfl rfl rfl ?_
                  refine rg_ref (S' := (136, [(0, .ref m0), (1, .int x1), (2, .int x2), (3, .int x3)], [.ref (q 46)], M11)) rfl hR13 rfl rfl ?_
                  refine ml_st (S' := (137, [(0, .ref m0), (1, .int x1), (2, .int x2), (3, .int x3)], [.int x2, .ref (q 46)], M11)) rfl rfl rfl ?_
                  have hx137 := hj_52.2.2 c_129
                  obtain ⟨v36, hv37⟩ := (hmk x2.toNatClampNeg (by show x2.toInt.toNat < km; omega)).1 46 (by decide)
                  refine ra_ld (k := 46) (S' := (138, [(0, .ref m0), (1, .int x1), (2, .int x2), (3, .int x3)], [.int v36], M11)) rfl hR13 rfl (vin_lt hj_52.1 (by omega)) (hv37) rfl ?_
                  refine ml_st (S' := (147, [], [.int v36], M11)) rfl rfl rfl ?_
                  exact ml_ret rfl (rfl) (⟨_, _, _, rfl, hR13, (eqI.rf.put f15 (by decide)), eqR.rf⟩)
              · show ml _ _ _ (148, [(0, .ref m0), (1, .int x1), (2, .int x2), (3, .int x3)], [], M11) _
                refine ml_st (S' := (149, [(0, .ref m0), (1, .int x1), (2, .int x2), (3, .int x3)], [.int x1], M11)) rfl rfl rfl ?_
                refine ml_if (S1 := (161, [(0, .ref m0), (1, .int x1), (2, .int x2), (3, .int x3)], [], M11)) (S2 := (152, [(0, .ref m0), (1, .int x1), (2, .int x2), (3, .int x3)], [], M11)) rfl rfl rfl (fun c_149 => ?_) (fun c_149 => ?_)
                · have c_149 : x1 = 0 := of_decide_eq_true c_149
                  refine ml_st (S' := (162, [(0, .ref m0), (1, .int x1), (2, .int x2), (3, .int x3)], [.ref m0], M11)) rfl rfl rfl ?_
                  refine rg_ref (S' := (165, [(0, .ref m0), (1, .int x1), (2, .int x2), (3, .int x3)], [.ref (q 31)], M11)) rfl hR13 rfl rfl ?_
                  refine ml_st (S' := (166, [(0, .ref m0), (1, .int x1), (2, .int x2), (3, .int x3)], [.int x2, .ref (q 31)], M11)) rfl rfl rfl ?_
                  have hx166 := hj_52.2.1 c_149
                  obtain ⟨v38, hv39⟩ := hfk x2.toNatClampNeg (by show x2.toInt.toNat < kf; omega) 31 (by decide)
                  refine ra_ld (k := 31) (S' := (167, [], [.int v38], M11)) rfl hR13 rfl (vin_lt hj_52.1 (by omega)) (hv39) rfl ?_
                  exact ml_ret rfl (rfl) (⟨_, _, _, rfl, hR13, (eqI.rf.put f15 (by decide)), eqR.rf⟩)
                · have c_149 : ¬ (x1 = 0) := of_decide_eq_false c_149
                  refine ml_st (S' := (153, [(0, .ref m0), (1, .int x1), (2, .int x2), (3, .int x3)], [.ref m0], M11)) rfl rfl rfl ?_
                  refine rg_ref (S' := (156, [(0, .ref m0), (1, .int x1), (2, .int x2), (3, .int x3)], [.ref (q 43)], M11)) rfl hR13 rfl rfl ?_
                  refine ml_st (S' := (157, [(0, .ref m0), (1, .int x1), (2, .int x2), (3, .int x3)], [.int x2, .ref (q 43)], M11)) rfl rfl rfl ?_
                  have hx157 := hj_52.2.2 c_149
                  obtain ⟨v40, hv41⟩ := (hmk x2.toNatClampNeg (by show x2.toInt.toNat < km; omega)).1 43 (by decide)
                  refine ra_ld (k := 43) (S' := (158, [(0, .ref m0), (1, .int x1), (2, .int x2), (3, .int x3)], [.int v40], M11)) rfl hR13 rfl (vin_lt hj_52.1 (by omega)) (hv41) rfl ?_
                  refine ml_st (S' := (167, [], [.int v40], M11)) rfl rfl rfl ?_
                  exact ml_ret rfl (rfl) (⟨_, _, _, rfl, hR13, (eqI.rf.put f15 (by decide)), eqR.rf⟩)
              · show ml _ _ _ (168, [(0, .ref m0), (1, .int x1), (2, .int x2), (3, .int x3)], [], M11) _
                refine ml_st (S' := (169, [(0, .ref m0), (1, .int x1), (2, .int x2), (3, .int x3)], [.int x1], M11)) rfl rfl rfl ?_
                refine ml_if (S1 := (181, [(0, .ref m0), (1, .int x1), (2, .int x2), (3, .int x3)], [], M11)) (S2 := (172, [(0, .ref m0), (1, .int x1), (2, .int x2), (3, .int x3)], [], M11)) rfl rfl rfl (fun c_169 => ?_) (fun c_169 => ?_)
                · have c_169 : x1 = 0 := of_decide_eq_true c_169
                  refine ml_st (S' := (182, [(0, .ref m0), (1, .int x1), (2, .int x2), (3, .int x3)], [.ref m0], M11)) rfl rfl rfl ?_
                  refine rg_ref (S' := (185, [(0, .ref m0), (1, .int x1), (2, .int x2), (3, .int x3)], [.ref (q 30)], M11)) rfl hR13 rfl rfl ?_
                  refine ml_st (S' := (186, [(0, .ref m0), (1, .int x1), (2, .int x2), (3, .int x3)], [.int x2, .ref (q 30)], M11)) rfl rfl rfl ?_
                  have hx186 := hj_52.2.1 c_169
                  obtain ⟨v42, hv43⟩ := hfk x2.toNatClampNeg (by show x2.toInt.toNat < kf; omega) 30 (by decide)
                  refine ra_ld (k := 30) (S' := (187, [], [.int v42], M11)) rfl hR13 rfl (vin_lt hj_52.1 (by omega)) (hv43) rfl ?_
                  exact ml_ret rfl (rfl) (⟨_, _, _, rfl, hR13, (eqI.rf.put f15 (by decide)), eqR.rf⟩)
                · have c_169 : ¬ (x1 = 0) := of_decide_eq_false c_169
                  refine ml_st (S' := (173, [(0, .ref m0), (1, .int x1), (2, .int x2), (3, .int x3)], [.ref m0], M11)) rfl rfl rfl ?_
                  refine rg_ref (S' := (176, [(0, .ref m0), (1, .int x1), (2, .int x2), (3, .int x3)], [.ref (q 38)], M11)) rfl hR13 rfl rfl ?_
                  refine ml_st (S' := (177, [(0, .ref m0), (1, .int x1), (2, .int x2), (3, .int x3)], [.int x2, .ref (q 38)], M11)) rfl rfl rfl ?_
                  have hx177 := hj_52.2.2 c_169
                  obtain ⟨v44, hv45⟩ := (hmk x2.toNatClampNeg (by show x2.toInt.toNat < km; omega)).1 38 (by decide)
                  refine ra_ld (k := 38) (S' := (178, [(0, .ref m0), (1, .int x1), (2, .int x2), (3, .int x3)], [.int v44], M11)) rfl hR13 rfl (vin_lt hj_52.1 (by omega)) (hv45) rfl ?_
                  refine ml_st (S' := (187, [], [.int v44], M11)) rfl rfl rfl ?_
                  exact ml_ret rfl (rfl) (⟨_, _, _, rfl, hR13, (eqI.rf.put f15 (by decide)), eqR.rf⟩)
              · show ml _ _ _ (188, [(0, .ref m0), (1, .int x1), (2, .int x2), (3, .int x3)], [], M11) _
                refine ml_st (S' := (189, [(0, .ref m0), (1, .int x1), (2, .int x2), (3, .int x3)], [.int x1], M11)) rfl rfl rfl ?_
                refine ml_if (S1 := (194, [(0, .ref m0), (1, .int x1), (2, .int x2), (3, .int x3)], [], M11)) (S2 := (192, [(0, .ref m0), (1, .int x1), (2, .int x2), (3, .int x3)], [], M11)) rfl rfl rfl (fun c_189 => ?_) (fun c_189 => ?_)
                · have c_189 : ¬ x1 = 0 := of_decide_eq_true c_189
                  refine ml_blk 2 (S' := (196, [(0, .ref m0), (1, .int x1), (2, .int x2), (3, .int x3)], [.int 5, .int x3], M11)) rfl ?_
                  refine ml_if2 (S1 := (208, [(0, .ref m0), (1, .int x1), (2, .int x2), (3, .int x3)], [], M11)) (S2 := (199, [(0, .ref m0), (1, .int x1), (2, .int x2), (3, .int x3)], [], M11)) rfl rfl rfl (fun c_196 => ?_) (fun c_196 => ?_)
                  · have c_196 : ¬ x3 = 5 := of_decide_eq_true c_196
                    refine ml_blk 2 (S' := (211, [(0, .ref m0), (1, .int x1), (2, .int x2), (3, .int x3)], [.int 6, .int x3], M11)) rfl ?_
                    refine ml_if2 (S1 := (223, [(0, .ref m0), (1, .int x1), (2, .int x2), (3, .int x3)], [], M11)) (S2 := (214, [(0, .ref m0), (1, .int x1), (2, .int x2), (3, .int x3)], [], M11)) rfl rfl rfl (fun c_211 => ?_) (fun c_211 => ?_)
                    · have c_211 : ¬ x3 = 6 := of_decide_eq_true c_211
                      refine ml_blk 2 (S' := (226, [(0, .ref m0), (1, .int x1), (2, .int x2), (3, .int x3)], [.int 7, .int x3], M11)) rfl ?_
                      refine ml_if2 (S1 := (238, [(0, .ref m0), (1, .int x1), (2, .int x2), (3, .int x3)], [], M11)) (S2 := (229, [(0, .ref m0), (1, .int x1), (2, .int x2), (3, .int x3)], [], M11)) rfl rfl rfl (fun c_226 => ?_) (fun c_226 => ?_)
                      · have c_226 : ¬ x3 = 7 := of_decide_eq_true c_226
                        refine ml_blk 2 (S' := (241, [(0, .ref m0), (1, .int x1), (2, .int x2), (3, .int x3)], [.int 8, .int x3], M11)) rfl ?_
                        refine ml_if2 (S1 := (275, [(0, .ref m0), (1, .int x1), (2, .int x2), (3, .int x3)], [], M11)) (S2 := (244, [(0, .ref m0), (1, .int x1), (2, .int x2), (3, .int x3)], [], M11)) rfl rfl rfl (fun c_241 => ?_) (fun c_241 => ?_)
                        · have c_241 : ¬ x3 = 8 := of_decide_eq_true c_241
                          refine ml_st (S' := (276, [(0, .ref m0), (1, .int x1), (2, .int x2), (3, .int x3)], [.ref m0], M11)) rfl rfl rfl ?_
                          refine rg_ref (S' := (279, [(0, .ref m0), (1, .int x1), (2, .int x2), (3, .int x3)], [.ref (q 44)], M11)) rfl hR13 rfl rfl ?_
                          refine ml_st (S' := (280, [(0, .ref m0), (1, .int x1), (2, .int x2), (3, .int x3)], [.int x2, .ref (q 44)], M11)) rfl rfl rfl ?_
                          have hx280 := hj_52.2.2 c_189
                          obtain ⟨v46, hv47⟩ := (hmk x2.toNatClampNeg (by show x2.toInt.toNat < km; omega)).1 44 (by decide)
                          refine ra_ld (k := 44) (S' := (281, [], [.int v46], M11)) rfl hR13 rfl (vin_lt hj_52.1 (by omega)) (hv47) rfl ?_
                          exact ml_ret rfl (rfl) (⟨_, _, _, rfl, hR13, (eqI.rf.put f15 (by decide)), eqR.rf⟩)
                        · have c_241 : ¬ (¬ x3 = 8) := of_decide_eq_false c_241
                          refine ml_blk 2 (S' := (246, [(0, .ref m0), (1, .int x1), (2, .int x2), (3, .int x3)], [.ref m0, .ref m0], M11)) rfl ?_
                          refine rg_ref (S' := (249, [(0, .ref m0), (1, .int x1), (2, .int x2), (3, .int x3)], [.ref (q 36), .ref m0], M11)) rfl hR13 rfl rfl ?_
                          refine ml_st (S' := (250, [(0, .ref m0), (1, .int x1), (2, .int x2), (3, .int x3)], [.int x2, .ref (q 36), .ref m0], M11)) rfl rfl rfl ?_
                          have hx250 := hj_52.2.2 c_189
                          obtain ⟨v48, hv49, hd0, hd1, hmt⟩ := (hmk x2.toNatClampNeg (by show x2.toInt.toNat < km; omega)).2.2
                          refine ra_ld (k := 36) (S' := (251, [(0, .ref m0), (1, .int x1), (2, .int x2), (3, .int x3)], [.int v48, .ref m0], M11)) rfl hR13 rfl (vin_lt hj_52.1 (by omega)) (hv49) rfl ?_
                          have hY50 : SK S cN sa sl ch I12 R := (hY0.mono (pIx f15 (by decide)) (fun _ _ => rfl))
                          refine ml_call (a := [.ref m0, .int v48]) (rest := []) rfl (hR13.okc rfl rfl rfl) rfl rfl (rm_places0 hR13 hY50 (hd0) (hd1) (hmt.1) (by omega)) (fun v51 M52 h53 => ?_)
                          obtain ⟨⟨u54, rfl⟩, h53⟩ := h53
                          rw [h53]
                          show ml _ _ _ (254, [(0, .ref m0), (1, .int x1), (2, .int x2), (3, .int x3)], [.int u54], M11) _
                          refine ml_st (S' := (255, [(0, .ref m0), (1, .int x1), (2, .int x2), (3, .int x3)], [.ref m0, .int u54], M11)) rfl rfl rfl ?_
                          refine rg_ref (S' := (258, [(0, .ref m0), (1, .int x1), (2, .int x2), (3, .int x3)], [.ref (q 34), .int u54], M11)) rfl hR13 rfl rfl ?_
                          refine ml_st (S' := (259, [(0, .ref m0), (1, .int x1), (2, .int x2), (3, .int x3)], [.int x2, .ref (q 34), .int u54], M11)) rfl rfl rfl ?_
                          have hx259 := hj_52.2.2 c_189
                          obtain ⟨v55, hv56⟩ := (hmk x2.toNatClampNeg (by show x2.toInt.toNat < km; omega)).1 34 (by decide)
                          refine ra_ld (k := 34) (S' := (260, [(0, .ref m0), (1, .int x1), (2, .int x2), (3, .int x3)], [.int v55, .int u54], M11)) rfl hR13 rfl (vin_lt hj_52.1 (by omega)) (hv56) rfl ?_
                          refine ml_blk 2 (S' := (263, [(0, .ref m0), (1, .int x1), (2, .int x2), (3, .int x3)], [.int (v55 &&& 8), .int u54], M11)) rfl ?_
                          refine ml_if (S1 := (270, [(0, .ref m0), (1, .int x1), (2, .int x2), (3, .int x3)], [.int u54], M11)) (S2 := (266, [(0, .ref m0), (1, .int x1), (2, .int x2), (3, .int x3)], [.int u54], M11)) rfl rfl rfl (fun c_263 => ?_) (fun c_263 => ?_)
                          · have c_263 : ¬ (v55 &&& 8) = 0 := of_decide_eq_true c_263
                            refine ml_st (S' := (271, [], [.int 0, .int u54], M11)) rfl rfl rfl ?_
                            refine ml_st (S' := (272, [], [.int (u54 + 0)], M11)) rfl rfl rfl ?_
                            refine ml_st (S' := (281, [], [.int (u54 + 0)], M11)) rfl rfl rfl ?_
                            exact ml_ret rfl (rfl) (⟨_, _, _, rfl, hR13, (eqI.rf.put f15 (by decide)), eqR.rf⟩)
                          · have c_263 : ¬ (¬ (v55 &&& 8) = 0) := of_decide_eq_false c_263
                            refine ml_st (S' := (267, [(0, .ref m0), (1, .int x1), (2, .int x2), (3, .int x3)], [.int 1, .int u54], M11)) rfl rfl rfl ?_
                            refine ml_st (S' := (271, [], [.int 1, .int u54], M11)) rfl rfl rfl ?_
                            refine ml_st (S' := (272, [], [.int (u54 + 1)], M11)) rfl rfl rfl ?_
                            refine ml_st (S' := (281, [], [.int (u54 + 1)], M11)) rfl rfl rfl ?_
                            exact ml_ret rfl (rfl) (⟨_, _, _, rfl, hR13, (eqI.rf.put f15 (by decide)), eqR.rf⟩)
                      · have c_226 : ¬ (¬ x3 = 7) := of_decide_eq_false c_226
                        refine ml_st (S' := (230, [(0, .ref m0), (1, .int x1), (2, .int x2), (3, .int x3)], [.ref m0], M11)) rfl rfl rfl ?_
                        refine rg_ref (S' := (233, [(0, .ref m0), (1, .int x1), (2, .int x2), (3, .int x3)], [.ref (q 42)], M11)) rfl hR13 rfl rfl ?_
                        refine ml_st (S' := (234, [(0, .ref m0), (1, .int x1), (2, .int x2), (3, .int x3)], [.int x2, .ref (q 42)], M11)) rfl rfl rfl ?_
                        have hx234 := hj_52.2.2 c_189
                        obtain ⟨v57, hv58⟩ := (hmk x2.toNatClampNeg (by show x2.toInt.toNat < km; omega)).1 42 (by decide)
                        refine ra_ld (k := 42) (S' := (235, [(0, .ref m0), (1, .int x1), (2, .int x2), (3, .int x3)], [.int v57], M11)) rfl hR13 rfl (vin_lt hj_52.1 (by omega)) (hv58) rfl ?_
                        refine ml_st (S' := (281, [], [.int v57], M11)) rfl rfl rfl ?_
                        exact ml_ret rfl (rfl) (⟨_, _, _, rfl, hR13, (eqI.rf.put f15 (by decide)), eqR.rf⟩)
                    · have c_211 : ¬ (¬ x3 = 6) := of_decide_eq_false c_211
                      refine ml_st (S' := (215, [(0, .ref m0), (1, .int x1), (2, .int x2), (3, .int x3)], [.ref m0], M11)) rfl rfl rfl ?_
                      refine rg_ref (S' := (218, [(0, .ref m0), (1, .int x1), (2, .int x2), (3, .int x3)], [.ref (q 40)], M11)) rfl hR13 rfl rfl ?_
                      refine ml_st (S' := (219, [(0, .ref m0), (1, .int x1), (2, .int x2), (3, .int x3)], [.int x2, .ref (q 40)], M11)) rfl rfl rfl ?_
                      have hx219 := hj_52.2.2 c_189
                      obtain ⟨v59, hv60⟩ := (hmk x2.toNatClampNeg (by show x2.toInt.toNat < km; omega)).1 40 (by decide)
                      refine ra_ld (k := 40) (S' := (220, [(0, .ref m0), (1, .int x1), (2, .int x2), (3, .int x3)], [.int v59], M11)) rfl hR13 rfl (vin_lt hj_52.1 (by omega)) (hv60) rfl ?_
                      refine ml_st (S' := (281, [], [.int v59], M11)) rfl rfl rfl ?_
                      exact ml_ret rfl (rfl) (⟨_, _, _, rfl, hR13, (eqI.rf.put f15 (by decide)), eqR.rf⟩)
                  · have c_196 : ¬ (¬ x3 = 5) := of_decide_eq_false c_196
                    refine ml_st (S' := (200, [(0, .ref m0), (1, .int x1), (2, .int x2), (3, .int x3)], [.ref m0], M11)) rfl rfl rfl ?_
                    refine rg_ref (S' := (203, [(0, .ref m0), (1, .int x1), (2, .int x2), (3, .int x3)], [.ref (q 39)], M11)) rfl hR13 rfl rfl ?_
                    refine ml_st (S' := (204, [(0, .ref m0), (1, .int x1), (2, .int x2), (3, .int x3)], [.int x2, .ref (q 39)], M11)) rfl rfl rfl ?_
                    have hx204 := hj_52.2.2 c_189
                    obtain ⟨v61, hv62⟩ := (hmk x2.toNatClampNeg (by show x2.toInt.toNat < km; omega)).1 39 (by decide)
                    refine ra_ld (k := 39) (S' := (205, [(0, .ref m0), (1, .int x1), (2, .int x2), (3, .int x3)], [.int v61], M11)) rfl hR13 rfl (vin_lt hj_52.1 (by omega)) (hv62) rfl ?_
                    refine ml_st (S' := (281, [], [.int v61], M11)) rfl rfl rfl ?_
                    exact ml_ret rfl (rfl) (⟨_, _, _, rfl, hR13, (eqI.rf.put f15 (by decide)), eqR.rf⟩)
                · have c_189 : ¬ (¬ x1 = 0) := of_decide_eq_false c_189
                  refine ml_st (S' := (193, [(0, .ref m0), (1, .int x1), (2, .int x2), (3, .int x3)], [.int 0], M11)) rfl rfl rfl ?_
                  exact ml_ret rfl (rfl) (⟨_, _, _, rfl, hR13, (eqI.rf.put f15 (by decide)), eqR.rf⟩)
            · have c_47 : ¬ (x2 < s47_0) := of_decide_eq_false c_47
              refine ml_st (S' := (51, [], [.int (-1)], M11)) rfl rfl rfl ?_
              exact ml_ret rfl (rfl) (⟨_, _, _, rfl, hR13, (eqI.rf.put f15 (by decide)), eqR.rf⟩)
          refine ml_if (S1 := (43, [(0, .ref m0), (1, .int x1), (2, .int x2), (3, .int x3)], [.int x2], M11)) (S2 := (36, [(0, .ref m0), (1, .int x1), (2, .int x2), (3, .int x3)], [.int x2], M11)) rfl rfl rfl (fun c_33 => ?_) (fun c_33 => ?_)
          · have c_33 : x1 = 0 := of_decide_eq_true c_33
            refine ml_st (S' := (44, [(0, .ref m0), (1, .int x1), (2, .int x2), (3, .int x3)], [.ref m0, .int x2], M11)) rfl rfl rfl ?_
            refine rg_int (S' := (47, [(0, .ref m0), (1, .int x1), (2, .int x2), (3, .int x3)], [.int (nI kf), .int x2], M11)) rfl hR13 rfl ((f15 25 (by decide)).trans (kq25)) rfl ?_
            exact J_47 (nI kf) (⟨fun e => by first | exact absurd e c_33 | rfl, fun e => by first | exact absurd c_33 e | rfl⟩)
          · have c_33 : ¬ (x1 = 0) := of_decide_eq_false c_33
            refine ml_st (S' := (37, [(0, .ref m0), (1, .int x1), (2, .int x2), (3, .int x3)], [.ref m0, .int x2], M11)) rfl rfl rfl ?_
            refine rg_int (S' := (40, [(0, .ref m0), (1, .int x1), (2, .int x2), (3, .int x3)], [.int (nI km), .int x2], M11)) rfl hR13 rfl ((f15 26 (by decide)).trans (kq26)) rfl ?_
            refine ml_st (S' := (47, [(0, .ref m0), (1, .int x1), (2, .int x2), (3, .int x3)], [.int (nI km), .int x2], M11)) rfl rfl rfl ?_
            exact J_47 (nI km) (⟨fun e => by first | exact absurd e c_33 | rfl, fun e => by first | exact absurd c_33 e | rfl⟩)
    · have c_12 : ¬ (x3 ≤ 9) := of_decide_eq_false c_12
      refine ml_st (S' := (16, [(0, .ref m0)], [.ref m0], M11)) rfl rfl rfl ?_
      refine ml_call (a := [.ref m0]) (rest := []) rfl (hR13.okc rfl rfl rfl) rfl rfl (rm_bad hR13 (by omega)) (fun v63 M64 h65 => ?_)
      obtain ⟨u71, I66, R67, rfl, hR68, hI69, hV70, w72⟩ := h65
      show ml _ _ _ (19, [(0, .ref m0)], [.int u71], M64) _
      exact ml_ret rfl (rfl) (⟨_, _, _, rfl, hR68, ((eqI.rf.put f15 (by decide)).tr hI69 (by decide)), (eqR.rf.tr hV70 (by decide))⟩)
end
section
set_option maxHeartbeats 2000000 in
theorem rm_find {g : xe_G}  {m0 : Nat} {q : Nat → Nat} {z : Nat × Nat} {I : rI} {R : rR} {M : mi_H} {x1 x2 x3 kn : Int32} {n : Nat} {f : Nat → Int32}  (hR : RS g m0 q z I R M) (hk18 : I 18 = some kn) (hG : (kn < 0 ∨ GD n f I R)) {d : Nat} (hd : 3 ≤ d) : mt (mT g) d 207 [.ref m0, .int x1, .int x2, .int x3] M (fun v M' => ∃ (x : Int32) (I' : rI) (R' : rR), v = some (.int x) ∧ RS g m0 q z I' R' M' ∧ eqI [0] I I' ∧ eqR [] R R') := by
  obtain ⟨d, rfl⟩ : ∃ e, d = e + 1 := ⟨d - 1, by omega⟩
  refine mt_in (b := mb_207 g) rfl rfl ?_
  show ml (mT g) d (mb_207 g).2 (0, [(0, .ref m0), (1, .int x1), (2, .int x2), (3, .int x3)], [], M) _
  refine ml_blk 2 (S' := (2, [(0, .ref m0), (1, .int x1), (2, .int x2), (3, .int x3)], [.int 0, .ref m0], M)) rfl ?_
  refine rp_int rfl hR rfl (fun M11 I12 hR13 e14 f15 => ?_)
  show ml _ _ _ (5, [(0, .ref m0), (1, .int x1), (2, .int x2), (3, .int x3)], [], M11) _
  refine ml_st (S' := (6, [(0, .ref m0), (1, .int x1), (2, .int x2), (3, .int x3)], [.ref m0], M11)) rfl rfl rfl ?_
  refine rg_int (S' := (9, [(0, .ref m0), (1, .int x1), (2, .int x2), (3, .int x3)], [.int kn], M11)) rfl hR13 rfl ((f15 18 (by decide)).trans (hk18)) rfl ?_
  refine ml_if (S1 := (30, [], [], M11)) (S2 := (12, [(0, .ref m0), (1, .int x1), (2, .int x2), (3, .int x3)], [], M11)) rfl rfl rfl (fun c_9 => ?_) (fun c_9 => ?_)
  · have c_9 : kn < 0 := of_decide_eq_true c_9
    refine ml_st (S' := (31, [], [.int (-1)], M11)) rfl rfl rfl ?_
    exact ml_ret rfl (rfl) (⟨_, _, _, rfl, hR13, (eqI.rf.put f15 (by decide)), eqR.rf⟩)
  · have c_9 : ¬ (kn < 0) := of_decide_eq_false c_9
    obtain ⟨S, cN, sa, sl, ch, cp, mj, pa, py, hA, fA, mA, aA, nf, ni, kf, km, hF0, hY0, hP0, hE0, hFO, kq54, kq58, kq61, hkf, kq25, hfk, hkm, kq26, hmk, hNW⟩ := hG.resolve_left (c_9)
    have hn := hF0.1
    refine ml_blk 2 (S' := (14, [(0, .ref m0), (1, .int x1), (2, .int x2), (3, .int x3)], [.int x2, .ref m0], M11)) rfl ?_
    have hF16 : FK n f I12 R := (hF0.mono (pIx f15 (by decide)) (fun _ _ => rfl))
    have hP17 : PK n f S cp mj pa py I12 R := (hP0.mono (pIx f15 (by decide)) (fun _ _ => rfl))
    refine ml_call (a := [.ref m0, .int x2]) (rest := []) rfl (hR13.okc rfl rfl rfl) rfl rfl (rm_tag hR13 hF16 hP17 (by omega)) (fun v18 M19 h20 => ?_)
    obtain ⟨rfl, h20⟩ := h20
    rw [h20]
    show ml _ _ _ (17, [(0, .ref m0), (1, .int x1), (2, .int x2), (3, .int x3)], [.int (tgf f cp pa x2)], M11) _
    refine ml_st (S' := (18, [(0, .ref m0), (1, .int x1), (2, .int x2), (3, .int x3)], [.int 1, .int (tgf f cp pa x2)], M11)) rfl rfl rfl ?_
    refine ml_if2 (S1 := (30, [], [], M11)) (S2 := (21, [(0, .ref m0), (1, .int x1), (2, .int x2), (3, .int x3)], [], M11)) rfl rfl rfl (fun c_18 => ?_) (fun c_18 => ?_)
    · have c_18 : ¬ (tgf f cp pa x2) = 1 := of_decide_eq_true c_18
      refine ml_st (S' := (31, [], [.int (-1)], M11)) rfl rfl rfl ?_
      exact ml_ret rfl (rfl) (⟨_, _, _, rfl, hR13, (eqI.rf.put f15 (by decide)), eqR.rf⟩)
    · have c_18 : ¬ (¬ (tgf f cp pa x2) = 1) := of_decide_eq_false c_18
      refine ml_blk 2 (S' := (23, [(0, .ref m0), (1, .int x1), (2, .int x2), (3, .int x3)], [.int x3, .ref m0], M11)) rfl ?_
      refine ml_call (a := [.ref m0, .int x3]) (rest := []) rfl (hR13.okc rfl rfl rfl) rfl rfl (rm_tag hR13 hF16 hP17 (by omega)) (fun v21 M22 h23 => ?_)
      obtain ⟨rfl, h23⟩ := h23
      rw [h23]
      show ml _ _ _ (26, [(0, .ref m0), (1, .int x1), (2, .int x2), (3, .int x3)], [.int (tgf f cp pa x3)], M11) _
      refine ml_st (S' := (27, [(0, .ref m0), (1, .int x1), (2, .int x2), (3, .int x3)], [.int 1, .int (tgf f cp pa x3)], M11)) rfl rfl rfl ?_
      refine ml_if2 (S1 := (32, [(0, .ref m0), (1, .int x1), (2, .int x2), (3, .int x3)], [], M11)) (S2 := (30, [], [], M11)) rfl rfl rfl (fun c_27 => ?_) (fun c_27 => ?_)
      · have c_27 : (tgf f cp pa x3) = 1 := of_decide_eq_true c_27
        refine ml_blk 2 (S' := (34, [(0, .ref m0), (1, .int x1), (2, .int x2), (3, .int x3)], [.int x2, .ref m0], M11)) rfl ?_
        refine ml_call (a := [.ref m0, .int x2]) (rest := []) rfl (hR13.okc rfl rfl rfl) rfl rfl (rm_symOf hR13 hP17 (Decidable.not_not.mp c_18) (by omega)) (fun v24 M25 h26 => ?_)
        obtain ⟨rfl, h26⟩ := h26
        rw [h26]
        show ml _ _ _ (37, [(0, .ref m0), (1, .int x1), (2, .int x2), (3, .int x3)], [.int (pyf py x2)], M11) _
        refine ml_st (S' := (39, [(4, .int (pyf py x2)), (0, .ref m0), (1, .int x1), (2, .int x2), (3, .int x3)], [], M11)) rfl rfl rfl ?_
        refine ml_blk 2 (S' := (41, [(4, .int (pyf py x2)), (0, .ref m0), (1, .int x1), (2, .int x2), (3, .int x3)], [.int x3, .ref m0], M11)) rfl ?_
        refine ml_call (a := [.ref m0, .int x3]) (rest := []) rfl (hR13.okc rfl rfl rfl) rfl rfl (rm_symOf hR13 hP17 (c_27) (by omega)) (fun v27 M28 h29 => ?_)
        obtain ⟨rfl, h29⟩ := h29
        rw [h29]
        show ml _ _ _ (44, [(4, .int (pyf py x2)), (0, .ref m0), (1, .int x1), (2, .int x2), (3, .int x3)], [.int (pyf py x3)], M11) _
        refine ml_st (S' := (46, [(5, .int (pyf py x3)), (4, .int (pyf py x2)), (0, .ref m0), (1, .int x1), (2, .int x2), (3, .int x3)], [], M11)) rfl rfl rfl ?_
        refine ml_st (S' := (47, [(5, .int (pyf py x3)), (4, .int (pyf py x2)), (0, .ref m0), (1, .int x1), (2, .int x2), (3, .int x3)], [.int 0], M11)) rfl rfl rfl ?_
        refine ml_st (S' := (49, [(0, .ref m0), (1, .int x1), (4, .int (pyf py x2)), (5, .int (pyf py x3)), (6, .int 0)], [], M11)) rfl rfl rfl ?_
        have L_49 : ∀ (n_49 : Nat) (i49_6 : Int32), (2147483648 - i49_6.toInt).toNat ≤ n_49 → 0 ≤ i49_6.toInt → ml (mT g) d (mb_207 g).2 (49, [(0, .ref m0), (1, .int x1), (4, .int (pyf py x2)), (5, .int (pyf py x3)), (6, .int i49_6)], [], M11) (fun v M' => ∃ (x : Int32) (I' : rI) (R' : rR), v = some (.int x) ∧ RS g m0 q z I' R' M' ∧ eqI [0] I I' ∧ eqR [] R R') := by
          intro n_49
          induction n_49 with
          | zero => intro i49_6 hn; exact (loop_zero hn).elim
          | succ n_49 ih_49 =>
            intro i49_6 hn_49 hi_49
            refine ml_blk 2 (S' := (52, [(0, .ref m0), (1, .int x1), (4, .int (pyf py x2)), (5, .int (pyf py x3)), (6, .int i49_6)], [.int x1, .int i49_6], M11)) rfl ?_
            have J_66 : ∀ (s66_0 : Int32), ((x1 = 0 → s66_0 = nI kf) ∧ (¬ x1 = 0 → s66_0 = nI km)) → ml (mT g) d (mb_207 g).2 (66, [(0, .ref m0), (1, .int x1), (4, .int (pyf py x2)), (5, .int (pyf py x3)), (6, .int i49_6)], [.int s66_0, .int i49_6], M11) (fun v M' => ∃ (x : Int32) (I' : rI) (R' : rR), v = some (.int x) ∧ RS g m0 q z I' R' M' ∧ eqI [0] I I' ∧ eqR [] R R') := by
              intro s66_0 hj_66
              refine ml_if2 (S1 := (130, [(0, .ref m0), (1, .int x1), (4, .int (pyf py x2)), (5, .int (pyf py x3)), (6, .int i49_6)], [], M11)) (S2 := (69, [(0, .ref m0), (1, .int x1), (4, .int (pyf py x2)), (5, .int (pyf py x3)), (6, .int i49_6)], [], M11)) rfl rfl rfl (fun c_66 => ?_) (fun c_66 => ?_)
              · have c_66 : s66_0 ≤ i49_6 := of_decide_eq_true c_66
                refine ml_st (S' := (131, [(0, .ref m0), (1, .int x1), (4, .int (pyf py x2)), (5, .int (pyf py x3)), (6, .int i49_6)], [.int (-1)], M11)) rfl rfl rfl ?_
                exact ml_ret rfl (rfl) (⟨_, _, _, rfl, hR13, (eqI.rf.put f15 (by decide)), eqR.rf⟩)
              · have c_66 : ¬ (s66_0 ≤ i49_6) := of_decide_eq_false c_66
                have hj_69 : ((x1 = 0 → i49_6.toInt < kf) ∧ (¬ x1 = 0 → i49_6.toInt < km) ∧ i49_6 < 8192) := by rcases Decidable.em (x1 = 0) with e | e; (have q := hj_66.1 e ▸ Int32.not_le.mp c_66; exact ⟨fun _ => i_ltn q hkf, fun e2 => absurd e e2, i_lt8 q hkf⟩); (have q := hj_66.2 e ▸ Int32.not_le.mp c_66; exact ⟨fun e2 => absurd e2 e, fun _ => i_ltn q hkm, i_lt8 q hkm⟩)
                refine ml_st (S' := (70, [(0, .ref m0), (1, .int x1), (4, .int (pyf py x2)), (5, .int (pyf py x3)), (6, .int i49_6)], [.int x1], M11)) rfl rfl rfl ?_
                refine ml_if (S1 := (83, [(0, .ref m0), (1, .int x1), (4, .int (pyf py x2)), (5, .int (pyf py x3)), (6, .int i49_6)], [], M11)) (S2 := (73, [(0, .ref m0), (1, .int x1), (4, .int (pyf py x2)), (5, .int (pyf py x3)), (6, .int i49_6)], [], M11)) rfl rfl rfl (fun c_70 => ?_) (fun c_70 => ?_)
                · have c_70 : x1 = 0 := of_decide_eq_true c_70
                  refine ml_st (S' := (84, [(0, .ref m0), (1, .int x1), (4, .int (pyf py x2)), (5, .int (pyf py x3)), (6, .int i49_6)], [.ref m0], M11)) rfl rfl rfl ?_
                  refine rg_ref (S' := (87, [(0, .ref m0), (1, .int x1), (4, .int (pyf py x2)), (5, .int (pyf py x3)), (6, .int i49_6)], [.ref (q 28)], M11)) rfl hR13 rfl rfl ?_
                  refine ml_st (S' := (89, [(0, .ref m0), (1, .int x1), (4, .int (pyf py x2)), (5, .int (pyf py x3)), (6, .int i49_6)], [.int i49_6, .ref (q 28)], M11)) rfl rfl rfl ?_
                  have hx89 := hj_69.1 c_70
                  obtain ⟨v30, hv31⟩ := hfk i49_6.toNatClampNeg (by show i49_6.toInt.toNat < kf; omega) 28 (by decide)
                  refine ra_ld (k := 28) (S' := (90, [(0, .ref m0), (1, .int x1), (4, .int (pyf py x2)), (5, .int (pyf py x3)), (6, .int i49_6)], [.int v30], M11)) rfl hR13 rfl (vin_lt hi_49 (by omega)) (hv31) rfl ?_
                  refine ml_st (S' := (92, [(0, .ref m0), (1, .int x1), (4, .int (pyf py x2)), (5, .int (pyf py x3)), (6, .int i49_6)], [.int (pyf py x2), .int v30], M11)) rfl rfl rfl ?_
                  refine ml_if2 (S1 := (124, [(0, .ref m0), (1, .int x1), (4, .int (pyf py x2)), (5, .int (pyf py x3)), (6, .int i49_6)], [], M11)) (S2 := (95, [(0, .ref m0), (1, .int x1), (4, .int (pyf py x2)), (5, .int (pyf py x3)), (6, .int i49_6)], [], M11)) rfl rfl rfl (fun c_92 => ?_) (fun c_92 => ?_)
                  · have c_92 : ¬ v30 = (pyf py x2) := of_decide_eq_true c_92
                    refine ml_st (S' := (127, [(6, .int (i49_6 + 1)), (0, .ref m0), (1, .int x1), (4, .int (pyf py x2)), (5, .int (pyf py x3))], [], M11)) rfl rfl rfl ?_
                    refine ml_st (S' := (49, [(0, .ref m0), (1, .int x1), (4, .int (pyf py x2)), (5, .int (pyf py x3)), (6, .int (i49_6 + 1))], [], M11)) rfl rfl rfl ?_
                    exact ih_49 (i49_6 + 1) (loop_inc hj_69.2.2 hn_49) (by rw [inc_lt hj_69.2.2]; omega)
                  · have c_92 : ¬ (¬ v30 = (pyf py x2)) := of_decide_eq_false c_92
                    refine ml_st (S' := (96, [(0, .ref m0), (1, .int x1), (4, .int (pyf py x2)), (5, .int (pyf py x3)), (6, .int i49_6)], [.int x1], M11)) rfl rfl rfl ?_
                    refine ml_if (S1 := (109, [(0, .ref m0), (1, .int x1), (4, .int (pyf py x2)), (5, .int (pyf py x3)), (6, .int i49_6)], [], M11)) (S2 := (99, [(0, .ref m0), (1, .int x1), (4, .int (pyf py x2)), (5, .int (pyf py x3)), (6, .int i49_6)], [], M11)) rfl rfl rfl (fun c_96 => ?_) (fun c_96 => ?_)
                    · have c_96 : x1 = 0 := of_decide_eq_true c_96
                      refine ml_st (S' := (110, [(0, .ref m0), (1, .int x1), (4, .int (pyf py x2)), (5, .int (pyf py x3)), (6, .int i49_6)], [.ref m0], M11)) rfl rfl rfl ?_
                      refine rg_ref (S' := (113, [(0, .ref m0), (1, .int x1), (4, .int (pyf py x2)), (5, .int (pyf py x3)), (6, .int i49_6)], [.ref (q 29)], M11)) rfl hR13 rfl rfl ?_
                      refine ml_st (S' := (115, [(0, .ref m0), (1, .int x1), (4, .int (pyf py x2)), (5, .int (pyf py x3)), (6, .int i49_6)], [.int i49_6, .ref (q 29)], M11)) rfl rfl rfl ?_
                      have hx115 := hj_69.1 c_96
                      obtain ⟨v32, hv33⟩ := hfk i49_6.toNatClampNeg (by show i49_6.toInt.toNat < kf; omega) 29 (by decide)
                      refine ra_ld (k := 29) (S' := (116, [(0, .ref m0), (1, .int x1), (4, .int (pyf py x2)), (5, .int (pyf py x3)), (6, .int i49_6)], [.int v32], M11)) rfl hR13 rfl (vin_lt hi_49 (by omega)) (hv33) rfl ?_
                      refine ml_st (S' := (118, [(0, .ref m0), (1, .int x1), (4, .int (pyf py x2)), (5, .int (pyf py x3)), (6, .int i49_6)], [.int (pyf py x3), .int v32], M11)) rfl rfl rfl ?_
                      refine ml_if2 (S1 := (124, [(0, .ref m0), (1, .int x1), (4, .int (pyf py x2)), (5, .int (pyf py x3)), (6, .int i49_6)], [], M11)) (S2 := (121, [(0, .ref m0), (1, .int x1), (4, .int (pyf py x2)), (5, .int (pyf py x3)), (6, .int i49_6)], [], M11)) rfl rfl rfl (fun c_118 => ?_) (fun c_118 => ?_)
                      · have c_118 : ¬ v32 = (pyf py x3) := of_decide_eq_true c_118
                        refine ml_st (S' := (127, [(6, .int (i49_6 + 1)), (0, .ref m0), (1, .int x1), (4, .int (pyf py x2)), (5, .int (pyf py x3))], [], M11)) rfl rfl rfl ?_
                        refine ml_st (S' := (49, [(0, .ref m0), (1, .int x1), (4, .int (pyf py x2)), (5, .int (pyf py x3)), (6, .int (i49_6 + 1))], [], M11)) rfl rfl rfl ?_
                        exact ih_49 (i49_6 + 1) (loop_inc hj_69.2.2 hn_49) (by rw [inc_lt hj_69.2.2]; omega)
                      · have c_118 : ¬ (¬ v32 = (pyf py x3)) := of_decide_eq_false c_118
                        refine ml_st (S' := (123, [(0, .ref m0), (1, .int x1), (4, .int (pyf py x2)), (5, .int (pyf py x3)), (6, .int i49_6)], [.int i49_6], M11)) rfl rfl rfl ?_
                        exact ml_ret rfl (rfl) (⟨_, _, _, rfl, hR13, (eqI.rf.put f15 (by decide)), eqR.rf⟩)
                    · have c_96 : ¬ (x1 = 0) := of_decide_eq_false c_96
                      refine ml_st (S' := (100, [(0, .ref m0), (1, .int x1), (4, .int (pyf py x2)), (5, .int (pyf py x3)), (6, .int i49_6)], [.ref m0], M11)) rfl rfl rfl ?_
                      refine rg_ref (S' := (103, [(0, .ref m0), (1, .int x1), (4, .int (pyf py x2)), (5, .int (pyf py x3)), (6, .int i49_6)], [.ref (q 36)], M11)) rfl hR13 rfl rfl ?_
                      refine ml_st (S' := (105, [(0, .ref m0), (1, .int x1), (4, .int (pyf py x2)), (5, .int (pyf py x3)), (6, .int i49_6)], [.int i49_6, .ref (q 36)], M11)) rfl rfl rfl ?_
                      have hx105 := hj_69.2.1 c_96
                      obtain ⟨v34, hv35, -⟩ := (hmk i49_6.toNatClampNeg (by show i49_6.toInt.toNat < km; omega)).2.2
                      refine ra_ld (k := 36) (S' := (106, [(0, .ref m0), (1, .int x1), (4, .int (pyf py x2)), (5, .int (pyf py x3)), (6, .int i49_6)], [.int v34], M11)) rfl hR13 rfl (vin_lt hi_49 (by omega)) (hv35) rfl ?_
                      refine ml_st (S' := (116, [(0, .ref m0), (1, .int x1), (4, .int (pyf py x2)), (5, .int (pyf py x3)), (6, .int i49_6)], [.int v34], M11)) rfl rfl rfl ?_
                      refine ml_st (S' := (118, [(0, .ref m0), (1, .int x1), (4, .int (pyf py x2)), (5, .int (pyf py x3)), (6, .int i49_6)], [.int (pyf py x3), .int v34], M11)) rfl rfl rfl ?_
                      refine ml_if2 (S1 := (124, [(0, .ref m0), (1, .int x1), (4, .int (pyf py x2)), (5, .int (pyf py x3)), (6, .int i49_6)], [], M11)) (S2 := (121, [(0, .ref m0), (1, .int x1), (4, .int (pyf py x2)), (5, .int (pyf py x3)), (6, .int i49_6)], [], M11)) rfl rfl rfl (fun c_118 => ?_) (fun c_118 => ?_)
                      · have c_118 : ¬ v34 = (pyf py x3) := of_decide_eq_true c_118
                        refine ml_st (S' := (127, [(6, .int (i49_6 + 1)), (0, .ref m0), (1, .int x1), (4, .int (pyf py x2)), (5, .int (pyf py x3))], [], M11)) rfl rfl rfl ?_
                        refine ml_st (S' := (49, [(0, .ref m0), (1, .int x1), (4, .int (pyf py x2)), (5, .int (pyf py x3)), (6, .int (i49_6 + 1))], [], M11)) rfl rfl rfl ?_
                        exact ih_49 (i49_6 + 1) (loop_inc hj_69.2.2 hn_49) (by rw [inc_lt hj_69.2.2]; omega)
                      · have c_118 : ¬ (¬ v34 = (pyf py x3)) := of_decide_eq_false c_118
                        refine ml_st (S' := (123, [(0, .ref m0), (1, .int x1), (4, .int (pyf py x2)), (5, .int (pyf py x3)), (6, .int i49_6)], [.int i49_6], M11)) rfl rfl rfl ?_
                        exact ml_ret rfl (rfl) (⟨_, _, _, rfl, hR13, (eqI.rf.put f15 (by decide)), eqR.rf⟩)
                · have c_70 : ¬ (x1 = 0) := of_decide_eq_false c_70
                  refine ml_st (S' := (74, [(0, .ref m0), (1, .int x1), (4, .int (pyf py x2)), (5, .int (pyf py x3)), (6, .int i49_6)], [.ref m0], M11)) rfl rfl rfl ?_
                  refine rg_ref (S' := (77, [(0, .ref m0), (1, .int x1), (4, .int (pyf py x2)), (5, .int (pyf py x3)), (6, .int i49_6)], [.ref (q 35)], M11)) rfl hR13 rfl rfl ?_
                  refine ml_st (S' := (79, [(0, .ref m0), (1, .int x1), (4, .int (pyf py x2)), (5, .int (pyf py x3)), (6, .int i49_6)], [.int i49_6, .ref (q 35)], M11)) rfl rfl rfl ?_
                  have hx79 := hj_69.2.1 c_70
                  obtain ⟨v36, hv37⟩ := (hmk i49_6.toNatClampNeg (by show i49_6.toInt.toNat < km; omega)).1 35 (by decide)
                  refine ra_ld (k := 35) (S' := (80, [(0, .ref m0), (1, .int x1), (4, .int (pyf py x2)), (5, .int (pyf py x3)), (6, .int i49_6)], [.int v36], M11)) rfl hR13 rfl (vin_lt hi_49 (by omega)) (hv37) rfl ?_
                  refine ml_st (S' := (90, [(0, .ref m0), (1, .int x1), (4, .int (pyf py x2)), (5, .int (pyf py x3)), (6, .int i49_6)], [.int v36], M11)) rfl rfl rfl ?_
                  refine ml_st (S' := (92, [(0, .ref m0), (1, .int x1), (4, .int (pyf py x2)), (5, .int (pyf py x3)), (6, .int i49_6)], [.int (pyf py x2), .int v36], M11)) rfl rfl rfl ?_
                  refine ml_if2 (S1 := (124, [(0, .ref m0), (1, .int x1), (4, .int (pyf py x2)), (5, .int (pyf py x3)), (6, .int i49_6)], [], M11)) (S2 := (95, [(0, .ref m0), (1, .int x1), (4, .int (pyf py x2)), (5, .int (pyf py x3)), (6, .int i49_6)], [], M11)) rfl rfl rfl (fun c_92 => ?_) (fun c_92 => ?_)
                  · have c_92 : ¬ v36 = (pyf py x2) := of_decide_eq_true c_92
                    refine ml_st (S' := (127, [(6, .int (i49_6 + 1)), (0, .ref m0), (1, .int x1), (4, .int (pyf py x2)), (5, .int (pyf py x3))], [], M11)) rfl rfl rfl ?_
                    refine ml_st (S' := (49, [(0, .ref m0), (1, .int x1), (4, .int (pyf py x2)), (5, .int (pyf py x3)), (6, .int (i49_6 + 1))], [], M11)) rfl rfl rfl ?_
                    exact ih_49 (i49_6 + 1) (loop_inc hj_69.2.2 hn_49) (by rw [inc_lt hj_69.2.2]; omega)
                  · have c_92 : ¬ (¬ v36 = (pyf py x2)) := of_decide_eq_false c_92
                    refine ml_st (S' := (96, [(0, .ref m0), (1, .int x1), (4, .int (pyf py x2)), (5, .int (pyf py x3)), (6, .int i49_6)], [.int x1], M11)) rfl rfl rfl ?_
                    refine ml_if (S1 := (109, [(0, .ref m0), (1, .int x1), (4, .int (pyf py x2)), (5, .int (pyf py x3)), (6, .int i49_6)], [], M11)) (S2 := (99, [(0, .ref m0), (1, .int x1), (4, .int (pyf py x2)), (5, .int (pyf py x3)), (6, .int i49_6)], [], M11)) rfl rfl rfl (fun c_96 => ?_) (fun c_96 => ?_)
                    · have c_96 : x1 = 0 := of_decide_eq_true c_96
                      refine ml_st (S' := (110, [(0, .ref m0), (1, .int x1), (4, .int (pyf py x2)), (5, .int (pyf py x3)), (6, .int i49_6)], [.ref m0], M11)) rfl rfl rfl ?_
                      refine rg_ref (S' := (113, [(0, .ref m0), (1, .int x1), (4, .int (pyf py x2)), (5, .int (pyf py x3)), (6, .int i49_6)], [.ref (q 29)], M11)) rfl hR13 rfl rfl ?_
                      refine ml_st (S' := (115, [(0, .ref m0), (1, .int x1), (4, .int (pyf py x2)), (5, .int (pyf py x3)), (6, .int i49_6)], [.int i49_6, .ref (q 29)], M11)) rfl rfl rfl ?_
                      have hx115 := hj_69.1 c_96
                      obtain ⟨v38, hv39⟩ := hfk i49_6.toNatClampNeg (by show i49_6.toInt.toNat < kf; omega) 29 (by decide)
                      refine ra_ld (k := 29) (S' := (116, [(0, .ref m0), (1, .int x1), (4, .int (pyf py x2)), (5, .int (pyf py x3)), (6, .int i49_6)], [.int v38], M11)) rfl hR13 rfl (vin_lt hi_49 (by omega)) (hv39) rfl ?_
                      refine ml_st (S' := (118, [(0, .ref m0), (1, .int x1), (4, .int (pyf py x2)), (5, .int (pyf py x3)), (6, .int i49_6)], [.int (pyf py x3), .int v38], M11)) rfl rfl rfl ?_
                      refine ml_if2 (S1 := (124, [(0, .ref m0), (1, .int x1), (4, .int (pyf py x2)), (5, .int (pyf py x3)), (6, .int i49_6)], [], M11)) (S2 := (121, [(0, .ref m0), (1, .int x1), (4, .int (pyf py x2)), (5, .int (pyf py x3)), (6, .int i49_6)], [], M11)) rfl rfl rfl (fun c_118 => ?_) (fun c_118 => ?_)
                      · have c_118 : ¬ v38 = (pyf py x3) := of_decide_eq_true c_118
                        refine ml_st (S' := (127, [(6, .int (i49_6 + 1)), (0, .ref m0), (1, .int x1), (4, .int (pyf py x2)), (5, .int (pyf py x3))], [], M11)) rfl rfl rfl ?_
                        refine ml_st (S' := (49, [(0, .ref m0), (1, .int x1), (4, .int (pyf py x2)), (5, .int (pyf py x3)), (6, .int (i49_6 + 1))], [], M11)) rfl rfl rfl ?_
                        exact ih_49 (i49_6 + 1) (loop_inc hj_69.2.2 hn_49) (by rw [inc_lt hj_69.2.2]; omega)
                      · have c_118 : ¬ (¬ v38 = (pyf py x3)) := of_decide_eq_false c_118
                        refine ml_st (S' := (123, [(0, .ref m0), (1, .int x1), (4, .int (pyf py x2)), (5, .int (pyf py x3)), (6, .int i49_6)], [.int i49_6], M11)) rfl rfl rfl ?_
                        exact ml_ret rfl (rfl) (⟨_, _, _, rfl, hR13, (eqI.rf.put f15 (by decide)), eqR.rf⟩)
                    · have c_96 : ¬ (x1 = 0) := of_decide_eq_false c_96
                      refine ml_st (S' := (100, [(0, .ref m0), (1, .int x1), (4, .int (pyf py x2)), (5, .int (pyf py x3)), (6, .int i49_6)], [.ref m0], M11)) rfl rfl rfl ?_
                      refine rg_ref (S' := (103, [(0, .ref m0), (1, .int x1), (4, .int (pyf py x2)), (5, .int (pyf py x3)), (6, .int i49_6)], [.ref (q 36)], M11)) rfl hR13 rfl rfl ?_
                      refine ml_st (S' := (105, [(0, .ref m0), (1, .int x1), (4, .int (pyf py x2)), (5, .int (pyf py x3)), (6, .int i49_6)], [.int i49_6, .ref (q 36)], M11)) rfl rfl rfl ?_
                      have hx105 := hj_69.2.1 c_96
                      obtain ⟨v40, hv41, -⟩ := (hmk i49_6.toNatClampNeg (by show i49_6.toInt.toNat < km; omega)).2.2
                      refine ra_ld (k := 36) (S' := (106, [(0, .ref m0), (1, .int x1), (4, .int (pyf py x2)), (5, .int (pyf py x3)), (6, .int i49_6)], [.int v40], M11)) rfl hR13 rfl (vin_lt hi_49 (by omega)) (hv41) rfl ?_
                      refine ml_st (S' := (116, [(0, .ref m0), (1, .int x1), (4, .int (pyf py x2)), (5, .int (pyf py x3)), (6, .int i49_6)], [.int v40], M11)) rfl rfl rfl ?_
                      refine ml_st (S' := (118, [(0, .ref m0), (1, .int x1), (4, .int (pyf py x2)), (5, .int (pyf py x3)), (6, .int i49_6)], [.int (pyf py x3), .int v40], M11)) rfl rfl rfl ?_
                      refine ml_if2 (S1 := (124, [(0, .ref m0), (1, .int x1), (4, .int (pyf py x2)), (5, .int (pyf py x3)), (6, .int i49_6)], [], M11)) (S2 := (121, [(0, .ref m0), (1, .int x1), (4, .int (pyf py x2)), (5, .int (pyf py x3)), (6, .int i49_6)], [], M11)) rfl rfl rfl (fun c_118 => ?_) (fun c_118 => ?_)
                      · have c_118 : ¬ v40 = (pyf py x3) := of_decide_eq_true c_118
                        refine ml_st (S' := (127, [(6, .int (i49_6 + 1)), (0, .ref m0), (1, .int x1), (4, .int (pyf py x2)), (5, .int (pyf py x3))], [], M11)) rfl rfl rfl ?_
                        refine ml_st (S' := (49, [(0, .ref m0), (1, .int x1), (4, .int (pyf py x2)), (5, .int (pyf py x3)), (6, .int (i49_6 + 1))], [], M11)) rfl rfl rfl ?_
                        exact ih_49 (i49_6 + 1) (loop_inc hj_69.2.2 hn_49) (by rw [inc_lt hj_69.2.2]; omega)
                      · have c_118 : ¬ (¬ v40 = (pyf py x3)) := of_decide_eq_false c_118
                        refine ml_st (S' := (123, [(0, .ref m0), (1, .int x1), (4, .int (pyf py x2)), (5, .int (pyf py x3)), (6, .int i49_6)], [.int i49_6], M11)) rfl rfl rfl ?_
                        exact ml_ret rfl (rfl) (⟨_, _, _, rfl, hR13, (eqI.rf.put f15 (by decide)), eqR.rf⟩)
            refine ml_if (S1 := (62, [(0, .ref m0), (1, .int x1), (4, .int (pyf py x2)), (5, .int (pyf py x3)), (6, .int i49_6)], [.int i49_6], M11)) (S2 := (55, [(0, .ref m0), (1, .int x1), (4, .int (pyf py x2)), (5, .int (pyf py x3)), (6, .int i49_6)], [.int i49_6], M11)) rfl rfl rfl (fun c_52 => ?_) (fun c_52 => ?_)
            · have c_52 : x1 = 0 := of_decide_eq_true c_52
              refine ml_st (S' := (63, [(0, .ref m0), (1, .int x1), (4, .int (pyf py x2)), (5, .int (pyf py x3)), (6, .int i49_6)], [.ref m0, .int i49_6], M11)) rfl rfl rfl ?_
              refine rg_int (S' := (66, [(0, .ref m0), (1, .int x1), (4, .int (pyf py x2)), (5, .int (pyf py x3)), (6, .int i49_6)], [.int (nI kf), .int i49_6], M11)) rfl hR13 rfl ((f15 25 (by decide)).trans (kq25)) rfl ?_
              exact J_66 (nI kf) (⟨fun e => by first | exact absurd e c_52 | rfl, fun e => by first | exact absurd c_52 e | rfl⟩)
            · have c_52 : ¬ (x1 = 0) := of_decide_eq_false c_52
              refine ml_st (S' := (56, [(0, .ref m0), (1, .int x1), (4, .int (pyf py x2)), (5, .int (pyf py x3)), (6, .int i49_6)], [.ref m0, .int i49_6], M11)) rfl rfl rfl ?_
              refine rg_int (S' := (59, [(0, .ref m0), (1, .int x1), (4, .int (pyf py x2)), (5, .int (pyf py x3)), (6, .int i49_6)], [.int (nI km), .int i49_6], M11)) rfl hR13 rfl ((f15 26 (by decide)).trans (kq26)) rfl ?_
              refine ml_st (S' := (66, [(0, .ref m0), (1, .int x1), (4, .int (pyf py x2)), (5, .int (pyf py x3)), (6, .int i49_6)], [.int (nI km), .int i49_6], M11)) rfl rfl rfl ?_
              exact J_66 (nI km) (⟨fun e => by first | exact absurd e c_52 | rfl, fun e => by first | exact absurd c_52 e | rfl⟩)
        exact L_49 _ 0 (Nat.le_refl _) (by decide)
      · have c_27 : ¬ ((tgf f cp pa x3) = 1) := of_decide_eq_false c_27
        refine ml_st (S' := (31, [], [.int (-1)], M11)) rfl rfl rfl ?_
        exact ml_ret rfl (rfl) (⟨_, _, _, rfl, hR13, (eqI.rf.put f15 (by decide)), eqR.rf⟩)
set_option maxHeartbeats 2000000 in
theorem rm_row {g : xe_G}  {m0 : Nat} {q : Nat → Nat} {z : Nat × Nat} {I : rI} {R : rR} {M : mi_H} {x1 x2 x3 kn : Int32} {n : Nat} {f : Nat → Int32}  (hR : RS g m0 q z I R M) (hk18 : I 18 = some kn) (hG : (kn < 0 ∨ GD n f I R)) {d : Nat} (hd : 3 ≤ d) : mt (mT g) d 239 [.ref m0, .int x1, .int x2, .int x3] M (fun v M' => ∃ (x : Int32) (I' : rI) (R' : rR), v = some (.int x) ∧ RS g m0 q z I' R' M' ∧ eqI [0] I I' ∧ eqR [] R R') := by
  obtain ⟨d, rfl⟩ : ∃ e, d = e + 1 := ⟨d - 1, by omega⟩
  refine mt_in (b := mb_239 g) rfl rfl ?_
  show ml (mT g) d (mb_239 g).2 (0, [(0, .ref m0), (1, .int x1), (2, .int x2), (3, .int x3)], [], M) _
  refine ml_blk 2 (S' := (2, [(0, .ref m0), (1, .int x1), (2, .int x2), (3, .int x3)], [.int 0, .ref m0], M)) rfl ?_
  refine rp_int rfl hR rfl (fun M11 I12 hR13 e14 f15 => ?_)
  show ml _ _ _ (5, [(0, .ref m0), (1, .int x1), (2, .int x2), (3, .int x3)], [], M11) _
  refine ml_st (S' := (6, [(0, .ref m0), (1, .int x1), (2, .int x2), (3, .int x3)], [.int x3], M11)) rfl rfl rfl ?_
  refine ml_if (S1 := (14, [(0, .ref m0)], [], M11)) (S2 := (9, [(0, .ref m0), (1, .int x1), (2, .int x2), (3, .int x3)], [], M11)) rfl rfl rfl (fun c_6 => ?_) (fun c_6 => ?_)
  · have c_6 : x3 < 0 := of_decide_eq_true c_6
    refine ml_st (S' := (15, [(0, .ref m0)], [.ref m0], M11)) rfl rfl rfl ?_
    refine ml_call (a := [.ref m0]) (rest := []) rfl (hR13.okc rfl rfl rfl) rfl rfl (rm_bad hR13 (by omega)) (fun v16 M17 h18 => ?_)
    obtain ⟨u24, I19, R20, rfl, hR21, hI22, hV23, w25⟩ := h18
    show ml _ _ _ (18, [(0, .ref m0)], [.int u24], M17) _
    exact ml_ret rfl (rfl) (⟨_, _, _, rfl, hR21, ((eqI.rf.put f15 (by decide)).tr hI22 (by decide)), (eqR.rf.tr hV23 (by decide))⟩)
  · have c_6 : ¬ (x3 < 0) := of_decide_eq_false c_6
    refine ml_blk 2 (S' := (11, [(0, .ref m0), (1, .int x1), (2, .int x2), (3, .int x3)], [.int 3, .int x3], M11)) rfl ?_
    refine ml_if2 (S1 := (19, [(0, .ref m0), (1, .int x1), (2, .int x2), (3, .int x3)], [], M11)) (S2 := (14, [(0, .ref m0)], [], M11)) rfl rfl rfl (fun c_11 => ?_) (fun c_11 => ?_)
    · have c_11 : x3 ≤ 3 := of_decide_eq_true c_11
      refine ml_st (S' := (20, [(0, .ref m0), (1, .int x1), (2, .int x2), (3, .int x3)], [.ref m0], M11)) rfl rfl rfl ?_
      refine rg_int (S' := (23, [(0, .ref m0), (1, .int x1), (2, .int x2), (3, .int x3)], [.int kn], M11)) rfl hR13 rfl ((f15 18 (by decide)).trans (hk18)) rfl ?_
      refine ml_if (S1 := (61, [], [], M11)) (S2 := (26, [(0, .ref m0), (1, .int x1), (2, .int x2), (3, .int x3)], [], M11)) rfl rfl rfl (fun c_23 => ?_) (fun c_23 => ?_)
      · have c_23 : kn < 0 := of_decide_eq_true c_23
        refine ml_st (S' := (62, [], [.int (-1)], M11)) rfl rfl rfl ?_
        exact ml_ret rfl (rfl) (⟨_, _, _, rfl, hR13, (eqI.rf.put f15 (by decide)), eqR.rf⟩)
      · have c_23 : ¬ (kn < 0) := of_decide_eq_false c_23
        obtain ⟨S, cN, sa, sl, ch, cp, mj, pa, py, hA, fA, mA, aA, nf, ni, kf, km, hF0, hY0, hP0, hE0, hFO, kq54, kq58, kq61, hkf, kq25, hfk, hkm, kq26, hmk, hNW⟩ := hG.resolve_left (c_23)
        have hn := hF0.1
        refine ml_st (S' := (27, [(0, .ref m0), (1, .int x1), (2, .int x2), (3, .int x3)], [.int x1], M11)) rfl rfl rfl ?_
        refine ml_if (S1 := (61, [], [], M11)) (S2 := (30, [(0, .ref m0), (1, .int x1), (2, .int x2), (3, .int x3)], [], M11)) rfl rfl rfl (fun c_27 => ?_) (fun c_27 => ?_)
        · have c_27 : x1 < 0 := of_decide_eq_true c_27
          refine ml_st (S' := (62, [], [.int (-1)], M11)) rfl rfl rfl ?_
          exact ml_ret rfl (rfl) (⟨_, _, _, rfl, hR13, (eqI.rf.put f15 (by decide)), eqR.rf⟩)
        · have c_27 : ¬ (x1 < 0) := of_decide_eq_false c_27
          refine ml_blk 2 (S' := (32, [(0, .ref m0), (1, .int x1), (2, .int x2), (3, .int x3)], [.ref m0, .int x1], M11)) rfl ?_
          refine rg_int (S' := (35, [(0, .ref m0), (1, .int x1), (2, .int x2), (3, .int x3)], [.int (nI km), .int x1], M11)) rfl hR13 rfl ((f15 26 (by decide)).trans (kq26)) rfl ?_
          refine ml_if2 (S1 := (61, [], [], M11)) (S2 := (38, [(0, .ref m0), (1, .int x1), (2, .int x2), (3, .int x3)], [], M11)) rfl rfl rfl (fun c_35 => ?_) (fun c_35 => ?_)
          · have c_35 : (nI km) ≤ x1 := of_decide_eq_true c_35
            refine ml_st (S' := (62, [], [.int (-1)], M11)) rfl rfl rfl ?_
            exact ml_ret rfl (rfl) (⟨_, _, _, rfl, hR13, (eqI.rf.put f15 (by decide)), eqR.rf⟩)
          · have c_35 : ¬ ((nI km) ≤ x1) := of_decide_eq_false c_35
            have hx0 : 0 ≤ x1.toInt := i_nlt c_27
            have hx1 : x1.toInt < km := i_ltn (Int32.not_le.mp c_35) hkm
            obtain ⟨-, ⟨mc, hmc, hmd⟩, -⟩ := hmk x1.toNatClampNeg (by show x1.toInt.toNat < km; omega)
            refine ml_st (S' := (39, [(0, .ref m0), (1, .int x1), (2, .int x2), (3, .int x3)], [.ref m0], M11)) rfl rfl rfl ?_
            refine rg_ref (S' := (42, [(0, .ref m0), (1, .int x1), (2, .int x2), (3, .int x3)], [.ref (q 37)], M11)) rfl hR13 rfl rfl ?_
            refine ml_st (S' := (43, [(0, .ref m0), (1, .int x1), (2, .int x2), (3, .int x3)], [.int x1, .ref (q 37)], M11)) rfl rfl rfl ?_
            refine ra_ld (k := 37) (S' := (44, [(0, .ref m0), (1, .int x1), (2, .int x2), (3, .int x3)], [.int mc], M11)) rfl hR13 rfl (vin_lt hx0 (by omega)) (hmc) rfl ?_
            refine ml_if (S1 := (61, [], [], M11)) (S2 := (47, [(0, .ref m0), (1, .int x1), (2, .int x2), (3, .int x3)], [], M11)) rfl rfl rfl (fun c_44 => ?_) (fun c_44 => ?_)
            · have c_44 : mc < 0 := of_decide_eq_true c_44
              refine ml_st (S' := (62, [], [.int (-1)], M11)) rfl rfl rfl ?_
              exact ml_ret rfl (rfl) (⟨_, _, _, rfl, hR13, (eqI.rf.put f15 (by decide)), eqR.rf⟩)
            · have c_44 : ¬ (mc < 0) := of_decide_eq_false c_44
              obtain ⟨ml9, mr9, mm9, ms9, mt9, hl9, hr9, hm9, hs9, ht9, hl0, hcl, hr0, hm0, hrm⟩ := hmd.resolve_left (by have q : 0 ≤ mc.toInt := i_nlt c_44; omega)
              refine ml_st (S' := (48, [(0, .ref m0), (1, .int x1), (2, .int x2), (3, .int x3)], [.int x2], M11)) rfl rfl rfl ?_
              refine ml_if (S1 := (61, [], [], M11)) (S2 := (51, [(0, .ref m0), (1, .int x1), (2, .int x2), (3, .int x3)], [], M11)) rfl rfl rfl (fun c_48 => ?_) (fun c_48 => ?_)
              · have c_48 : x2 < 0 := of_decide_eq_true c_48
                refine ml_st (S' := (62, [], [.int (-1)], M11)) rfl rfl rfl ?_
                exact ml_ret rfl (rfl) (⟨_, _, _, rfl, hR13, (eqI.rf.put f15 (by decide)), eqR.rf⟩)
              · have c_48 : ¬ (x2 < 0) := of_decide_eq_false c_48
                refine ml_blk 2 (S' := (53, [(0, .ref m0), (1, .int x1), (2, .int x2), (3, .int x3)], [.ref m0, .int x2], M11)) rfl ?_
                refine rg_ref (S' := (56, [(0, .ref m0), (1, .int x1), (2, .int x2), (3, .int x3)], [.ref (q 42), .int x2], M11)) rfl hR13 rfl rfl ?_
                refine ml_st (S' := (57, [(0, .ref m0), (1, .int x1), (2, .int x2), (3, .int x3)], [.int x1, .ref (q 42), .int x2], M11)) rfl rfl rfl ?_
                refine ra_ld (k := 42) (S' := (58, [(0, .ref m0), (1, .int x1), (2, .int x2), (3, .int x3)], [.int mm9, .int x2], M11)) rfl hR13 rfl (vin_lt hx0 (by omega)) (hm9) rfl ?_
                refine ml_if2 (S1 := (63, [(0, .ref m0), (1, .int x1), (2, .int x2), (3, .int x3)], [], M11)) (S2 := (61, [], [], M11)) rfl rfl rfl (fun c_58 => ?_) (fun c_58 => ?_)
                · have c_58 : x2 < mm9 := of_decide_eq_true c_58
                  have y0 : 0 ≤ x2.toInt := i_nlt c_48
                  have y1 := i_lt c_58
                  have w0 : 0 ≤ x3.toInt := i_nlt c_6
                  have w1 := i_le c_11
                  have w3 : (3 : Int32).toInt = 3 := rfl
                  have m8 : (8 * x2).toInt = 8 * x2.toInt := by have e8 : (8 : Int32).toInt = 8 := rfl; rw [i_mul (by rw [e8]; omega) (by rw [e8]; omega), e8]
                  have a1 : (mr9 + 8 * x2).toInt = mr9.toInt + 8 * x2.toInt := by rw [i_add (by omega) (by omega), m8]
                  have a2 : (mr9 + 8 * x2 + 2 * x3).toInt = mr9.toInt + 8 * x2.toInt + 2 * x3.toInt := by have t2 := two_k w0 (by omega); rw [i_add (by omega) (by omega), a1, t2]
                  refine ml_blk 2 (S' := (65, [(0, .ref m0), (1, .int x1), (2, .int x2), (3, .int x3)], [.ref m0, .ref m0], M11)) rfl ?_
                  refine rg_ref (S' := (68, [(0, .ref m0), (1, .int x1), (2, .int x2), (3, .int x3)], [.ref (q 41), .ref m0], M11)) rfl hR13 rfl rfl ?_
                  refine ml_st (S' := (69, [(0, .ref m0), (1, .int x1), (2, .int x2), (3, .int x3)], [.int x1, .ref (q 41), .ref m0], M11)) rfl rfl rfl ?_
                  refine ra_ld (k := 41) (S' := (70, [(0, .ref m0), (1, .int x1), (2, .int x2), (3, .int x3)], [.int mr9, .ref m0], M11)) rfl hR13 rfl (vin_lt hx0 (by omega)) (hr9) rfl ?_
                  refine ml_blk 3 (S' := (74, [(0, .ref m0), (1, .int x1), (2, .int x2), (3, .int x3)], [.int (8 * x2), .int mr9, .ref m0], M11)) rfl ?_
                  refine ml_blk 3 (S' := (77, [(0, .ref m0), (1, .int x1), (2, .int x2), (3, .int x3)], [.int x3, .int 2, .int (mr9 + (8 * x2)), .ref m0], M11)) rfl ?_
                  refine ml_blk 2 (S' := (79, [(0, .ref m0), (1, .int x1), (2, .int x2), (3, .int x3)], [.int ((mr9 + (8 * x2)) + (2 * x3)), .ref m0], M11)) rfl ?_
                  have hF26 : FK n f I12 R := (hF0.mono (pIx f15 (by decide)) (fun _ _ => rfl))
                  refine ml_call (a := [.ref m0, .int ((mr9 + (8 * x2)) + (2 * x3))]) (rest := []) rfl (hR13.okc rfl rfl rfl) rfl rfl (rm_u2 hR13 hF26 (by omega) (by omega) (by omega)) (fun v27 M28 h29 => ?_)
                  obtain ⟨rfl, h29⟩ := h29
                  rw [h29]
                  show ml _ _ _ (82, [(0, .ref m0), (1, .int x1), (2, .int x2), (3, .int x3)], [.int (f2 f ((mr9 + (8 * x2)) + (2 * x3)))], M11) _
                  exact ml_ret rfl (rfl) (⟨_, _, _, rfl, hR13, (eqI.rf.put f15 (by decide)), eqR.rf⟩)
                · have c_58 : ¬ (x2 < mm9) := of_decide_eq_false c_58
                  refine ml_st (S' := (62, [], [.int (-1)], M11)) rfl rfl rfl ?_
                  exact ml_ret rfl (rfl) (⟨_, _, _, rfl, hR13, (eqI.rf.put f15 (by decide)), eqR.rf⟩)
    · have c_11 : ¬ (x3 ≤ 3) := of_decide_eq_false c_11
      refine ml_st (S' := (15, [(0, .ref m0)], [.ref m0], M11)) rfl rfl rfl ?_
      refine ml_call (a := [.ref m0]) (rest := []) rfl (hR13.okc rfl rfl rfl) rfl rfl (rm_bad hR13 (by omega)) (fun v30 M31 h32 => ?_)
      obtain ⟨u38, I33, R34, rfl, hR35, hI36, hV37, w39⟩ := h32
      show ml _ _ _ (18, [(0, .ref m0)], [.int u38], M31) _
      exact ml_ret rfl (rfl) (⟨_, _, _, rfl, hR35, ((eqI.rf.put f15 (by decide)).tr hI36 (by decide)), (eqR.rf.tr hV37 (by decide))⟩)
set_option maxHeartbeats 2000000 in
theorem rm_bootstrap {g : xe_G}  {m0 : Nat} {q : Nat → Nat} {z : Nat × Nat} {I : rI} {R : rR} {M : mi_H} {x1 x2 kn : Int32} {n : Nat} {f : Nat → Int32}  (hR : RS g m0 q z I R M) (hk18 : I 18 = some kn) (hG : (kn < 0 ∨ GD n f I R)) {d : Nat} (hd : 3 ≤ d) : mt (mT g) d 184 [.ref m0, .int x1, .int x2] M (fun v M' => ∃ (x : Int32) (I' : rI) (R' : rR), v = some (.int x) ∧ RS g m0 q z I' R' M' ∧ eqI [0] I I' ∧ eqR [] R R') := by
  obtain ⟨d, rfl⟩ : ∃ e, d = e + 1 := ⟨d - 1, by omega⟩
  refine mt_in (b := mb_184 g) rfl rfl ?_
  show ml (mT g) d (mb_184 g).2 (0, [(0, .ref m0), (1, .int x1), (2, .int x2)], [], M) _
  refine ml_blk 2 (S' := (2, [(0, .ref m0), (1, .int x1), (2, .int x2)], [.int 0, .ref m0], M)) rfl ?_
  refine rp_int rfl hR rfl (fun M11 I12 hR13 e14 f15 => ?_)
  show ml _ _ _ (5, [(0, .ref m0), (1, .int x1), (2, .int x2)], [], M11) _
  refine ml_st (S' := (6, [(0, .ref m0), (1, .int x1), (2, .int x2)], [.ref m0], M11)) rfl rfl rfl ?_
  refine rg_int (S' := (9, [(0, .ref m0), (1, .int x1), (2, .int x2)], [.int kn], M11)) rfl hR13 rfl ((f15 18 (by decide)).trans (hk18)) rfl ?_
  refine ml_if (S1 := (28, [], [], M11)) (S2 := (12, [(0, .ref m0), (1, .int x1), (2, .int x2)], [], M11)) rfl rfl rfl (fun c_9 => ?_) (fun c_9 => ?_)
  · have c_9 : kn < 0 := of_decide_eq_true c_9
    refine ml_st (S' := (29, [], [.int (-1)], M11)) rfl rfl rfl ?_
    exact ml_ret rfl (rfl) (⟨_, _, _, rfl, hR13, (eqI.rf.put f15 (by decide)), eqR.rf⟩)
  · have c_9 : ¬ (kn < 0) := of_decide_eq_false c_9
    obtain ⟨S, cN, sa, sl, ch, cp, mj, pa, py, hA, fA, mA, aA, nf, ni, kf, km, hF0, hY0, hP0, hE0, hFO, kq54, kq58, kq61, hkf, kq25, hfk, hkm, kq26, hmk, hNW⟩ := hG.resolve_left (c_9)
    have hn := hF0.1
    obtain ⟨hNk, nb, nc, kq70, kq71, hnc, hbs⟩ := hNW
    refine ml_st (S' := (13, [(0, .ref m0), (1, .int x1), (2, .int x2)], [.int x1], M11)) rfl rfl rfl ?_
    refine ml_if (S1 := (28, [], [], M11)) (S2 := (16, [(0, .ref m0), (1, .int x1), (2, .int x2)], [], M11)) rfl rfl rfl (fun c_13 => ?_) (fun c_13 => ?_)
    · have c_13 : x1 < 0 := of_decide_eq_true c_13
      refine ml_st (S' := (29, [], [.int (-1)], M11)) rfl rfl rfl ?_
      exact ml_ret rfl (rfl) (⟨_, _, _, rfl, hR13, (eqI.rf.put f15 (by decide)), eqR.rf⟩)
    · have c_13 : ¬ (x1 < 0) := of_decide_eq_false c_13
      refine ml_blk 2 (S' := (18, [(0, .ref m0), (1, .int x1), (2, .int x2)], [.ref m0, .int x1], M11)) rfl ?_
      refine rg_int (S' := (21, [(0, .ref m0), (1, .int x1), (2, .int x2)], [.int nc, .int x1], M11)) rfl hR13 rfl ((f15 71 (by decide)).trans (kq71)) rfl ?_
      refine ml_if2 (S1 := (28, [], [], M11)) (S2 := (24, [(0, .ref m0), (1, .int x1), (2, .int x2)], [], M11)) rfl rfl rfl (fun c_21 => ?_) (fun c_21 => ?_)
      · have c_21 : nc ≤ x1 := of_decide_eq_true c_21
        refine ml_st (S' := (29, [], [.int (-1)], M11)) rfl rfl rfl ?_
        exact ml_ret rfl (rfl) (⟨_, _, _, rfl, hR13, (eqI.rf.put f15 (by decide)), eqR.rf⟩)
      · have c_21 : ¬ (nc ≤ x1) := of_decide_eq_false c_21
        refine ml_st (S' := (25, [(0, .ref m0), (1, .int x1), (2, .int x2)], [.int x2], M11)) rfl rfl rfl ?_
        refine ml_if (S1 := (30, [(0, .ref m0), (1, .int x1), (2, .int x2)], [], M11)) (S2 := (28, [], [], M11)) rfl rfl rfl (fun c_25 => ?_) (fun c_25 => ?_)
        · have c_25 : 0 ≤ x2 := of_decide_eq_true c_25
          have x0 : 0 ≤ x1.toInt := i_nlt c_13
          have x1n := i_nle c_21
          have hp0 : 0 ≤ x2.toInt := i_le c_25
          obtain ⟨hb0, hb2, e9, hit, hen⟩ := hbs.resolve_left (by omega)
          refine ml_st (S' := (31, [(0, .ref m0), (1, .int x1), (2, .int x2)], [.ref m0], M11)) rfl rfl rfl ?_
          refine rg_int (S' := (34, [(0, .ref m0), (1, .int x1), (2, .int x2)], [.int nb], M11)) rfl hR13 rfl ((f15 70 (by decide)).trans (kq70)) rfl ?_
          refine ml_blk 2 (S' := (36, [(0, .ref m0), (1, .int x1), (2, .int x2)], [.int (nb + 2)], M11)) rfl ?_
          refine ml_st (S' := (37, [(3, .int (nb + 2)), (0, .ref m0), (1, .int x1), (2, .int x2)], [], M11)) rfl rfl rfl ?_
          refine ml_st (S' := (38, [(3, .int (nb + 2)), (0, .ref m0), (1, .int x1), (2, .int x2)], [.int 0], M11)) rfl rfl rfl ?_
          refine ml_st (S' := (40, [(0, .ref m0), (1, .int x1), (2, .int x2), (3, .int (nb + 2)), (4, .int 0)], [], M11)) rfl rfl rfl ?_
          have L_40 : ∀ (n_40 : Nat) (i40_3 : Int32) (i40_4 : Int32), (2147483648 - i40_4.toInt).toNat ≤ n_40 → (0 ≤ i40_4.toInt ∧ i40_4.toInt ≤ x1.toInt ∧ itr (BS1 f n) (nc.toInt - i40_4.toInt).toNat i40_3 e9) → ml (mT g) d (mb_184 g).2 (40, [(0, .ref m0), (1, .int x1), (2, .int x2), (3, .int i40_3), (4, .int i40_4)], [], M11) (fun v M' => ∃ (x : Int32) (I' : rI) (R' : rR), v = some (.int x) ∧ RS g m0 q z I' R' M' ∧ eqI [0] I I' ∧ eqR [] R R') := by
            intro n_40
            induction n_40 with
            | zero => intro i40_3 i40_4 hn; exact (loop_zero hn).elim
            | succ n_40 ih_40 =>
              intro i40_3 i40_4 hn_40 hi_40
              obtain ⟨hk0b, hk1b, hitb⟩ := hi_40
              have hkc : ¬ nc ≤ i40_4 := fun e => by have := i_le e; omega
              obtain ⟨b1, hb1, hnx⟩ := itr_next hitb hkc
              have hb2 := hb1
              obtain ⟨g0, g1, g2, g3⟩ := hb2
              have eq2 : (i40_3 + 2).toInt = i40_3.toInt + 2 := i_add (by have : (2 : Int32).toInt = 2 := rfl; omega) (by have : (2 : Int32).toInt = 2 := rfl; omega)
              have hbs2 := bs_of (f := f) hn g0 g1
              have hm0 := f2_pos (f := f) (x := i40_3 + 2)
              have hm1 := f2_le (f := f) (x := i40_3 + 2)
              refine ml_blk 2 (S' := (43, [(0, .ref m0), (1, .int x1), (2, .int x2), (3, .int i40_3), (4, .int i40_4)], [.int x1, .int i40_4], M11)) rfl ?_
              refine ml_if2 (S1 := (66, [(0, .ref m0), (1, .int x1), (2, .int x2), (3, .int i40_3), (4, .int i40_4)], [], M11)) (S2 := (46, [(0, .ref m0), (1, .int x1), (2, .int x2), (3, .int i40_3), (4, .int i40_4)], [], M11)) rfl rfl rfl (fun c_43 => ?_) (fun c_43 => ?_)
              · have c_43 : x1 ≤ i40_4 := of_decide_eq_true c_43
                refine ml_st (S' := (67, [(0, .ref m0), (1, .int x1), (2, .int x2), (3, .int i40_3), (4, .int i40_4)], [.int x2], M11)) rfl rfl rfl ?_
                refine ml_if (S1 := (76, [(0, .ref m0), (1, .int x1), (2, .int x2), (3, .int i40_3), (4, .int i40_4)], [], M11)) (S2 := (70, [(0, .ref m0), (1, .int x1), (2, .int x2), (3, .int i40_3), (4, .int i40_4)], [], M11)) rfl rfl rfl (fun c_67 => ?_) (fun c_67 => ?_)
                · have c_67 : ¬ x2 = 0 := of_decide_eq_true c_67
                  refine ml_blk 3 (S' := (79, [(0, .ref m0), (1, .int x1), (2, .int x2), (3, .int i40_3), (4, .int i40_4)], [.int i40_3, .ref m0, .int x2], M11)) rfl ?_
                  refine ml_blk 2 (S' := (81, [(0, .ref m0), (1, .int x1), (2, .int x2), (3, .int i40_3), (4, .int i40_4)], [.int (i40_3 + 2), .ref m0, .int x2], M11)) rfl ?_
                  have hF16 : FK n f I12 R := (hF0.mono (pIx f15 (by decide)) (fun _ _ => rfl))
                  refine ml_call (a := [.ref m0, .int (i40_3 + 2)]) (rest := [.int x2]) rfl (hR13.okc rfl rfl rfl) rfl rfl (rm_u2 hR13 hF16 (by omega) (by omega) (by omega)) (fun v17 M18 h19 => ?_)
                  obtain ⟨rfl, h19⟩ := h19
                  rw [h19]
                  show ml _ _ _ (84, [(0, .ref m0), (1, .int x1), (2, .int x2), (3, .int i40_3), (4, .int i40_4)], [.int (f2 f (i40_3 + 2)), .int x2], M11) _
                  refine ml_if2 (S1 := (91, [(0, .ref m0), (1, .int x1), (2, .int x2), (3, .int i40_3), (4, .int i40_4)], [], M11)) (S2 := (87, [(0, .ref m0), (1, .int x1), (2, .int x2), (3, .int i40_3), (4, .int i40_4)], [], M11)) rfl rfl rfl (fun c_84 => ?_) (fun c_84 => ?_)
                  · have c_84 : x2 ≤ (f2 f (i40_3 + 2)) := of_decide_eq_true c_84
                    have r1 := i_le c_84
                    have t2 := two_k hp0 (by omega)
                    have a2 : (i40_3 + 2 + 2 * x2).toInt = i40_3.toInt + 2 + 2 * x2.toInt := by rw [i_add (by omega) (by omega), eq2, t2]
                    refine ml_blk 3 (S' := (94, [(0, .ref m0), (1, .int x1), (2, .int x2), (3, .int i40_3), (4, .int i40_4)], [.int 2, .int i40_3, .ref m0], M11)) rfl ?_
                    refine ml_blk 3 (S' := (97, [(0, .ref m0), (1, .int x1), (2, .int x2), (3, .int i40_3), (4, .int i40_4)], [.int x2, .int 2, .int (i40_3 + 2), .ref m0], M11)) rfl ?_
                    refine ml_blk 2 (S' := (99, [(0, .ref m0), (1, .int x1), (2, .int x2), (3, .int i40_3), (4, .int i40_4)], [.int ((i40_3 + 2) + (2 * x2)), .ref m0], M11)) rfl ?_
                    refine ml_call (a := [.ref m0, .int ((i40_3 + 2) + (2 * x2))]) (rest := []) rfl (hR13.okc rfl rfl rfl) rfl rfl (rm_u2 hR13 hF16 (by omega) (by omega) (by omega)) (fun v20 M21 h22 => ?_)
                    obtain ⟨rfl, h22⟩ := h22
                    rw [h22]
                    show ml _ _ _ (102, [], [.int (f2 f ((i40_3 + 2) + (2 * x2)))], M11) _
                    exact ml_ret rfl (rfl) (⟨_, _, _, rfl, hR13, (eqI.rf.put f15 (by decide)), eqR.rf⟩)
                  · have c_84 : ¬ (x2 ≤ (f2 f (i40_3 + 2))) := of_decide_eq_false c_84
                    refine ml_st (S' := (88, [(0, .ref m0), (1, .int x1), (2, .int x2), (3, .int i40_3), (4, .int i40_4)], [.int (-1)], M11)) rfl rfl rfl ?_
                    refine ml_st (S' := (102, [], [.int (-1)], M11)) rfl rfl rfl ?_
                    exact ml_ret rfl (rfl) (⟨_, _, _, rfl, hR13, (eqI.rf.put f15 (by decide)), eqR.rf⟩)
                · have c_67 : ¬ (¬ x2 = 0) := of_decide_eq_false c_67
                  refine ml_blk 2 (S' := (72, [(0, .ref m0), (1, .int x1), (2, .int x2), (3, .int i40_3), (4, .int i40_4)], [.int i40_3, .ref m0], M11)) rfl ?_
                  have hF23 : FK n f I12 R := (hF0.mono (pIx f15 (by decide)) (fun _ _ => rfl))
                  refine ml_call (a := [.ref m0, .int i40_3]) (rest := []) rfl (hR13.okc rfl rfl rfl) rfl rfl (rm_u2 hR13 hF23 (g0) (by omega) (by omega)) (fun v24 M25 h26 => ?_)
                  obtain ⟨rfl, h26⟩ := h26
                  rw [h26]
                  show ml _ _ _ (75, [(0, .ref m0), (1, .int x1), (2, .int x2), (3, .int i40_3), (4, .int i40_4)], [.int (f2 f i40_3)], M11) _
                  exact ml_ret rfl (rfl) (⟨_, _, _, rfl, hR13, (eqI.rf.put f15 (by decide)), eqR.rf⟩)
              · have c_43 : ¬ (x1 ≤ i40_4) := of_decide_eq_false c_43
                refine ml_blk 3 (S' := (49, [(0, .ref m0), (1, .int x1), (2, .int x2), (3, .int i40_3), (4, .int i40_4)], [.int 2, .int 4, .int i40_3], M11)) rfl ?_
                refine ml_blk 3 (S' := (52, [(0, .ref m0), (1, .int x1), (2, .int x2), (3, .int i40_3), (4, .int i40_4)], [.int 2, .int i40_3, .ref m0, .int 2, .int 4, .int i40_3], M11)) rfl ?_
                refine ml_st (S' := (53, [(0, .ref m0), (1, .int x1), (2, .int x2), (3, .int i40_3), (4, .int i40_4)], [.int (i40_3 + 2), .ref m0, .int 2, .int 4, .int i40_3], M11)) rfl rfl rfl ?_
                have hF27 : FK n f I12 R := (hF0.mono (pIx f15 (by decide)) (fun _ _ => rfl))
                refine ml_call (a := [.ref m0, .int (i40_3 + 2)]) (rest := [.int 2, .int 4, .int i40_3]) rfl (hR13.okc rfl rfl rfl) rfl rfl (rm_u2 hR13 hF27 (by omega) (by omega) (by omega)) (fun v28 M29 h30 => ?_)
                obtain ⟨rfl, h30⟩ := h30
                rw [h30]
                show ml _ _ _ (56, [(0, .ref m0), (1, .int x1), (2, .int x2), (3, .int i40_3), (4, .int i40_4)], [.int (f2 f (i40_3 + 2)), .int 2, .int 4, .int i40_3], M11) _
                refine ml_blk 3 (S' := (59, [(0, .ref m0), (1, .int x1), (2, .int x2), (3, .int i40_3), (4, .int i40_4)], [.int (i40_3 + (4 + (2 * (f2 f (i40_3 + 2)))))], M11)) rfl ?_
                refine ml_st (S' := (60, [(3, .int (i40_3 + (4 + (2 * (f2 f (i40_3 + 2)))))), (0, .ref m0), (1, .int x1), (2, .int x2), (4, .int i40_4)], [], M11)) rfl rfl rfl ?_
                refine ml_st (S' := (63, [(4, .int (i40_4 + 1)), (3, .int (i40_3 + (4 + (2 * (f2 f (i40_3 + 2)))))), (0, .ref m0), (1, .int x1), (2, .int x2)], [], M11)) rfl rfl rfl ?_
                refine ml_st (S' := (40, [(0, .ref m0), (1, .int x1), (2, .int x2), (3, .int (i40_3 + (4 + (2 * (f2 f (i40_3 + 2)))))), (4, .int (i40_4 + 1))], [], M11)) rfl rfl rfl ?_
                exact ih_40 (i40_3 + (4 + (2 * (f2 f (i40_3 + 2))))) (i40_4 + 1) (loop_inc (Int32.not_le.mp c_43) hn_40) (⟨by rw [inc_lt (Int32.not_le.mp c_43)]; omega, by rw [inc_lt (Int32.not_le.mp c_43)]; have := i_nle c_43; omega, hb1.eq hbs2.1 ▸ hnx⟩)
          exact L_40 _ (nb + 2) 0 (Nat.le_refl _) (⟨by decide, x0, by rw [show (nc.toInt - (0 : Int32).toInt).toNat = nc.toInt.toNat by have : (0 : Int32).toInt = 0 := rfl; omega]; exact hit⟩)
        · have c_25 : ¬ (0 ≤ x2) := of_decide_eq_false c_25
          refine ml_st (S' := (29, [], [.int (-1)], M11)) rfl rfl rfl ?_
          exact ml_ret rfl (rfl) (⟨_, _, _, rfl, hR13, (eqI.rf.put f15 (by decide)), eqR.rf⟩)
end
section
set_option maxHeartbeats 2000000 in
theorem rm_isMethodX {g : xe_G}  {m0 : Nat} {q : Nat → Nat} {z : Nat × Nat} {I : rI} {R : rR} {M : mi_H} {x1 : Int32} {S cN : Nat} {sa sl ch : Nat → Int32}  (hR : RS g m0 q z I R M) (hY : SK S cN sa sl ch I R) (hs0 : 0 ≤ x1.toInt) (hs1 : x1.toInt < S) {d : Nat} (hd : 5 ≤ d) : mt (mT g) d 218 [.ref m0, .int x1] M (fun v M' => (∃ x : Int32, v = some (.int x) ∧ (x = 0 ∨ x = 1) ∧ (x = 0 ∨ MTX sa sl ch x1 ∧ AGX (tx sa ch x1) (sL sl x1) 1)) ∧ M' = M) := by
  obtain ⟨d, rfl⟩ : ∃ e, d = e + 1 := ⟨d - 1, by omega⟩
  refine mt_in (b := mb_218 g) rfl rfl ?_
  show ml (mT g) d (mb_218 g).2 (0, [(0, .ref m0), (1, .int x1)], [], M) _
  have hsl := hY.s hs0 hs1
  have hsl0 : 0 ≤ (sL sl x1).toInt := hsl.2.2.2.1
  have hsl1 : (sL sl x1).toInt ≤ 66000 := by have h1 := hsl.2.2.1; have h2 := hsl.2.2.2.2.1; have h3 := hsl.2.2.2.2.2.1; show (sl _).toInt ≤ 66000; omega
  refine ml_blk 2 (S' := (2, [(0, .ref m0), (1, .int x1)], [.int x1, .ref m0], M)) rfl ?_
  refine ml_call (a := [.ref m0, .int x1]) (rest := []) rfl (hR.okc rfl rfl rfl) rfl rfl (rm_length hR hY (hs0) (hs1) (by omega)) (fun v11 M12 h13 => ?_)
  obtain ⟨rfl, h13⟩ := h13
  rw [h13]
  show ml _ _ _ (5, [(0, .ref m0), (1, .int x1)], [.int (sL sl x1)], M) _
  refine ml_st (S' := (6, [(2, .int (sL sl x1)), (0, .ref m0), (1, .int x1)], [], M)) rfl rfl rfl ?_
  refine ml_st (S' := (7, [(2, .int (sL sl x1)), (0, .ref m0), (1, .int x1)], [.int (sL sl x1)], M)) rfl rfl rfl ?_
  refine ml_if (S1 := (21, [], [], M)) (S2 := (10, [(2, .int (sL sl x1)), (0, .ref m0), (1, .int x1)], [], M)) rfl rfl rfl (fun c_7 => ?_) (fun c_7 => ?_)
  · have c_7 : (sL sl x1) = 0 := of_decide_eq_true c_7
    refine ml_st (S' := (22, [], [.int 0], M)) rfl rfl rfl ?_
    exact ml_ret rfl (r_z (Or.inl rfl)) (⟨⟨_, rfl, Or.inl rfl, Or.inl rfl⟩, rfl⟩)
  · have c_7 : ¬ ((sL sl x1) = 0) := of_decide_eq_false c_7
    refine ml_blk 3 (S' := (13, [(2, .int (sL sl x1)), (0, .ref m0), (1, .int x1)], [.int 0, .int x1, .ref m0], M)) rfl ?_
    refine ml_call (a := [.ref m0, .int x1, .int 0]) (rest := []) rfl (hR.okc rfl rfl rfl) rfl rfl (rm_at hR hY (hs0) (hs1) (by decide) (by have h7 : (sL sl x1).toInt ≠ 0 := (fun e => c_7 (Int32.toInt_inj.mp e)); have : (0 : Int32).toInt = 0 := rfl; omega) (by omega)) (fun v14 M15 h16 => ?_)
    obtain ⟨rfl, h16⟩ := h16
    rw [h16]
    show ml _ _ _ (16, [(2, .int (sL sl x1)), (0, .ref m0), (1, .int x1)], [.int (tx sa ch x1 0)], M) _
    refine ml_st (S' := (18, [(2, .int (sL sl x1)), (0, .ref m0), (1, .int x1)], [.int 40, .int (tx sa ch x1 0)], M)) rfl rfl rfl ?_
    refine ml_if2 (S1 := (23, [(2, .int (sL sl x1)), (0, .ref m0), (1, .int x1)], [], M)) (S2 := (21, [], [], M)) rfl rfl rfl (fun c_18 => ?_) (fun c_18 => ?_)
    · have c_18 : (tx sa ch x1 0) = 40 := of_decide_eq_true c_18
      refine ml_st (S' := (24, [(2, .int (sL sl x1)), (0, .ref m0), (1, .int x1)], [.int 1], M)) rfl rfl rfl ?_
      refine ml_st (S' := (25, [(0, .ref m0), (1, .int x1), (2, .int (sL sl x1)), (3, .int 1)], [], M)) rfl rfl rfl ?_
      have L_25 : ∀ (n_25 : Nat) (i25_3 : Int32), (2147483648 - i25_3.toInt).toNat ≤ n_25 → (1 ≤ i25_3.toInt ∧ i25_3.toInt ≤ (sL sl x1).toInt ∧ ∃ m, itr (AG1 (tx sa ch x1) (sL sl x1)) m 1 i25_3) → ml (mT g) d (mb_218 g).2 (25, [(0, .ref m0), (1, .int x1), (2, .int (sL sl x1)), (3, .int i25_3)], [], M) (fun v M' => (∃ x : Int32, v = some (.int x) ∧ (x = 0 ∨ x = 1) ∧ (x = 0 ∨ MTX sa sl ch x1 ∧ AGX (tx sa ch x1) (sL sl x1) 1)) ∧ M' = M) := by
        intro n_25
        induction n_25 with
        | zero => intro i25_3 hn; exact (loop_zero hn).elim
        | succ n_25 ih_25 =>
          intro i25_3 hn_25 hi_25
          obtain ⟨hk1, hkn, m9, hit⟩ := hi_25
          refine ml_blk 2 (S' := (27, [(0, .ref m0), (1, .int x1), (2, .int (sL sl x1)), (3, .int i25_3)], [.int (sL sl x1), .int i25_3], M)) rfl ?_
          have J_54 : ((sL sl x1) ≤ i25_3 ∨ (tx sa ch x1) i25_3 = 41) → ml (mT g) d (mb_218 g).2 (54, [(0, .ref m0), (1, .int x1), (2, .int (sL sl x1)), (3, .int i25_3)], [], M) (fun v M' => (∃ x : Int32, v = some (.int x) ∧ (x = 0 ∨ x = 1) ∧ (x = 0 ∨ MTX sa sl ch x1 ∧ AGX (tx sa ch x1) (sL sl x1) 1)) ∧ M' = M) := by
            intro hj_54
            refine ml_blk 2 (S' := (56, [(0, .ref m0), (1, .int x1), (2, .int (sL sl x1)), (3, .int i25_3)], [.int (sL sl x1), .int i25_3], M)) rfl ?_
            refine ml_if2 (S1 := (61, [(0, .ref m0), (1, .int x1), (2, .int (sL sl x1)), (3, .int i25_3)], [], M)) (S2 := (59, [(0, .ref m0), (1, .int x1), (2, .int (sL sl x1)), (3, .int i25_3)], [], M)) rfl rfl rfl (fun c_56 => ?_) (fun c_56 => ?_)
            · have c_56 : i25_3 < (sL sl x1) := of_decide_eq_true c_56
              have hk54 := hj_54.resolve_left (Int32.not_le.mpr c_56)
              have hlt := i_lt c_56
              have hk2 : (i25_3 + 1).toInt = i25_3.toInt + 1 := inc_lt c_56
              have hagw : AGW (tx sa ch x1) (sL sl x1) 1 := ⟨m9, i25_3, hit, by omega, hlt, hk54⟩
              refine ml_st (S' := (64, [(3, .int (i25_3 + 1)), (0, .ref m0), (1, .int x1), (2, .int (sL sl x1))], [], M)) rfl rfl rfl ?_
              refine ml_blk 3 (S' := (67, [(3, .int (i25_3 + 1)), (0, .ref m0), (1, .int x1), (2, .int (sL sl x1))], [.int ((i25_3 + 1) + 1)], M)) rfl ?_
              refine ml_st (S' := (68, [(3, .int (i25_3 + 1)), (0, .ref m0), (1, .int x1), (2, .int (sL sl x1))], [.int (sL sl x1), .int ((i25_3 + 1) + 1)], M)) rfl rfl rfl ?_
              have J_94 : (3 ≤ (sL sl x1).toInt ∧ (i25_3 + 1).toInt < (sL sl x1).toInt) → ml (mT g) d (mb_218 g).2 (94, [(0, .ref m0), (1, .int x1)], [], M) (fun v M' => (∃ x : Int32, v = some (.int x) ∧ (x = 0 ∨ x = 1) ∧ (x = 0 ∨ MTX sa sl ch x1 ∧ AGX (tx sa ch x1) (sL sl x1) 1)) ∧ M' = M) := by
                intro hj_94
                refine ml_blk 2 (S' := (96, [(0, .ref m0), (1, .int x1)], [.int x1, .ref m0], M)) rfl ?_
                refine ml_call (a := [.ref m0, .int x1]) (rest := []) rfl (hR.okc rfl rfl rfl) rfl rfl (rm_places0 hR hY (hs0) (hs1) (hagw) (by omega)) (fun v17 M18 h19 => ?_)
                obtain ⟨⟨u20, rfl⟩, h19⟩ := h19
                rw [h19]
                show ml _ _ _ (99, [(0, .ref m0), (1, .int x1)], [.int u20], M) _
                refine ml_st (S' := (102, [(0, .ref m0), (1, .int x1)], [.int 255, .int u20], M)) rfl rfl rfl ?_
                refine ml_if2 (S1 := (109, [(0, .ref m0), (1, .int x1)], [], M)) (S2 := (105, [(0, .ref m0), (1, .int x1)], [], M)) rfl rfl rfl (fun c_102 => ?_) (fun c_102 => ?_)
                · have c_102 : 255 < u20 := of_decide_eq_true c_102
                  refine ml_st (S' := (110, [], [.int 0], M)) rfl rfl rfl ?_
                  exact ml_ret rfl (r_z (Or.inl rfl)) (⟨⟨_, rfl, Or.inl rfl, Or.inl rfl⟩, rfl⟩)
                · have c_102 : ¬ (255 < u20) := of_decide_eq_false c_102
                  refine ml_st (S' := (106, [(0, .ref m0), (1, .int x1)], [.int 1], M)) rfl rfl rfl ?_
                  refine ml_st (S' := (110, [], [.int 1], M)) rfl rfl rfl ?_
                  exact ml_ret rfl (r_z (Or.inr rfl)) (⟨⟨_, rfl, Or.inr rfl, Or.inr ⟨⟨hagw, hj_94.1⟩, m9, i25_3, hit, by omega, by have := hj_94.2; omega, hk54⟩⟩, rfl⟩)
              refine ml_if2 (S1 := (82, [(0, .ref m0), (1, .int x1), (2, .int (sL sl x1)), (3, .int (i25_3 + 1))], [], M)) (S2 := (71, [(3, .int (i25_3 + 1)), (0, .ref m0), (1, .int x1), (2, .int (sL sl x1))], [], M)) rfl rfl rfl (fun c_68 => ?_) (fun c_68 => ?_)
              · have c_68 : ¬ ((i25_3 + 1) + 1) = (sL sl x1) := of_decide_eq_true c_68
                refine ml_blk 3 (S' := (85, [(0, .ref m0), (1, .int x1), (2, .int (sL sl x1)), (3, .int (i25_3 + 1))], [.int (i25_3 + 1), .int x1, .ref m0], M)) rfl ?_
                refine ml_call (a := [.ref m0, .int x1, .int (i25_3 + 1)]) (rest := []) rfl (hR.okc rfl rfl rfl) rfl rfl (rm_fieldText hR hY (hs0) (hs1) (by omega) (by omega) (by omega)) (fun v21 M22 h23 => ?_)
                obtain ⟨rfl, h23⟩ := h23
                rw [h23]
                show ml _ _ _ (88, [(0, .ref m0), (1, .int x1), (2, .int (sL sl x1)), (3, .int (i25_3 + 1))], [.int (FTx (tx sa ch x1) (sL sl x1) (i25_3 + 1))], M) _
                refine ml_st (S' := (89, [(0, .ref m0), (1, .int x1), (2, .int (sL sl x1)), (3, .int (i25_3 + 1))], [.int (sL sl x1), .int (FTx (tx sa ch x1) (sL sl x1) (i25_3 + 1))], M)) rfl rfl rfl ?_
                refine ml_if2 (S1 := (94, [(0, .ref m0), (1, .int x1)], [], M)) (S2 := (92, [(0, .ref m0), (1, .int x1), (2, .int (sL sl x1)), (3, .int (i25_3 + 1))], [], M)) rfl rfl rfl (fun c_89 => ?_) (fun c_89 => ?_)
                · have c_89 : (FTx (tx sa ch x1) (sL sl x1) (i25_3 + 1)) = (sL sl x1) := of_decide_eq_true c_89
                  exact J_94  ((by have q := FTx_b (c := (tx sa ch x1)) (n := (sL sl x1)) (a := i25_3 + 1) (by omega) (by omega) (by omega); have e : FTx (tx sa ch x1) (sL sl x1) (i25_3 + 1) = (sL sl x1) := c_89; rw [e] at q; rcases q with q | q; (rw [q] at hsl0; exact absurd hsl0 (by decide)); omega))
                · have c_89 : ¬ ((FTx (tx sa ch x1) (sL sl x1) (i25_3 + 1)) = (sL sl x1)) := of_decide_eq_false c_89
                  refine ml_st (S' := (93, [(0, .ref m0), (1, .int x1), (2, .int (sL sl x1)), (3, .int (i25_3 + 1))], [.int 0], M)) rfl rfl rfl ?_
                  exact ml_ret rfl (r_z (Or.inl rfl)) (⟨⟨_, rfl, Or.inl rfl, Or.inl rfl⟩, rfl⟩)
              · have c_68 : ¬ (¬ ((i25_3 + 1) + 1) = (sL sl x1)) := of_decide_eq_false c_68
                refine ml_blk 3 (S' := (74, [(3, .int (i25_3 + 1)), (0, .ref m0), (1, .int x1), (2, .int (sL sl x1))], [.int (i25_3 + 1), .int x1, .ref m0], M)) rfl ?_
                refine ml_call (a := [.ref m0, .int x1, .int (i25_3 + 1)]) (rest := []) rfl (hR.okc rfl rfl rfl) rfl rfl (rm_at hR hY (hs0) (hs1) (by omega) (by have e : (i25_3 + 1 + 1).toInt = (sL sl x1).toInt := congrArg Int32.toInt (Decidable.not_not.mp c_68); rw [i_add (by have : (1 : Int32).toInt = 1 := rfl; omega) (by have : (1 : Int32).toInt = 1 := rfl; omega), hk2] at e; have : (1 : Int32).toInt = 1 := rfl; omega) (by omega)) (fun v24 M25 h26 => ?_)
                obtain ⟨rfl, h26⟩ := h26
                rw [h26]
                show ml _ _ _ (77, [(3, .int (i25_3 + 1)), (0, .ref m0), (1, .int x1), (2, .int (sL sl x1))], [.int (tx sa ch x1 (i25_3 + 1))], M) _
                refine ml_st (S' := (79, [(3, .int (i25_3 + 1)), (0, .ref m0), (1, .int x1), (2, .int (sL sl x1))], [.int 86, .int (tx sa ch x1 (i25_3 + 1))], M)) rfl rfl rfl ?_
                refine ml_if2 (S1 := (94, [(0, .ref m0), (1, .int x1)], [], M)) (S2 := (82, [(0, .ref m0), (1, .int x1), (2, .int (sL sl x1)), (3, .int (i25_3 + 1))], [], M)) rfl rfl rfl (fun c_79 => ?_) (fun c_79 => ?_)
                · have c_79 : (tx sa ch x1 (i25_3 + 1)) = 86 := of_decide_eq_true c_79
                  exact J_94  ((by have e : (i25_3 + 1 + 1).toInt = (sL sl x1).toInt := congrArg Int32.toInt (Decidable.not_not.mp c_68); rw [i_add (by have : (1 : Int32).toInt = 1 := rfl; omega) (by have : (1 : Int32).toInt = 1 := rfl; omega), hk2] at e; have : (1 : Int32).toInt = 1 := rfl; omega))
                · have c_79 : ¬ ((tx sa ch x1 (i25_3 + 1)) = 86) := of_decide_eq_false c_79
                  refine ml_blk 3 (S' := (85, [(0, .ref m0), (1, .int x1), (2, .int (sL sl x1)), (3, .int (i25_3 + 1))], [.int (i25_3 + 1), .int x1, .ref m0], M)) rfl ?_
                  refine ml_call (a := [.ref m0, .int x1, .int (i25_3 + 1)]) (rest := []) rfl (hR.okc rfl rfl rfl) rfl rfl (rm_fieldText hR hY (hs0) (hs1) (by omega) (by omega) (by omega)) (fun v27 M28 h29 => ?_)
                  obtain ⟨rfl, h29⟩ := h29
                  rw [h29]
                  show ml _ _ _ (88, [(0, .ref m0), (1, .int x1), (2, .int (sL sl x1)), (3, .int (i25_3 + 1))], [.int (FTx (tx sa ch x1) (sL sl x1) (i25_3 + 1))], M) _
                  refine ml_st (S' := (89, [(0, .ref m0), (1, .int x1), (2, .int (sL sl x1)), (3, .int (i25_3 + 1))], [.int (sL sl x1), .int (FTx (tx sa ch x1) (sL sl x1) (i25_3 + 1))], M)) rfl rfl rfl ?_
                  refine ml_if2 (S1 := (94, [(0, .ref m0), (1, .int x1)], [], M)) (S2 := (92, [(0, .ref m0), (1, .int x1), (2, .int (sL sl x1)), (3, .int (i25_3 + 1))], [], M)) rfl rfl rfl (fun c_89 => ?_) (fun c_89 => ?_)
                  · have c_89 : (FTx (tx sa ch x1) (sL sl x1) (i25_3 + 1)) = (sL sl x1) := of_decide_eq_true c_89
                    exact J_94  ((by have q := FTx_b (c := (tx sa ch x1)) (n := (sL sl x1)) (a := i25_3 + 1) (by omega) (by omega) (by omega); have e : FTx (tx sa ch x1) (sL sl x1) (i25_3 + 1) = (sL sl x1) := c_89; rw [e] at q; rcases q with q | q; (rw [q] at hsl0; exact absurd hsl0 (by decide)); omega))
                  · have c_89 : ¬ ((FTx (tx sa ch x1) (sL sl x1) (i25_3 + 1)) = (sL sl x1)) := of_decide_eq_false c_89
                    refine ml_st (S' := (93, [(0, .ref m0), (1, .int x1), (2, .int (sL sl x1)), (3, .int (i25_3 + 1))], [.int 0], M)) rfl rfl rfl ?_
                    exact ml_ret rfl (r_z (Or.inl rfl)) (⟨⟨_, rfl, Or.inl rfl, Or.inl rfl⟩, rfl⟩)
            · have c_56 : ¬ (i25_3 < (sL sl x1)) := of_decide_eq_false c_56
              refine ml_st (S' := (60, [(0, .ref m0), (1, .int x1), (2, .int (sL sl x1)), (3, .int i25_3)], [.int 0], M)) rfl rfl rfl ?_
              exact ml_ret rfl (r_z (Or.inl rfl)) (⟨⟨_, rfl, Or.inl rfl, Or.inl rfl⟩, rfl⟩)
          refine ml_if2 (S1 := (54, [(0, .ref m0), (1, .int x1), (2, .int (sL sl x1)), (3, .int i25_3)], [], M)) (S2 := (30, [(0, .ref m0), (1, .int x1), (2, .int (sL sl x1)), (3, .int i25_3)], [], M)) rfl rfl rfl (fun c_27 => ?_) (fun c_27 => ?_)
          · have c_27 : (sL sl x1) ≤ i25_3 := of_decide_eq_true c_27
            exact J_54  (Or.inl c_27)
          · have c_27 : ¬ ((sL sl x1) ≤ i25_3) := of_decide_eq_false c_27
            refine ml_blk 3 (S' := (33, [(0, .ref m0), (1, .int x1), (2, .int (sL sl x1)), (3, .int i25_3)], [.int i25_3, .int x1, .ref m0], M)) rfl ?_
            refine ml_call (a := [.ref m0, .int x1, .int i25_3]) (rest := []) rfl (hR.okc rfl rfl rfl) rfl rfl (rm_at hR hY (hs0) (hs1) (by omega) (i_nle c_27) (by omega)) (fun v30 M31 h32 => ?_)
            obtain ⟨rfl, h32⟩ := h32
            rw [h32]
            show ml _ _ _ (36, [(0, .ref m0), (1, .int x1), (2, .int (sL sl x1)), (3, .int i25_3)], [.int (tx sa ch x1 i25_3)], M) _
            refine ml_st (S' := (38, [(0, .ref m0), (1, .int x1), (2, .int (sL sl x1)), (3, .int i25_3)], [.int 41, .int (tx sa ch x1 i25_3)], M)) rfl rfl rfl ?_
            refine ml_if2 (S1 := (54, [(0, .ref m0), (1, .int x1), (2, .int (sL sl x1)), (3, .int i25_3)], [], M)) (S2 := (41, [(0, .ref m0), (1, .int x1), (2, .int (sL sl x1)), (3, .int i25_3)], [], M)) rfl rfl rfl (fun c_38 => ?_) (fun c_38 => ?_)
            · have c_38 : (tx sa ch x1 i25_3) = 41 := of_decide_eq_true c_38
              exact J_54  (Or.inr c_38)
            · have c_38 : ¬ ((tx sa ch x1 i25_3) = 41) := of_decide_eq_false c_38
              refine ml_blk 3 (S' := (44, [(0, .ref m0), (1, .int x1), (2, .int (sL sl x1)), (3, .int i25_3)], [.int i25_3, .int x1, .ref m0], M)) rfl ?_
              refine ml_call (a := [.ref m0, .int x1, .int i25_3]) (rest := []) rfl (hR.okc rfl rfl rfl) rfl rfl (rm_fieldText hR hY (hs0) (hs1) (by omega) (hkn) (by omega)) (fun v33 M34 h35 => ?_)
              obtain ⟨rfl, h35⟩ := h35
              rw [h35]
              show ml _ _ _ (47, [(0, .ref m0), (1, .int x1), (2, .int (sL sl x1)), (3, .int i25_3)], [.int (FTx (tx sa ch x1) (sL sl x1) i25_3)], M) _
              refine ml_st (S' := (48, [(3, .int (FTx (tx sa ch x1) (sL sl x1) i25_3)), (0, .ref m0), (1, .int x1), (2, .int (sL sl x1))], [], M)) rfl rfl rfl ?_
              refine ml_st (S' := (49, [(3, .int (FTx (tx sa ch x1) (sL sl x1) i25_3)), (0, .ref m0), (1, .int x1), (2, .int (sL sl x1))], [.int (FTx (tx sa ch x1) (sL sl x1) i25_3)], M)) rfl rfl rfl ?_
              refine ml_if (S1 := (25, [(0, .ref m0), (1, .int x1), (2, .int (sL sl x1)), (3, .int (FTx (tx sa ch x1) (sL sl x1) i25_3))], [], M)) (S2 := (52, [(3, .int (FTx (tx sa ch x1) (sL sl x1) i25_3)), (0, .ref m0), (1, .int x1), (2, .int (sL sl x1))], [], M)) rfl rfl rfl (fun c_49 => ?_) (fun c_49 => ?_)
              · have c_49 : 0 ≤ (FTx (tx sa ch x1) (sL sl x1) i25_3) := of_decide_eq_true c_49
                have hft := (FTx_b (c := (tx sa ch x1)) (n := (sL sl x1)) (a := i25_3) (by omega) hkn (by omega)).resolve_left (fun e => absurd (e ▸ c_49 : (0 : Int32) ≤ -1) (by decide))
                exact ih_25 (FTx (tx sa ch x1) (sL sl x1) i25_3) (by have := hft.1; omega) (⟨by omega, hft.2, m9 + 1, i25_3, hit, by omega, i_nle c_27, c_38, rfl, hft.1, hft.2⟩)
              · have c_49 : ¬ (0 ≤ (FTx (tx sa ch x1) (sL sl x1) i25_3)) := of_decide_eq_false c_49
                refine ml_st (S' := (53, [(3, .int (FTx (tx sa ch x1) (sL sl x1) i25_3)), (0, .ref m0), (1, .int x1), (2, .int (sL sl x1))], [.int 0], M)) rfl rfl rfl ?_
                exact ml_ret rfl (r_z (Or.inl rfl)) (⟨⟨_, rfl, Or.inl rfl, Or.inl rfl⟩, rfl⟩)
      exact L_25 _ 1 (Nat.le_refl _) (⟨by decide, by have h7 : (sL sl x1).toInt ≠ 0 := (fun e => c_7 (Int32.toInt_inj.mp e)); show (1 : Int) ≤ _; omega, 0, rfl⟩)
    · have c_18 : ¬ ((tx sa ch x1 0) = 40) := of_decide_eq_false c_18
      refine ml_st (S' := (22, [], [.int 0], M)) rfl rfl rfl ?_
      exact ml_ret rfl (r_z (Or.inl rfl)) (⟨⟨_, rfl, Or.inl rfl, Or.inl rfl⟩, rfl⟩)
set_option maxHeartbeats 2000000 in
theorem rm_places {g : xe_G}  {m0 : Nat} {q : Nat → Nat} {z : Nat × Nat} {I : rI} {R : rR} {M : mi_H} {x1 kn : Int32} {n : Nat} {f : Nat → Int32}  (hR : RS g m0 q z I R M) (hk18 : I 18 = some kn) (hG : (kn < 0 ∨ GD n f I R)) {d : Nat} (hd : 6 ≤ d) : mt (mT g) d 232 [.ref m0, .int x1] M (fun v M' => ∃ (x : Int32) (I' : rI) (R' : rR), v = some (.int x) ∧ RS g m0 q z I' R' M' ∧ eqI [0] I I' ∧ eqR [] R R') := by
  obtain ⟨d, rfl⟩ : ∃ e, d = e + 1 := ⟨d - 1, by omega⟩
  refine mt_in (b := mb_232 g) rfl rfl ?_
  show ml (mT g) d (mb_232 g).2 (0, [(0, .ref m0), (1, .int x1)], [], M) _
  refine ml_blk 2 (S' := (2, [(0, .ref m0), (1, .int x1)], [.int 0, .ref m0], M)) rfl ?_
  refine rp_int rfl hR rfl (fun M11 I12 hR13 e14 f15 => ?_)
  show ml _ _ _ (5, [(0, .ref m0), (1, .int x1)], [], M11) _
  refine ml_st (S' := (6, [(0, .ref m0), (1, .int x1)], [.ref m0], M11)) rfl rfl rfl ?_
  refine rg_int (S' := (9, [(0, .ref m0), (1, .int x1)], [.int kn], M11)) rfl hR13 rfl ((f15 18 (by decide)).trans (hk18)) rfl ?_
  refine ml_if (S1 := (21, [], [], M11)) (S2 := (12, [(0, .ref m0), (1, .int x1)], [], M11)) rfl rfl rfl (fun c_9 => ?_) (fun c_9 => ?_)
  · have c_9 : kn < 0 := of_decide_eq_true c_9
    refine ml_st (S' := (22, [], [.int (-1)], M11)) rfl rfl rfl ?_
    exact ml_ret rfl (rfl) (⟨_, _, _, rfl, hR13, (eqI.rf.put f15 (by decide)), eqR.rf⟩)
  · have c_9 : ¬ (kn < 0) := of_decide_eq_false c_9
    obtain ⟨S, cN, sa, sl, ch, cp, mj, pa, py, hA, fA, mA, aA, nf, ni, kf, km, hF0, hY0, hP0, hE0, hFO, kq54, kq58, kq61, hkf, kq25, hfk, hkm, kq26, hmk, hNW⟩ := hG.resolve_left (c_9)
    have hn := hF0.1
    refine ml_blk 2 (S' := (14, [(0, .ref m0), (1, .int x1)], [.int x1, .ref m0], M11)) rfl ?_
    have hF16 : FK n f I12 R := (hF0.mono (pIx f15 (by decide)) (fun _ _ => rfl))
    have hP17 : PK n f S cp mj pa py I12 R := (hP0.mono (pIx f15 (by decide)) (fun _ _ => rfl))
    refine ml_call (a := [.ref m0, .int x1]) (rest := []) rfl (hR13.okc rfl rfl rfl) rfl rfl (rm_tag hR13 hF16 hP17 (by omega)) (fun v18 M19 h20 => ?_)
    obtain ⟨rfl, h20⟩ := h20
    rw [h20]
    show ml _ _ _ (17, [(0, .ref m0), (1, .int x1)], [.int (tgf f cp pa x1)], M11) _
    refine ml_st (S' := (18, [(0, .ref m0), (1, .int x1)], [.int 1, .int (tgf f cp pa x1)], M11)) rfl rfl rfl ?_
    refine ml_if2 (S1 := (23, [(0, .ref m0), (1, .int x1)], [], M11)) (S2 := (21, [], [], M11)) rfl rfl rfl (fun c_18 => ?_) (fun c_18 => ?_)
    · have c_18 : (tgf f cp pa x1) = 1 := of_decide_eq_true c_18
      have hy := hP0.y (show tgf f cp pa x1 = 1 from c_18)
      have hs0 := hy.2.2.1
      have hs1 := hy.2.2.2
      have hsl9 := hY0.s hs0 hs1
      have hs66 : (sL sl (pyf py x1)).toInt ≤ 66000 := by show (sl (pyf py x1).toNatClampNeg).toInt ≤ 66000; omega
      refine ml_blk 2 (S' := (25, [(0, .ref m0), (1, .int x1)], [.int x1, .ref m0], M11)) rfl ?_
      refine ml_call (a := [.ref m0, .int x1]) (rest := []) rfl (hR13.okc rfl rfl rfl) rfl rfl (rm_symOf hR13 hP17 (c_18) (by omega)) (fun v21 M22 h23 => ?_)
      obtain ⟨rfl, h23⟩ := h23
      rw [h23]
      show ml _ _ _ (28, [(0, .ref m0), (1, .int x1)], [.int (pyf py x1)], M11) _
      refine ml_st (S' := (29, [(2, .int (pyf py x1)), (0, .ref m0), (1, .int x1)], [], M11)) rfl rfl rfl ?_
      refine ml_blk 2 (S' := (31, [(2, .int (pyf py x1)), (0, .ref m0), (1, .int x1)], [.int (pyf py x1), .ref m0], M11)) rfl ?_
      have hY24 : SK S cN sa sl ch I12 R := (hY0.mono (pIx f15 (by decide)) (fun _ _ => rfl))
      refine ml_call (a := [.ref m0, .int (pyf py x1)]) (rest := []) rfl (hR13.okc rfl rfl rfl) rfl rfl (rm_isField hR13 hY24 (hs0) (hs1) (by omega)) (fun v25 M26 h27 => ?_)
      obtain ⟨⟨u28, rfl, z29, w30⟩, h27⟩ := h27
      rw [h27]
      show ml _ _ _ (34, [(2, .int (pyf py x1)), (0, .ref m0), (1, .int x1)], [.int u28], M11) _
      refine ml_if (S1 := (52, [(2, .int (pyf py x1)), (0, .ref m0), (1, .int x1)], [], M11)) (S2 := (37, [(2, .int (pyf py x1)), (0, .ref m0), (1, .int x1)], [], M11)) rfl rfl rfl (fun c_34 => ?_) (fun c_34 => ?_)
      · have c_34 : u28 = 0 := of_decide_eq_true c_34
        refine ml_blk 2 (S' := (54, [(2, .int (pyf py x1)), (0, .ref m0), (1, .int x1)], [.int (pyf py x1), .ref m0], M11)) rfl ?_
        refine ml_call (a := [.ref m0, .int (pyf py x1)]) (rest := []) rfl (hR13.okc rfl rfl rfl) rfl rfl (rm_isMethodX hR13 hY24 (hs0) (hs1) (by omega)) (fun v31 M32 h33 => ?_)
        obtain ⟨⟨u34, rfl, z35, w36⟩, h33⟩ := h33
        rw [h33]
        show ml _ _ _ (57, [(2, .int (pyf py x1)), (0, .ref m0), (1, .int x1)], [.int u34], M11) _
        refine ml_if (S1 := (62, [(2, .int (pyf py x1)), (0, .ref m0), (1, .int x1)], [], M11)) (S2 := (60, [(2, .int (pyf py x1)), (0, .ref m0), (1, .int x1)], [], M11)) rfl rfl rfl (fun c_57 => ?_) (fun c_57 => ?_)
        · have c_57 : ¬ u34 = 0 := of_decide_eq_true c_57
          obtain ⟨hmtx, hagx⟩ := w36.resolve_left c_57
          have hL1 : ((sL sl (pyf py x1)) - 1).toInt = (sL sl (pyf py x1)).toInt - 1 := i_sub (by have : (1 : Int32).toInt = 1 := rfl; have := hmtx.2; omega) (by have : (1 : Int32).toInt = 1 := rfl; have := hmtx.2; omega)
          have hl3 := hmtx.2
          refine ml_blk 2 (S' := (64, [(2, .int (pyf py x1)), (0, .ref m0), (1, .int x1)], [.int (pyf py x1), .ref m0], M11)) rfl ?_
          refine ml_call (a := [.ref m0, .int (pyf py x1)]) (rest := []) rfl (hR13.okc rfl rfl rfl) rfl rfl (rm_length hR13 hY24 (hs0) (hs1) (by omega)) (fun v37 M38 h39 => ?_)
          obtain ⟨rfl, h39⟩ := h39
          rw [h39]
          show ml _ _ _ (67, [(2, .int (pyf py x1)), (0, .ref m0), (1, .int x1)], [.int (sL sl (pyf py x1))], M11) _
          refine ml_blk 2 (S' := (69, [(2, .int (pyf py x1)), (0, .ref m0), (1, .int x1)], [.int ((sL sl (pyf py x1)) - 1)], M11)) rfl ?_
          refine ml_st (S' := (70, [(3, .int ((sL sl (pyf py x1)) - 1)), (2, .int (pyf py x1)), (0, .ref m0), (1, .int x1)], [], M11)) rfl rfl rfl ?_
          refine ml_st (S' := (71, [(3, .int ((sL sl (pyf py x1)) - 1)), (2, .int (pyf py x1)), (0, .ref m0), (1, .int x1)], [.int 1], M11)) rfl rfl rfl ?_
          refine ml_st (S' := (73, [(0, .ref m0), (2, .int (pyf py x1)), (3, .int ((sL sl (pyf py x1)) - 1)), (4, .int 1)], [], M11)) rfl rfl rfl ?_
          have L_73 : ∀ (n_73 : Nat) (i73_4 : Int32), (2147483648 - i73_4.toInt).toNat ≤ n_73 → (AGX (tx sa ch (pyf py x1)) (sL sl (pyf py x1)) i73_4) → ml (mT g) d (mb_232 g).2 (73, [(0, .ref m0), (2, .int (pyf py x1)), (3, .int ((sL sl (pyf py x1)) - 1)), (4, .int i73_4)], [], M11) (fun v M' => ∃ (x : Int32) (I' : rI) (R' : rR), v = some (.int x) ∧ RS g m0 q z I' R' M' ∧ eqI [0] I I' ∧ eqR [] R R') := by
            intro n_73
            induction n_73 with
            | zero => intro i73_4 hn; exact (loop_zero hn).elim
            | succ n_73 ih_73 =>
              intro i73_4 hn_73 hi_73
              have hb := hi_73.w.at
              refine ml_blk 3 (S' := (77, [(0, .ref m0), (2, .int (pyf py x1)), (3, .int ((sL sl (pyf py x1)) - 1)), (4, .int i73_4)], [.int i73_4, .int (pyf py x1), .ref m0], M11)) rfl ?_
              refine ml_call (a := [.ref m0, .int (pyf py x1), .int i73_4]) (rest := []) rfl (hR13.okc rfl rfl rfl) rfl rfl (rm_at hR13 hY24 (hs0) (hs1) (hb.1) (hb.2) (by omega)) (fun v40 M41 h42 => ?_)
              obtain ⟨rfl, h42⟩ := h42
              rw [h42]
              show ml _ _ _ (80, [(0, .ref m0), (2, .int (pyf py x1)), (3, .int ((sL sl (pyf py x1)) - 1)), (4, .int i73_4)], [.int (tx sa ch (pyf py x1) i73_4)], M11) _
              refine ml_st (S' := (82, [(0, .ref m0), (2, .int (pyf py x1)), (3, .int ((sL sl (pyf py x1)) - 1)), (4, .int i73_4)], [.int 41, .int (tx sa ch (pyf py x1) i73_4)], M11)) rfl rfl rfl ?_
              refine ml_if2 (S1 := (97, [(0, .ref m0), (2, .int (pyf py x1)), (3, .int ((sL sl (pyf py x1)) - 1)), (4, .int i73_4)], [], M11)) (S2 := (85, [(0, .ref m0), (2, .int (pyf py x1)), (3, .int ((sL sl (pyf py x1)) - 1)), (4, .int i73_4)], [], M11)) rfl rfl rfl (fun c_82 => ?_) (fun c_82 => ?_)
              · have c_82 : (tx sa ch (pyf py x1) i73_4) = 41 := of_decide_eq_true c_82
                have hz := hi_73.end c_82
                have er : (i73_4 + 1).toInt = i73_4.toInt + 1 := i_add (by have : (1 : Int32).toInt = 1 := rfl; omega) (by have : (1 : Int32).toInt = 1 := rfl; omega)
                refine ml_blk 2 (S' := (99, [(0, .ref m0), (2, .int (pyf py x1)), (3, .int ((sL sl (pyf py x1)) - 1)), (4, .int i73_4)], [.int (pyf py x1), .ref m0], M11)) rfl ?_
                refine ml_call (a := [.ref m0, .int (pyf py x1)]) (rest := []) rfl (hR13.okc rfl rfl rfl) rfl rfl (rm_places0 hR13 hY24 (hs0) (hs1) (hmtx.1) (by omega)) (fun v43 M44 h45 => ?_)
                obtain ⟨⟨u46, rfl⟩, h45⟩ := h45
                rw [h45]
                show ml _ _ _ (102, [(0, .ref m0), (2, .int (pyf py x1)), (3, .int ((sL sl (pyf py x1)) - 1)), (4, .int i73_4)], [.int u46], M11) _
                refine ml_blk 3 (S' := (107, [(0, .ref m0), (2, .int (pyf py x1)), (3, .int ((sL sl (pyf py x1)) - 1)), (4, .int i73_4)], [.int (pyf py x1), .ref m0, .int 1024, .int u46], M11)) rfl ?_
                refine ml_st (S' := (108, [(0, .ref m0), (2, .int (pyf py x1)), (3, .int ((sL sl (pyf py x1)) - 1)), (4, .int i73_4)], [.int ((sL sl (pyf py x1)) - 1), .int (pyf py x1), .ref m0, .int 1024, .int u46], M11)) rfl rfl rfl ?_
                refine ml_call (a := [.ref m0, .int (pyf py x1), .int ((sL sl (pyf py x1)) - 1)]) (rest := [.int 1024, .int u46]) rfl (hR13.okc rfl rfl rfl) rfl rfl (rm_at hR13 hY24 (hs0) (hs1) (by omega) (by omega) (by omega)) (fun v47 M48 h49 => ?_)
                obtain ⟨rfl, h49⟩ := h49
                rw [h49]
                show ml _ _ _ (111, [(0, .ref m0), (2, .int (pyf py x1)), (3, .int ((sL sl (pyf py x1)) - 1)), (4, .int i73_4)], [.int (tx sa ch (pyf py x1) ((sL sl (pyf py x1)) - 1)), .int 1024, .int u46], M11) _
                refine ml_st (S' := (113, [(0, .ref m0), (2, .int (pyf py x1)), (3, .int ((sL sl (pyf py x1)) - 1)), (4, .int i73_4)], [.int 86, .int (tx sa ch (pyf py x1) ((sL sl (pyf py x1)) - 1)), .int 1024, .int u46], M11)) rfl rfl rfl ?_
                refine ml_if2 (S1 := (128, [(0, .ref m0), (2, .int (pyf py x1)), (4, .int i73_4)], [.int 1024, .int u46], M11)) (S2 := (116, [(0, .ref m0), (2, .int (pyf py x1)), (3, .int ((sL sl (pyf py x1)) - 1)), (4, .int i73_4)], [.int 1024, .int u46], M11)) rfl rfl rfl (fun c_113 => ?_) (fun c_113 => ?_)
                · have c_113 : ¬ (tx sa ch (pyf py x1) ((sL sl (pyf py x1)) - 1)) = 86 := of_decide_eq_true c_113
                  refine ml_blk 3 (S' := (132, [(0, .ref m0), (2, .int (pyf py x1)), (4, .int i73_4)], [.int i73_4, .int (pyf py x1), .ref m0, .int 1024, .int u46], M11)) rfl ?_
                  refine ml_blk 2 (S' := (134, [(0, .ref m0), (2, .int (pyf py x1)), (4, .int i73_4)], [.int (i73_4 + 1), .int (pyf py x1), .ref m0, .int 1024, .int u46], M11)) rfl ?_
                  refine ml_call (a := [.ref m0, .int (pyf py x1), .int (i73_4 + 1)]) (rest := [.int 1024, .int u46]) rfl (hR13.okc rfl rfl rfl) rfl rfl (rm_wide hR13 hY24 (hs0) (hs1) (by omega) (by omega) (by omega)) (fun v50 M51 h52 => ?_)
                  obtain ⟨⟨u53, rfl, z54⟩, h52⟩ := h52
                  rw [h52]
                  show ml _ _ _ (137, [(0, .ref m0), (2, .int (pyf py x1)), (4, .int i73_4)], [.int u53, .int 1024, .int u46], M11) _
                  refine ml_if (S1 := (144, [(0, .ref m0), (2, .int (pyf py x1)), (4, .int i73_4)], [.int 1024, .int u46], M11)) (S2 := (140, [(0, .ref m0), (2, .int (pyf py x1)), (4, .int i73_4)], [.int 1024, .int u46], M11)) rfl rfl rfl (fun c_137 => ?_) (fun c_137 => ?_)
                  · have c_137 : u53 = 0 := of_decide_eq_true c_137
                    refine ml_st (S' := (145, [], [.int 1, .int 1024, .int u46], M11)) rfl rfl rfl ?_
                    refine ml_blk 2 (S' := (147, [], [.int (u46 + (1024 * 1))], M11)) rfl ?_
                    exact ml_ret rfl (rfl) (⟨_, _, _, rfl, hR13, (eqI.rf.put f15 (by decide)), eqR.rf⟩)
                  · have c_137 : ¬ (u53 = 0) := of_decide_eq_false c_137
                    refine ml_st (S' := (141, [(0, .ref m0), (2, .int (pyf py x1)), (4, .int i73_4)], [.int 2, .int 1024, .int u46], M11)) rfl rfl rfl ?_
                    refine ml_st (S' := (145, [], [.int 2, .int 1024, .int u46], M11)) rfl rfl rfl ?_
                    refine ml_blk 2 (S' := (147, [], [.int (u46 + (1024 * 2))], M11)) rfl ?_
                    exact ml_ret rfl (rfl) (⟨_, _, _, rfl, hR13, (eqI.rf.put f15 (by decide)), eqR.rf⟩)
                · have c_113 : ¬ (¬ (tx sa ch (pyf py x1) ((sL sl (pyf py x1)) - 1)) = 86) := of_decide_eq_false c_113
                  refine ml_blk 3 (S' := (120, [(0, .ref m0), (2, .int (pyf py x1)), (3, .int ((sL sl (pyf py x1)) - 1)), (4, .int i73_4)], [.int 1, .int i73_4, .int ((sL sl (pyf py x1)) - 1), .int 1024, .int u46], M11)) rfl ?_
                  refine ml_st (S' := (121, [(0, .ref m0), (2, .int (pyf py x1)), (3, .int ((sL sl (pyf py x1)) - 1)), (4, .int i73_4)], [.int (i73_4 + 1), .int ((sL sl (pyf py x1)) - 1), .int 1024, .int u46], M11)) rfl rfl rfl ?_
                  refine ml_if2 (S1 := (128, [(0, .ref m0), (2, .int (pyf py x1)), (4, .int i73_4)], [.int 1024, .int u46], M11)) (S2 := (124, [(0, .ref m0), (2, .int (pyf py x1)), (3, .int ((sL sl (pyf py x1)) - 1)), (4, .int i73_4)], [.int 1024, .int u46], M11)) rfl rfl rfl (fun c_121 => ?_) (fun c_121 => ?_)
                  · have c_121 : ¬ ((sL sl (pyf py x1)) - 1) = (i73_4 + 1) := of_decide_eq_true c_121
                    refine ml_blk 3 (S' := (132, [(0, .ref m0), (2, .int (pyf py x1)), (4, .int i73_4)], [.int i73_4, .int (pyf py x1), .ref m0, .int 1024, .int u46], M11)) rfl ?_
                    refine ml_blk 2 (S' := (134, [(0, .ref m0), (2, .int (pyf py x1)), (4, .int i73_4)], [.int (i73_4 + 1), .int (pyf py x1), .ref m0, .int 1024, .int u46], M11)) rfl ?_
                    refine ml_call (a := [.ref m0, .int (pyf py x1), .int (i73_4 + 1)]) (rest := [.int 1024, .int u46]) rfl (hR13.okc rfl rfl rfl) rfl rfl (rm_wide hR13 hY24 (hs0) (hs1) (by omega) (by omega) (by omega)) (fun v55 M56 h57 => ?_)
                    obtain ⟨⟨u58, rfl, z59⟩, h57⟩ := h57
                    rw [h57]
                    show ml _ _ _ (137, [(0, .ref m0), (2, .int (pyf py x1)), (4, .int i73_4)], [.int u58, .int 1024, .int u46], M11) _
                    refine ml_if (S1 := (144, [(0, .ref m0), (2, .int (pyf py x1)), (4, .int i73_4)], [.int 1024, .int u46], M11)) (S2 := (140, [(0, .ref m0), (2, .int (pyf py x1)), (4, .int i73_4)], [.int 1024, .int u46], M11)) rfl rfl rfl (fun c_137 => ?_) (fun c_137 => ?_)
                    · have c_137 : u58 = 0 := of_decide_eq_true c_137
                      refine ml_st (S' := (145, [], [.int 1, .int 1024, .int u46], M11)) rfl rfl rfl ?_
                      refine ml_blk 2 (S' := (147, [], [.int (u46 + (1024 * 1))], M11)) rfl ?_
                      exact ml_ret rfl (rfl) (⟨_, _, _, rfl, hR13, (eqI.rf.put f15 (by decide)), eqR.rf⟩)
                    · have c_137 : ¬ (u58 = 0) := of_decide_eq_false c_137
                      refine ml_st (S' := (141, [(0, .ref m0), (2, .int (pyf py x1)), (4, .int i73_4)], [.int 2, .int 1024, .int u46], M11)) rfl rfl rfl ?_
                      refine ml_st (S' := (145, [], [.int 2, .int 1024, .int u46], M11)) rfl rfl rfl ?_
                      refine ml_blk 2 (S' := (147, [], [.int (u46 + (1024 * 2))], M11)) rfl ?_
                      exact ml_ret rfl (rfl) (⟨_, _, _, rfl, hR13, (eqI.rf.put f15 (by decide)), eqR.rf⟩)
                  · have c_121 : ¬ (¬ ((sL sl (pyf py x1)) - 1) = (i73_4 + 1)) := of_decide_eq_false c_121
                    refine ml_st (S' := (125, [(0, .ref m0), (2, .int (pyf py x1)), (3, .int ((sL sl (pyf py x1)) - 1)), (4, .int i73_4)], [.int 0, .int 1024, .int u46], M11)) rfl rfl rfl ?_
                    refine ml_st (S' := (145, [], [.int 0, .int 1024, .int u46], M11)) rfl rfl rfl ?_
                    refine ml_blk 2 (S' := (147, [], [.int (u46 + (1024 * 0))], M11)) rfl ?_
                    exact ml_ret rfl (rfl) (⟨_, _, _, rfl, hR13, (eqI.rf.put f15 (by decide)), eqR.rf⟩)
              · have c_82 : ¬ ((tx sa ch (pyf py x1) i73_4) = 41) := of_decide_eq_false c_82
                refine ml_blk 3 (S' := (89, [(0, .ref m0), (2, .int (pyf py x1)), (3, .int ((sL sl (pyf py x1)) - 1)), (4, .int i73_4)], [.int i73_4, .int (pyf py x1), .ref m0], M11)) rfl ?_
                refine ml_call (a := [.ref m0, .int (pyf py x1), .int i73_4]) (rest := []) rfl (hR13.okc rfl rfl rfl) rfl rfl (rm_fieldText hR13 hY24 (hs0) (hs1) (hb.1) (by omega) (by omega)) (fun v60 M61 h62 => ?_)
                obtain ⟨rfl, h62⟩ := h62
                rw [h62]
                show ml _ _ _ (92, [(0, .ref m0), (2, .int (pyf py x1)), (3, .int ((sL sl (pyf py x1)) - 1)), (4, .int i73_4)], [.int (FTx (tx sa ch (pyf py x1)) (sL sl (pyf py x1)) i73_4)], M11) _
                refine ml_st (S' := (94, [(4, .int (FTx (tx sa ch (pyf py x1)) (sL sl (pyf py x1)) i73_4)), (0, .ref m0), (2, .int (pyf py x1)), (3, .int ((sL sl (pyf py x1)) - 1))], [], M11)) rfl rfl rfl ?_
                refine ml_st (S' := (73, [(0, .ref m0), (2, .int (pyf py x1)), (3, .int ((sL sl (pyf py x1)) - 1)), (4, .int (FTx (tx sa ch (pyf py x1)) (sL sl (pyf py x1)) i73_4))], [], M11)) rfl rfl rfl ?_
                exact ih_73 (FTx (tx sa ch (pyf py x1)) (sL sl (pyf py x1)) i73_4) (by have := (hi_73.next c_82).1; omega) ((hi_73.next c_82).2)
          exact L_73 _ 1 (Nat.le_refl _) (hagx)
        · have c_57 : ¬ (¬ u34 = 0) := of_decide_eq_false c_57
          refine ml_st (S' := (61, [(2, .int (pyf py x1)), (0, .ref m0), (1, .int x1)], [.int (-1)], M11)) rfl rfl rfl ?_
          exact ml_ret rfl (rfl) (⟨_, _, _, rfl, hR13, (eqI.rf.put f15 (by decide)), eqR.rf⟩)
      · have c_34 : ¬ (u28 = 0) := of_decide_eq_false c_34
        have hif := w30.resolve_left c_34
        refine ml_blk 3 (S' := (40, [(2, .int (pyf py x1)), (0, .ref m0), (1, .int x1)], [.int 0, .int (pyf py x1), .ref m0], M11)) rfl ?_
        refine ml_call (a := [.ref m0, .int (pyf py x1), .int 0]) (rest := []) rfl (hR13.okc rfl rfl rfl) rfl rfl (rm_wide hR13 hY24 (hs0) (hs1) (by decide) (by have : (0 : Int32).toInt = 0 := rfl; omega) (by omega)) (fun v63 M64 h65 => ?_)
        obtain ⟨⟨u66, rfl, z67⟩, h65⟩ := h65
        rw [h65]
        show ml _ _ _ (43, [(2, .int (pyf py x1)), (0, .ref m0), (1, .int x1)], [.int u66], M11) _
        refine ml_if (S1 := (50, [(2, .int (pyf py x1)), (0, .ref m0), (1, .int x1)], [], M11)) (S2 := (46, [(2, .int (pyf py x1)), (0, .ref m0), (1, .int x1)], [], M11)) rfl rfl rfl (fun c_43 => ?_) (fun c_43 => ?_)
        · have c_43 : u66 = 0 := of_decide_eq_true c_43
          refine ml_st (S' := (51, [], [.int 1], M11)) rfl rfl rfl ?_
          exact ml_ret rfl (rfl) (⟨_, _, _, rfl, hR13, (eqI.rf.put f15 (by decide)), eqR.rf⟩)
        · have c_43 : ¬ (u66 = 0) := of_decide_eq_false c_43
          refine ml_st (S' := (47, [(2, .int (pyf py x1)), (0, .ref m0), (1, .int x1)], [.int 2], M11)) rfl rfl rfl ?_
          refine ml_st (S' := (51, [], [.int 2], M11)) rfl rfl rfl ?_
          exact ml_ret rfl (rfl) (⟨_, _, _, rfl, hR13, (eqI.rf.put f15 (by decide)), eqR.rf⟩)
    · have c_18 : ¬ ((tgf f cp pa x1) = 1) := of_decide_eq_false c_18
      refine ml_st (S' := (22, [], [.int (-1)], M11)) rfl rfl rfl ?_
      exact ml_ret rfl (rfl) (⟨_, _, _, rfl, hR13, (eqI.rf.put f15 (by decide)), eqR.rf⟩)
set_option maxHeartbeats 2000000 in
theorem rm_four {g : xe_G}  {m0 : Nat} {q : Nat → Nat} {z : Nat × Nat} {I : rI} {R : rR} {M : mi_H} {x1 : Int32} {cc : Nat}  (hR : RS g m0 q z I R M) (hk19 : I 19 = some (nI cc)) (hcc : cc + 4 ≤ 65540) (hkb0 : KB 15 cc R) {d : Nat} (hd : 1 ≤ d) : mt (mT g) d 211 [.ref m0, .int x1] M (fun v M' => v = none ∧ ∃ (I' : rI) (R' : rR), RS g m0 q z I' R' M' ∧ eqI [19] I I' ∧ eqR [15] R R' ∧ (I' 19 = some (nI (cc + 4)) ∧ KB 15 (cc + 4) R')) := by
  obtain ⟨d, rfl⟩ : ∃ e, d = e + 1 := ⟨d - 1, by omega⟩
  refine mt_in (b := mb_211 g) rfl rfl ?_
  show ml (mT g) d (mb_211 g).2 (0, [(0, .ref m0), (1, .int x1)], [], M) _
  refine ml_st (S' := (2, [(0, .ref m0), (1, .int x1)], [.int 24], M)) rfl rfl rfl ?_
  refine ml_st (S' := (3, [(0, .ref m0), (1, .int x1), (2, .int 24)], [], M)) rfl rfl rfl ?_
  have L_3 : ∀ (n_3 : Nat) (i3_2 : Int32) (j : Nat) (M_3 : mi_H) (I_3 : rI) (R_3 : rR), (i3_2.toInt + 9).toNat ≤ n_3 → RS g m0 q z I_3 R_3 M_3 → eqI [19] I I_3 → eqR [15] R R_3 → (j ≤ 4 ∧ i3_2.toInt = 24 - 8 * (j : Int) ∧ I_3 19 = some (nI (cc + j)) ∧ KB 15 (cc + j) R_3) → ml (mT g) d (mb_211 g).2 (3, [(0, .ref m0), (1, .int x1), (2, .int i3_2)], [], M_3) (fun v M' => v = none ∧ ∃ (I' : rI) (R' : rR), RS g m0 q z I' R' M' ∧ eqI [19] I I' ∧ eqR [15] R R' ∧ (I' 19 = some (nI (cc + 4)) ∧ KB 15 (cc + 4) R')) := by
    intro n_3
    induction n_3 with
    | zero => intro i3_2 j M_3 I_3 R_3 hn hR_3 hI_3 hV_3 hi; exact absurd hn (by obtain ⟨a1, a2, -⟩ := hi; omega)
    | succ n_3 ih_3 =>
      intro i3_2 j M_3 I_3 R_3 hn_3 hR_3 hI_3 hV_3 hi_3
      obtain ⟨hj4, hji, h19, hkb⟩ := hi_3
      refine ml_st (S' := (4, [(0, .ref m0), (1, .int x1), (2, .int i3_2)], [.int i3_2], M_3)) rfl rfl rfl ?_
      refine ml_if (S1 := (33, [(0, .ref m0), (1, .int x1), (2, .int i3_2)], [], M_3)) (S2 := (7, [(0, .ref m0), (1, .int x1), (2, .int i3_2)], [], M_3)) rfl rfl rfl (fun c_4 => ?_) (fun c_4 => ?_)
      · have c_4 : i3_2 < 0 := of_decide_eq_true c_4
        exact ml_ret rfl (rfl) (⟨rfl, _, _, hR_3, (eqI.rf.tr hI_3 (by decide)), (eqR.rf.tr hV_3 (by decide)), ⟨by have hx : j = 4 := (by have := i_lt c_4; have : (0 : Int32).toInt = 0 := rfl; omega); subst hx; exact h19, by have hx : j = 4 := (by have := i_lt c_4; have : (0 : Int32).toInt = 0 := rfl; omega); subst hx; exact hkb⟩⟩)
      · have c_4 : ¬ (i3_2 < 0) := of_decide_eq_false c_4
        have h8 : 0 ≤ i3_2.toInt := by have := i_nlt c_4; have : (0 : Int32).toInt = 0 := rfl; omega
        have hN := nI_s1 (c := cc + j) (by omega)
        have hv : (nI (cc + j)).toInt = ((cc + j : Nat) : Int) := nI_val (by omega)
        refine ml_st (S' := (8, [(0, .ref m0), (1, .int x1), (2, .int i3_2)], [.ref m0], M_3)) rfl rfl rfl ?_
        refine rg_ref (S' := (11, [(0, .ref m0), (1, .int x1), (2, .int i3_2)], [.ref (q 15)], M_3)) rfl hR_3 rfl rfl ?_
        refine ml_blk 2 (S' := (13, [(0, .ref m0), (1, .int x1), (2, .int i3_2)], [.ref m0, .ref m0, .ref (q 15)], M_3)) rfl ?_
        refine rg_int (S' := (16, [(0, .ref m0), (1, .int x1), (2, .int i3_2)], [.int (nI (cc + j)), .ref m0, .ref (q 15)], M_3)) rfl hR_3 rfl (h19) rfl ?_
        refine ml_blk 3 (S' := (19, [(0, .ref m0), (1, .int x1), (2, .int i3_2)], [.int ((nI (cc + j)) + 1), .ref m0, .int (nI (cc + j)), .ref (q 15)], M_3)) rfl ?_
        refine rp_int rfl hR_3 rfl (fun M11 I12 hR13 e14 f15 => ?_)
        show ml _ _ _ (22, [(0, .ref m0), (1, .int x1), (2, .int i3_2)], [.int (nI (cc + j)), .ref (q 15)], M11) _
        refine ml_blk 3 (S' := (25, [(0, .ref m0), (1, .int x1), (2, .int i3_2)], [.int (((Int32.toUInt32 x1) >>> ((Int32.toUInt32 i3_2) &&& Int32.toUInt32 31)).toInt32), .int (nI (cc + j)), .ref (q 15)], M11)) rfl ?_
        refine ml_st (S' := (26, [(0, .ref m0), (1, .int x1), (2, .int i3_2)], [.int ((((Int32.toUInt32 x1) >>> ((Int32.toUInt32 i3_2) &&& Int32.toUInt32 31)).toInt32).toInt8.toInt32), .int (nI (cc + j)), .ref (q 15)], M11)) rfl rfl rfl ?_
        refine ra_st (k := 15) rfl hR13 rfl (vin_lt (by omega) (by omega)) (fun M16 R17 hR18 e19 g20 f21 => ?_)
        show ml _ _ _ (27, [(0, .ref m0), (1, .int x1), (2, .int i3_2)], [], M16) _
        refine ml_st (S' := (30, [(2, .int (i3_2 + (-8))), (0, .ref m0), (1, .int x1)], [], M16)) rfl rfl rfl ?_
        refine ml_st (S' := (3, [(0, .ref m0), (1, .int x1), (2, .int (i3_2 + (-8)))], [], M16)) rfl rfl rfl ?_
        exact ih_3 (i3_2 + (-8)) (j + 1) _ _ _ (by rw [i_add (by have : (-8 : Int32).toInt = -8 := rfl; omega) (by have : (-8 : Int32).toInt = -8 := rfl; omega)]; have : (-8 : Int32).toInt = -8 := rfl; omega) hR18 ((eqI.rf.tr hI_3 (by decide)).put f15 (by decide)) ((eqR.rf.tr hV_3 (by decide)).put f21 (by decide)) (⟨by omega, by rw [i_add (by have : (-8 : Int32).toInt = -8 := rfl; omega) (by have : (-8 : Int32).toInt = -8 := rfl; omega)]; have : (-8 : Int32).toInt = -8 := rfl; omega, by rw [← Nat.add_assoc, ← hN]; exact e14, by rw [← Nat.add_assoc]; exact (hkb).put hv e19 g20⟩)
  exact L_3 _ 24 0 _ _ _ (Nat.le_refl _) hR eqI.rf eqR.rf (⟨by omega, by decide, hk19, hkb0⟩)
end
section
/-! the reference: feed, end (laid by wip/p2/c74.py) -/
theorem feed_ok {cc : Nat} (h : cc + 20 ≤ 65540) : nI cc + 20 ≤ (65540 : Int32) := by
  apply Int32.le_iff_toInt_le.mpr
  have e1 : (20 : Int32).toInt = 20 := rfl
  have e2 : (65540 : Int32).toInt = 65540 := rfl
  rw [i_add (by rw [nI_val (by omega)]; omega) (by rw [nI_val (by omega)]; omega), nI_val (by omega), e1, e2]
  omega

set_option maxHeartbeats 2000000 in
theorem rm_feed {g : xe_G}  {m0 : Nat} {q : Nat → Nat} {z : Nat × Nat} {I : rI} {R : rR} {M : mi_H} {x1 x2 x3 x4 x5 : Int32} {cc : Nat}  (hR : RS g m0 q z I R M) (hk19 : I 19 = some (nI cc)) (hcc : cc + 20 ≤ 65540) (hkb0 : KB 15 cc R) {d : Nat} (hd : 2 ≤ d) : mt (mT g) d 205 [.ref m0, .int x1, .int x2, .int x3, .int x4, .int x5] M (fun v M' => ∃ (x : Int32) (I' : rI) (R' : rR), v = some (.int x) ∧ RS g m0 q z I' R' M' ∧ eqI [0, 19] I I' ∧ eqR [15] R R' ∧ (x = nI (cc + 4 + 4 + 4 + 4 + 4) ∧ I' 0 = some 0 ∧ I' 19 = some (nI (cc + 4 + 4 + 4 + 4 + 4)) ∧ KB 15 (cc + 4 + 4 + 4 + 4 + 4) R')) := by
  obtain ⟨d, rfl⟩ : ∃ e, d = e + 1 := ⟨d - 1, by omega⟩
  refine mt_in (b := mb_205 g) rfl rfl ?_
  show ml (mT g) d (mb_205 g).2 (0, [(0, .ref m0), (1, .int x1), (2, .int x2), (3, .int x3), (4, .int x4), (5, .int x5)], [], M) _
  refine ml_blk 2 (S' := (2, [(0, .ref m0), (1, .int x1), (2, .int x2), (3, .int x3), (4, .int x4), (5, .int x5)], [.int 0, .ref m0], M)) rfl ?_
  refine rp_int rfl hR rfl (fun M11 I12 hR13 e14 f15 => ?_)
  show ml _ _ _ (5, [(0, .ref m0), (1, .int x1), (2, .int x2), (3, .int x3), (4, .int x4), (5, .int x5)], [], M11) _
  refine ml_st (S' := (6, [(0, .ref m0), (1, .int x1), (2, .int x2), (3, .int x3), (4, .int x4), (5, .int x5)], [.ref m0], M11)) rfl rfl rfl ?_
  refine rg_int (S' := (9, [(0, .ref m0), (1, .int x1), (2, .int x2), (3, .int x3), (4, .int x4), (5, .int x5)], [.int (nI cc)], M11)) rfl hR13 rfl ((f15 19 (by decide)).trans (hk19)) rfl ?_
  refine ml_blk 3 (S' := (14, [(0, .ref m0), (1, .int x1), (2, .int x2), (3, .int x3), (4, .int x4), (5, .int x5)], [.int 65540, .int ((nI cc) + 20)], M11)) rfl ?_
  refine ml_if2 (S1 := (24, [(0, .ref m0), (1, .int x1), (2, .int x2), (3, .int x3), (4, .int x4), (5, .int x5)], [], M11)) (S2 := (17, [(0, .ref m0), (1, .int x1), (2, .int x2), (3, .int x3), (4, .int x4), (5, .int x5)], [], M11)) rfl rfl rfl (fun c_14 => ?_) (fun c_14 => ?_)
  rotate_left
  · exact absurd (feed_ok hcc) (of_decide_eq_false c_14)
  refine ml_blk 2 (S' := (26, [(0, .ref m0), (1, .int x1), (2, .int x2), (3, .int x3), (4, .int x4), (5, .int x5)], [.int x1, .ref m0], M11)) rfl ?_
  refine ml_call (a := [.ref m0, .int x1]) (rest := []) rfl (hR13.okc rfl rfl rfl) rfl rfl (rm_four hR13 ((f15 19 (by decide)).trans (hk19)) (by omega) (hkb0) (by omega)) (fun v16 M17 h18 => ?_)
  obtain ⟨rfl, I19, R20, hR21, hI22, hV23, w25⟩ := h18
  show ml _ _ _ (29, [(0, .ref m0), (1, .int x1), (2, .int x2), (3, .int x3), (4, .int x4), (5, .int x5)], [], M17) _
  obtain ⟨hc1, hb1⟩ := w25
  refine ml_blk 2 (S' := (31, [(0, .ref m0), (1, .int x1), (2, .int x2), (3, .int x3), (4, .int x4), (5, .int x5)], [.int x2, .ref m0], M17)) rfl ?_
  refine ml_call (a := [.ref m0, .int x2]) (rest := []) rfl (hR21.okc rfl rfl rfl) rfl rfl (rm_four hR21 (hc1) (by omega) (hb1) (by omega)) (fun v26 M27 h28 => ?_)
  obtain ⟨rfl, I29, R30, hR31, hI32, hV33, w35⟩ := h28
  show ml _ _ _ (34, [(0, .ref m0), (1, .int x1), (2, .int x2), (3, .int x3), (4, .int x4), (5, .int x5)], [], M27) _
  obtain ⟨hc2, hb2⟩ := w35
  refine ml_blk 2 (S' := (36, [(0, .ref m0), (1, .int x1), (2, .int x2), (3, .int x3), (4, .int x4), (5, .int x5)], [.int x3, .ref m0], M27)) rfl ?_
  refine ml_call (a := [.ref m0, .int x3]) (rest := []) rfl (hR31.okc rfl rfl rfl) rfl rfl (rm_four hR31 (hc2) (by omega) (hb2) (by omega)) (fun v36 M37 h38 => ?_)
  obtain ⟨rfl, I39, R40, hR41, hI42, hV43, w45⟩ := h38
  show ml _ _ _ (39, [(0, .ref m0), (1, .int x1), (2, .int x2), (3, .int x3), (4, .int x4), (5, .int x5)], [], M37) _
  obtain ⟨hc3, hb3⟩ := w45
  refine ml_blk 2 (S' := (42, [(0, .ref m0), (1, .int x1), (2, .int x2), (3, .int x3), (4, .int x4), (5, .int x5)], [.int x4, .ref m0], M37)) rfl ?_
  refine ml_call (a := [.ref m0, .int x4]) (rest := []) rfl (hR41.okc rfl rfl rfl) rfl rfl (rm_four hR41 (hc3) (by omega) (hb3) (by omega)) (fun v46 M47 h48 => ?_)
  obtain ⟨rfl, I49, R50, hR51, hI52, hV53, w55⟩ := h48
  show ml _ _ _ (45, [(0, .ref m0), (1, .int x1), (2, .int x2), (3, .int x3), (4, .int x4), (5, .int x5)], [], M47) _
  obtain ⟨hc4, hb4⟩ := w55
  refine ml_blk 2 (S' := (48, [(0, .ref m0), (1, .int x1), (2, .int x2), (3, .int x3), (4, .int x4), (5, .int x5)], [.int x5, .ref m0], M47)) rfl ?_
  refine ml_call (a := [.ref m0, .int x5]) (rest := []) rfl (hR51.okc rfl rfl rfl) rfl rfl (rm_four hR51 (hc4) (by omega) (hb4) (by omega)) (fun v56 M57 h58 => ?_)
  obtain ⟨rfl, I59, R60, hR61, hI62, hV63, w65⟩ := h58
  show ml _ _ _ (51, [(0, .ref m0), (1, .int x1), (2, .int x2), (3, .int x3), (4, .int x4), (5, .int x5)], [], M57) _
  obtain ⟨hc5, hb5⟩ := w65
  refine ml_st (S' := (52, [(0, .ref m0), (1, .int x1), (2, .int x2), (3, .int x3), (4, .int x4), (5, .int x5)], [.ref m0], M57)) rfl rfl rfl ?_
  refine rg_int (S' := (55, [(0, .ref m0), (1, .int x1), (2, .int x2), (3, .int x3), (4, .int x4), (5, .int x5)], [.int (nI (cc + 4 + 4 + 4 + 4 + 4))], M57)) rfl hR61 rfl (hc5) rfl ?_
  exact ml_ret rfl (rfl) (⟨_, _, _, rfl, hR61, ((((((eqI.rf.put f15 (by decide)).tr hI22 (by decide)).tr hI32 (by decide)).tr hI42 (by decide)).tr hI52 (by decide)).tr hI62 (by decide)), (((((eqR.rf.tr hV23 (by decide)).tr hV33 (by decide)).tr hV43 (by decide)).tr hV53 (by decide)).tr hV63 (by decide)), ⟨rfl, (hI62 0 (by decide)).trans ((hI52 0 (by decide)).trans ((hI42 0 (by decide)).trans ((hI32 0 (by decide)).trans ((hI22 0 (by decide)).trans (e14))))), hc5, hb5⟩⟩)
set_option maxHeartbeats 2000000 in
theorem rm_end {g : xe_G}  {m0 : Nat} {q : Nat → Nat} {z : Nat × Nat} {I : rI} {R : rR} {M : mi_H} {x1 : Int32} {cc : Nat}  (hR : RS g m0 q z I R M) (hk19 : I 19 = some (nI cc)) (hcc : cc ≤ 65540) (hkb0 : KB 15 cc R) {d : Nat} (hd : 2 ≤ d) : mt (mT g) d 202 [.ref m0, .int x1] M (fun v M' => ∃ (x : Int32) (I' : rI) (R' : rR), v = some (.int x) ∧ RS g m0 q z I' R' M' ∧ eqI [0, 17, 19] I I' ∧ eqR [13] R R' ∧ ((¬ (0 ≤ x1.toInt ∧ x1.toInt ≤ cc) ∧ I' 0 = some 1 ∧ I' 17 = I 17 ∧ I' 19 = I 19 ∧ R' 13 = R 13) ∨ (0 ≤ x1.toInt ∧ x1.toInt ≤ cc ∧ x = x1 ∧ I' 0 = some 0 ∧ I' 17 = some x1 ∧ I' 19 = some 0 ∧ KB 13 x1.toInt.toNat R'))) := by
  obtain ⟨d, rfl⟩ : ∃ e, d = e + 1 := ⟨d - 1, by omega⟩
  refine mt_in (b := mb_202 g) rfl rfl ?_
  show ml (mT g) d (mb_202 g).2 (0, [(0, .ref m0), (1, .int x1)], [], M) _
  refine ml_blk 2 (S' := (2, [(0, .ref m0), (1, .int x1)], [.int 0, .ref m0], M)) rfl ?_
  refine rp_int rfl hR rfl (fun M11 I12 hR13 e14 f15 => ?_)
  show ml _ _ _ (5, [(0, .ref m0), (1, .int x1)], [], M11) _
  refine ml_st (S' := (6, [(0, .ref m0), (1, .int x1)], [.int x1], M11)) rfl rfl rfl ?_
  refine ml_if (S1 := (17, [(0, .ref m0)], [], M11)) (S2 := (9, [(0, .ref m0), (1, .int x1)], [], M11)) rfl rfl rfl (fun c_6 => ?_) (fun c_6 => ?_)
  · have c_6 : x1 < 0 := of_decide_eq_true c_6
    refine ml_st (S' := (18, [(0, .ref m0)], [.ref m0], M11)) rfl rfl rfl ?_
    refine ml_call (a := [.ref m0]) (rest := []) rfl (hR13.okc rfl rfl rfl) rfl rfl (rm_bad hR13 (by omega)) (fun v16 M17 h18 => ?_)
    obtain ⟨u24, I19, R20, rfl, hR21, hI22, hV23, w25⟩ := h18
    show ml _ _ _ (21, [(0, .ref m0)], [.int u24], M17) _
    exact ml_ret rfl (rfl) (⟨_, _, _, rfl, hR21, ((eqI.rf.put f15 (by decide)).tr hI22 (by decide)), (eqR.rf.tr hV23 (by decide)), Or.inl ⟨fun h => by have q := i_lt c_6; have : (0 : Int32).toInt = 0 := rfl; omega, w25, (hI22 17 (by decide)).trans (f15 17 (by decide)), (hI22 19 (by decide)).trans (f15 19 (by decide)), hV23 13 (by decide)⟩⟩)
  · have c_6 : ¬ (x1 < 0) := of_decide_eq_false c_6
    refine ml_blk 2 (S' := (11, [(0, .ref m0), (1, .int x1)], [.ref m0, .int x1], M11)) rfl ?_
    refine rg_int (S' := (14, [(0, .ref m0), (1, .int x1)], [.int (nI cc), .int x1], M11)) rfl hR13 rfl ((f15 19 (by decide)).trans (hk19)) rfl ?_
    refine ml_if2 (S1 := (22, [(0, .ref m0), (1, .int x1)], [], M11)) (S2 := (17, [(0, .ref m0)], [], M11)) rfl rfl rfl (fun c_14 => ?_) (fun c_14 => ?_)
    · have c_14 : x1 ≤ (nI cc) := of_decide_eq_true c_14
      have hx0 : 0 ≤ x1.toInt := i_nlt c_6
      have hxc : x1.toInt ≤ cc := by have q := i_le c_14; rw [nI_val (by omega)] at q; exact q
      refine ml_st (S' := (23, [(0, .ref m0), (1, .int x1)], [.int 0], M11)) rfl rfl rfl ?_
      refine ml_st (S' := (24, [(0, .ref m0), (1, .int x1), (2, .int 0)], [], M11)) rfl rfl rfl ?_
      have L_24 : ∀ (n_24 : Nat) (i24_2 : Int32) (M_24 : mi_H) (I_24 : rI) (R_24 : rR), (2147483648 - i24_2.toInt).toNat ≤ n_24 → RS g m0 q z I_24 R_24 M_24 → eqI [] I12 I_24 → eqR [13] R R_24 → (0 ≤ i24_2.toInt ∧ i24_2.toInt ≤ x1.toInt ∧ KB 13 i24_2.toInt.toNat R_24) → ml (mT g) d (mb_202 g).2 (24, [(0, .ref m0), (1, .int x1), (2, .int i24_2)], [], M_24) (fun v M' => ∃ (x : Int32) (I' : rI) (R' : rR), v = some (.int x) ∧ RS g m0 q z I' R' M' ∧ eqI [0, 17, 19] I I' ∧ eqR [13] R R' ∧ ((¬ (0 ≤ x1.toInt ∧ x1.toInt ≤ cc) ∧ I' 0 = some 1 ∧ I' 17 = I 17 ∧ I' 19 = I 19 ∧ R' 13 = R 13) ∨ (0 ≤ x1.toInt ∧ x1.toInt ≤ cc ∧ x = x1 ∧ I' 0 = some 0 ∧ I' 17 = some x1 ∧ I' 19 = some 0 ∧ KB 13 x1.toInt.toNat R'))) := by
        intro n_24
        induction n_24 with
        | zero => intro i24_2 M_24 I_24 R_24 hn; exact (loop_zero hn).elim
        | succ n_24 ih_24 =>
          intro i24_2 M_24 I_24 R_24 hn_24 hR_24 hI_24 hV_24 hi_24
          obtain ⟨hk0, hk1, hk13⟩ := hi_24
          refine ml_blk 2 (S' := (26, [(0, .ref m0), (1, .int x1), (2, .int i24_2)], [.int x1, .int i24_2], M_24)) rfl ?_
          refine ml_if2 (S1 := (47, [(0, .ref m0), (1, .int x1), (2, .int i24_2)], [], M_24)) (S2 := (29, [(0, .ref m0), (1, .int x1), (2, .int i24_2)], [], M_24)) rfl rfl rfl (fun c_26 => ?_) (fun c_26 => ?_)
          · have c_26 : x1 ≤ i24_2 := of_decide_eq_true c_26
            refine ml_blk 2 (S' := (49, [(0, .ref m0), (1, .int x1), (2, .int i24_2)], [.int x1, .ref m0], M_24)) rfl ?_
            refine rp_int rfl hR_24 rfl (fun M26 I27 hR28 e29 f30 => ?_)
            show ml _ _ _ (52, [(0, .ref m0), (1, .int x1), (2, .int i24_2)], [], M26) _
            refine ml_blk 2 (S' := (54, [(0, .ref m0), (1, .int x1), (2, .int i24_2)], [.int 0, .ref m0], M26)) rfl ?_
            refine rp_int rfl hR28 rfl (fun M31 I32 hR33 e34 f35 => ?_)
            show ml _ _ _ (57, [(0, .ref m0), (1, .int x1), (2, .int i24_2)], [], M31) _
            refine ml_st (S' := (58, [(0, .ref m0), (1, .int x1), (2, .int i24_2)], [.int x1], M31)) rfl rfl rfl ?_
            exact ml_ret rfl (rfl) (⟨_, _, _, rfl, hR33, ((((eqI.rf.put f15 (by decide)).tr hI_24 (by decide)).put f30 (by decide)).put f35 (by decide)), (eqR.rf.tr hV_24 (by decide)), Or.inr ⟨hx0, hxc, rfl, (f35 0 (by decide)).trans ((f30 0 (by decide)).trans ((hI_24 0 (by decide)).trans (e14))), (f35 17 (by decide)).trans (e29), e34, by have q := i_le c_26; rw [show x1.toInt.toNat = i24_2.toInt.toNat by omega]; exact hk13⟩⟩)
          · have c_26 : ¬ (x1 ≤ i24_2) := of_decide_eq_false c_26
            refine ml_st (S' := (30, [(0, .ref m0), (1, .int x1), (2, .int i24_2)], [.ref m0], M_24)) rfl rfl rfl ?_
            refine rg_ref (S' := (33, [(0, .ref m0), (1, .int x1), (2, .int i24_2)], [.ref (q 13)], M_24)) rfl hR_24 rfl rfl ?_
            refine ml_blk 2 (S' := (35, [(0, .ref m0), (1, .int x1), (2, .int i24_2)], [.ref m0, .int i24_2, .ref (q 13)], M_24)) rfl ?_
            refine rg_ref (S' := (38, [(0, .ref m0), (1, .int x1), (2, .int i24_2)], [.ref (q 15), .int i24_2, .ref (q 13)], M_24)) rfl hR_24 rfl rfl ?_
            refine ml_st (S' := (39, [(0, .ref m0), (1, .int x1), (2, .int i24_2)], [.int i24_2, .ref (q 15), .int i24_2, .ref (q 13)], M_24)) rfl rfl rfl ?_
            have hlt := i_nle c_26
            obtain ⟨b36, hb37⟩ := hkb0 i24_2.toNatClampNeg (by show i24_2.toInt.toNat < cc; omega)
            refine ra_ld (k := 15) (S' := (40, [(0, .ref m0), (1, .int x1), (2, .int i24_2)], [.int b36, .int i24_2, .ref (q 13)], M_24)) rfl hR_24 rfl (vin_lt hk0 (by omega)) ((congrFun (hV_24 15 (by decide)) _).trans hb37) rfl ?_
            refine ra_st (k := 13) rfl hR_24 rfl (vin_lt hk0 (by omega)) (fun M38 R39 hR40 e41 g42 f43 => ?_)
            show ml _ _ _ (41, [(0, .ref m0), (1, .int x1), (2, .int i24_2)], [], M38) _
            refine ml_st (S' := (44, [(2, .int (i24_2 + 1)), (0, .ref m0), (1, .int x1)], [], M38)) rfl rfl rfl ?_
            refine ml_st (S' := (24, [(0, .ref m0), (1, .int x1), (2, .int (i24_2 + 1))], [], M38)) rfl rfl rfl ?_
            exact ih_24 (i24_2 + 1) _ _ _ (loop_inc (Int32.not_le.mp c_26) hn_24) hR40 (eqI.rf.tr hI_24 (by decide)) ((eqR.rf.tr hV_24 (by decide)).put f43 (by decide)) (⟨by rw [inc_lt (Int32.not_le.mp c_26)]; omega, by rw [inc_lt (Int32.not_le.mp c_26)]; have := i_nle c_26; omega, by rw [show (i24_2 + 1).toInt.toNat = i24_2.toInt.toNat + 1 by rw [inc_lt (Int32.not_le.mp c_26)]; omega]; exact hk13.put (by omega) e41 g42⟩)
      exact L_24 _ 0 _ _ _ (Nat.le_refl _) hR13 eqI.rf eqR.rf (⟨by decide, hx0, fun i hi => absurd hi (Nat.not_lt_zero i)⟩)
    · have c_14 : ¬ (x1 ≤ (nI cc)) := of_decide_eq_false c_14
      refine ml_st (S' := (18, [(0, .ref m0)], [.ref m0], M11)) rfl rfl rfl ?_
      refine ml_call (a := [.ref m0]) (rest := []) rfl (hR13.okc rfl rfl rfl) rfl rfl (rm_bad hR13 (by omega)) (fun v44 M45 h46 => ?_)
      obtain ⟨u52, I47, R48, rfl, hR49, hI50, hV51, w53⟩ := h46
      show ml _ _ _ (21, [(0, .ref m0)], [.int u52], M45) _
      exact ml_ret rfl (rfl) (⟨_, _, _, rfl, hR49, ((eqI.rf.put f15 (by decide)).tr hI50 (by decide)), (eqR.rf.tr hV51 (by decide)), Or.inl ⟨fun h => by have q := i_nle c_14; rw [nI_val (by omega)] at q; omega, w53, (hI50 17 (by decide)).trans (f15 17 (by decide)), (hI50 19 (by decide)).trans (f15 19 (by decide)), hV51 13 (by decide)⟩⟩)
end
section
/-! the reference: instructions (my own text) -/
section MIA6
def CK (n : Nat) (ca cl : Int32) (I : rI) (_ : rR) : Prop := I 77 = some ca ∧ I 78 = some cl ∧ 0 ≤ ca.toInt ∧ 0 ≤ cl.toInt ∧ ca.toInt + cl.toInt ≤ n
theorem CK.mono {n : Nat} {ca cl : Int32} {I I' : rI} {R R' : rR} (h : CK n ca cl I R) (hI : ∀ k, k ∈ [77, 78] → I' k = I k) (_ : ∀ k, k ∈ ([] : List Nat) → R' k = R k) : CK n ca cl I' R' :=
  ⟨(hI 77 (by decide)).trans h.1, (hI 78 (by decide)).trans h.2.1, h.2.2⟩
def mlens : List Nat := [1, 1, 1, 1, 1, 1, 1, 1, 1, 1, 1, 1, 1, 1, 1, 1, 2, 3, 2, 3, 3, 2, 2, 2, 2, 2, 1, 1, 1, 1, 1, 1, 1, 1, 1, 1, 1, 1, 1, 1, 1, 1, 1, 1, 1, 1, 1, 1, 1, 1, 1, 1, 1, 1, 2, 2, 2, 2, 2, 1, 1, 1, 1, 1, 1, 1, 1, 1, 1, 1, 1, 1, 1, 1, 1, 1, 1, 1, 1, 1, 1, 1, 1, 1, 1, 1, 1, 1, 1, 1, 1, 1, 1, 1, 1, 1, 1, 1, 1, 1, 1, 1, 1, 1, 1, 1, 1, 1, 1, 1, 1, 1, 1, 1, 1, 1, 1, 1, 1, 1, 1, 1, 1, 1, 1, 1, 1, 1, 1, 1, 1, 1, 3, 1, 1, 1, 1, 1, 1, 1, 1, 1, 1, 1, 1, 1, 1, 1, 1, 1, 1, 1, 1, 3, 3, 3, 3, 3, 3, 3, 3, 3, 3, 3, 3, 3, 3, 3, 3, 2, 1, 1, 1, 1, 1, 1, 1, 1, 3, 3, 3, 3, 3, 3, 3, 5, 5, 3, 2, 3, 1, 1, 3, 3, 1, 1, 4, 4, 3, 3, 5, 5]
def mlen (o : Nat) : Nat := mlens.getD o 0
def ILN (op : Int32) (nn : Int) : Prop := 0 ≤ op.toInt ∧ op.toInt ≤ 201 ∧ (mlen op.toInt.toNat : Int) ≤ nn
theorem iln {op : Int32} {nn : Int} (k : Nat) (h : ILN op nn) (a b : Nat) (ha : (a : Int) ≤ op.toInt) (hb : op.toInt ≤ b) (hk : ∀ o, o < 202 → a ≤ o → o ≤ b → k ≤ mlen o) : (k : Int) ≤ nn := by
  obtain ⟨h0, h1, h2⟩ := h
  have := hk op.toInt.toNat (by omega) (by omega) (by omega)
  omega
def pd (x : Int32) : Int32 := (x + 4) &&& (-4)
theorem pd_b {x : Int32} (h0 : 0 ≤ x.toInt) (h1 : x.toInt < 1000000) : x.toInt < (pd x).toInt ∧ (pd x).toInt ≤ x.toInt + 4 := by
  have e4 : (4 : Int32).toInt = 4 := rfl
  have hy : (x + 4).toInt = x.toInt + 4 := by rw [i_add (by omega) (by omega), e4]
  have h := pad4 (x := x + 4) (by omega) (by omega)
  have e : pd x = (((x + 4) &&& -4) + 4) - 4 := by
    show (x + 4) &&& -4 = _
    rw [Int32.add_sub_cancel]
  rw [e, i_sub (by omega) (by omega), e4]
  omega
def B4 (f : Nat → Int32) (ca p : Int32) : Int32 := Int64.toInt32 (f4 f (ca + p))
def S2 (f : Nat → Int32) (ca p : Int32) : Int32 := (f2 f (ca + p)).toInt16.toInt32
def SWF (f : Nat → Int32) (ca cl pc : Int32) : Prop :=
  (f1 f (ca + pc) = 170 → (pd pc).toInt + 12 ≤ cl.toInt ∧ (B4 f ca (pd pc + 4)).toInt ≤ (B4 f ca (pd pc + 8)).toInt ∧ (pd pc).toInt + 12 + 4 * ((B4 f ca (pd pc + 8)).toInt - (B4 f ca (pd pc + 4)).toInt + 1) ≤ cl.toInt) ∧
  (f1 f (ca + pc) = 171 → (pd pc).toInt + 8 ≤ cl.toInt ∧ 0 ≤ (B4 f ca (pd pc + 4)).toInt ∧ (pd pc).toInt + 8 + 8 * (B4 f ca (pd pc + 4)).toInt ≤ cl.toInt)
def wyf (f : Nat → Int32) (ca pc : Int32) : Int32 := 1 + (if f1 f (ca + pc) = 170 then B4 f ca (pd pc + 8) - B4 f ca (pd pc + 4) + 1 else B4 f ca (pd pc + 4))
def waf (f : Nat → Int32) (ca pc i : Int32) : Int32 := if i = 0 then pd pc else if f1 f (ca + pc) = 170 then pd pc + 8 + 4 * i else pd pc + 4 + 8 * i
theorem mul_k {k x : Int32} {a : Int} (hk : k.toInt = a) (h0 : 0 ≤ a) (h1 : a ≤ 8) (h2 : 0 ≤ x.toInt) (h3 : x.toInt ≤ 1000000) : (k * x).toInt = a * x.toInt := by
  have h4 : 0 ≤ a * x.toInt := Int.mul_nonneg h0 h2
  have h5 : a * x.toInt ≤ 8 * x.toInt := Int.mul_le_mul_of_nonneg_right h1 h2
  rw [i_mul (by rw [hk]; omega) (by rw [hk]; omega), hk]
theorem wyf_v {f : Nat → Int32} {ca cl pc : Int32} (hcl : cl.toInt ≤ 65540) (h0 : 0 ≤ pc.toInt) (h1 : pc.toInt < cl.toInt) (h : SWF f ca cl pc) : (f1 f (ca + pc) = 170 → (wyf f ca pc).toInt = (B4 f ca (pd pc + 8)).toInt - (B4 f ca (pd pc + 4)).toInt + 2) ∧ (f1 f (ca + pc) = 171 → (wyf f ca pc).toInt = (B4 f ca (pd pc + 4)).toInt + 1) := by
  have hp := pd_b h0 (by omega)
  have e1 : (1 : Int32).toInt = 1 := rfl
  refine ⟨fun e => ?_, fun e => ?_⟩
  · obtain ⟨a1, a2, a3⟩ := h.1 e
    have d1 : (B4 f ca (pd pc + 8) - B4 f ca (pd pc + 4)).toInt = (B4 f ca (pd pc + 8)).toInt - (B4 f ca (pd pc + 4)).toInt := i_sub (by omega) (by omega)
    have d2 : (B4 f ca (pd pc + 8) - B4 f ca (pd pc + 4) + 1).toInt = (B4 f ca (pd pc + 8)).toInt - (B4 f ca (pd pc + 4)).toInt + 1 := by rw [i_add (by omega) (by omega), d1, e1]
    rw [wyf, if_pos e, i_add (by omega) (by omega), d2, e1]
    omega
  · obtain ⟨a1, a2, a3⟩ := h.2 e
    rw [wyf, if_neg (by rw [e]; decide), i_add (by omega) (by omega), e1]
    omega
theorem waf_b {f : Nat → Int32} {ca cl pc i : Int32} (hcl : cl.toInt ≤ 65540) (h0 : 0 ≤ pc.toInt) (h1 : pc.toInt < cl.toInt) (h : SWF f ca cl pc) (ho : f1 f (ca + pc) = 170 ∨ f1 f (ca + pc) = 171) (i0 : 0 ≤ i.toInt) (i1 : i.toInt < (wyf f ca pc).toInt) : 0 ≤ (waf f ca pc i).toInt ∧ (waf f ca pc i).toInt + 4 ≤ cl.toInt := by
  have hp := pd_b h0 (by omega)
  have e4 : (4 : Int32).toInt = 4 := rfl
  have e8 : (8 : Int32).toInt = 8 := rfl
  unfold waf
  by_cases hi : i = 0
  · rw [if_pos hi]
    rcases ho with e | e
    · have := h.1 e
      omega
    · have := h.2 e
      omega
  · rw [if_neg hi]
    rcases ho with e | e
    · obtain ⟨a1, a2, a3⟩ := h.1 e
      have hw := (wyf_v hcl h0 h1 h).1 e
      have hm := mul_k (x := i) e4 (by omega) (by omega) i0 (by omega)
      have d8 : (pd pc + 8).toInt = (pd pc).toInt + 8 := by rw [i_add (by omega) (by omega), e8]
      rw [if_pos e, i_add (by omega) (by omega), d8, hm]
      omega
    · obtain ⟨a1, a2, a3⟩ := h.2 e
      have hw := (wyf_v hcl h0 h1 h).2 e
      have hm := mul_k (x := i) e8 (by omega) (by omega) i0 (by omega)
      have d8 : (pd pc + 4).toInt = (pd pc).toInt + 4 := by rw [i_add (by omega) (by omega), e4]
      rw [if_neg (by rw [e]; decide), i_add (by omega) (by omega), d8, hm]
      omega
def BRO (op : Int32) : Prop := (153 ≤ op.toInt ∧ op.toInt ≤ 168) ∨ op = 198 ∨ op = 199
/-- an instruction that is whole -/
def INS (f : Nat → Int32) (ca cl pc : Int32) : Prop := 0 ≤ pc.toInt ∧ ∃ nn : Int, 1 ≤ nn ∧ pc.toInt + nn ≤ cl.toInt ∧ ILN (f1 f (ca + pc)) nn ∧ (f1 f (ca + pc) = 196 → f1 f (ca + (pc + 1)) = 132 → 6 ≤ nn) ∧ (f1 f (ca + pc) = 170 ∨ f1 f (ca + pc) = 171 → SWF f ca cl pc)
/-- its targets lie in the code -/
def AIM (f : Nat → Int32) (ca cl pc : Int32) : Prop := (BRO (f1 f (ca + pc)) → 0 ≤ (pc + S2 f ca (pc + 1)).toInt ∧ (pc + S2 f ca (pc + 1)).toInt < cl.toInt) ∧
  (f1 f (ca + pc) = 200 ∨ f1 f (ca + pc) = 201 → 0 ≤ (pc + B4 f ca (pc + 1)).toInt ∧ (pc + B4 f ca (pc + 1)).toInt < cl.toInt) ∧
  (f1 f (ca + pc) = 170 ∨ f1 f (ca + pc) = 171 → ∀ i : Int32, 0 ≤ i.toInt → i.toInt < (wyf f ca pc).toInt → 0 ≤ (pc + B4 f ca (waf f ca pc i)).toInt ∧ (pc + B4 f ca (waf f ca pc i)).toInt < cl.toInt)
theorem BRO.no {op : Int32} (h : BRO op) (h' : op = 200 ∨ op = 201 ∨ op = 170 ∨ op = 171) : False := by
  rcases h' with rfl | rfl | rfl | rfl <;> (rcases h with h | h | h; (have : (200 : Int32).toInt = 200 := rfl; have : (201 : Int32).toInt = 201 := rfl; have : (170 : Int32).toInt = 170 := rfl; have : (171 : Int32).toInt = 171 := rfl; omega); exact absurd h (by decide); exact absurd h (by decide))
variable {f : Nat → Int32} {ca cl pc : Int32}
theorem AIM.br (hb : BRO (f1 f (ca + pc))) (h : 0 ≤ (Int32.toInt64 (pc + S2 f ca (pc + 1))).toInt ∧ (Int32.toInt64 (pc + S2 f ca (pc + 1))).toInt < cl.toInt) : AIM f ca cl pc := by
  rw [l_of] at h
  exact ⟨fun _ => h, fun e => (hb.no (e.elim Or.inl (fun e => Or.inr (Or.inl e)))).elim, fun e => (hb.no (Or.inr (Or.inr e))).elim⟩
theorem to_in {a b : Int32} (hcl : cl.toInt ≤ 65540) (h : 0 ≤ (Int32.toInt64 a + Int32.toInt64 b).toInt ∧ (Int32.toInt64 a + Int32.toInt64 b).toInt < cl.toInt) : 0 ≤ (a + b).toInt ∧ (a + b).toInt < cl.toInt := by
  have ha := Int32.le_toInt a
  have ha' := Int32.toInt_lt a
  have hb := Int32.le_toInt b
  have hb' := Int32.toInt_lt b
  rw [l_add (by rw [l_of, l_of]; omega) (by rw [l_of, l_of]; omega), l_of, l_of] at h
  rw [i_add (by omega) (by omega)]
  exact h
theorem AIM.wd (hcl : cl.toInt ≤ 65540) (hb : f1 f (ca + pc) = 200 ∨ f1 f (ca + pc) = 201) (h : 0 ≤ (Int32.toInt64 pc + Int32.toInt64 (B4 f ca (pc + 1))).toInt ∧ (Int32.toInt64 pc + Int32.toInt64 (B4 f ca (pc + 1))).toInt < cl.toInt) : AIM f ca cl pc :=
  ⟨fun e => (e.no (hb.elim Or.inl (fun e => Or.inr (Or.inl e)))).elim, fun _ => to_in hcl h, fun e => by rcases hb with b | b <;> rw [b] at e <;> exact absurd e (by decide)⟩
theorem AIM.sw (hb : f1 f (ca + pc) = 170 ∨ f1 f (ca + pc) = 171) (h : ∀ i : Int32, 0 ≤ i.toInt → i.toInt < (wyf f ca pc).toInt → 0 ≤ (pc + B4 f ca (waf f ca pc i)).toInt ∧ (pc + B4 f ca (waf f ca pc i)).toInt < cl.toInt) : AIM f ca cl pc :=
  ⟨fun e => (e.no (Or.inr (Or.inr hb))).elim, fun e => by rcases hb with b | b <;> rw [b] at e <;> exact absurd e (by decide), fun _ => h⟩
theorem AIM.no (h1 : ¬ BRO (f1 f (ca + pc))) (h2 : ¬ (f1 f (ca + pc) = 200 ∨ f1 f (ca + pc) = 201)) (h3 : ¬ (f1 f (ca + pc) = 170 ∨ f1 f (ca + pc) = 171)) : AIM f ca cl pc := ⟨fun e => absurd e h1, fun e => absurd e h2, fun e => absurd e h3⟩
theorem sw_l1 {hi lo : Int32} : ((4 : Int64) * (Int32.toInt64 hi - Int32.toInt64 lo + 1) + 12).toInt = 4 * (hi.toInt - lo.toInt + 1) + 12 := by
  have ha := Int32.le_toInt hi
  have ha' := Int32.toInt_lt hi
  have hb := Int32.le_toInt lo
  have hb' := Int32.toInt_lt lo
  have e1 : (1 : Int64).toInt = 1 := rfl
  have e4 : (4 : Int64).toInt = 4 := rfl
  have e12 : (12 : Int64).toInt = 12 := rfl
  have d1 : (Int32.toInt64 hi - Int32.toInt64 lo).toInt = hi.toInt - lo.toInt := by rw [l_sub (by rw [l_of, l_of]; omega) (by rw [l_of, l_of]; omega), l_of, l_of]
  have d2 : (Int32.toInt64 hi - Int32.toInt64 lo + 1).toInt = hi.toInt - lo.toInt + 1 := by rw [l_add (by omega) (by omega), d1, e1]
  have d3 : ((4 : Int64) * (Int32.toInt64 hi - Int32.toInt64 lo + 1)).toInt = 4 * (hi.toInt - lo.toInt + 1) := by rw [l_mul (by rw [e4, d2]; omega) (by rw [e4, d2]; omega), e4, d2]
  rw [l_add (by omega) (by omega), d3, e12]
theorem sw_l2 {np : Int32} : ((8 : Int64) * Int32.toInt64 np + 8).toInt = 8 * np.toInt + 8 := by
  have ha := Int32.le_toInt np
  have ha' := Int32.toInt_lt np
  have e8 : (8 : Int64).toInt = 8 := rfl
  have d1 : ((8 : Int64) * Int32.toInt64 np).toInt = 8 * np.toInt := by rw [l_mul (by rw [e8, l_of]; omega) (by rw [e8, l_of]; omega), e8, l_of]
  rw [l_add (by omega) (by omega), d1, e8]
theorem sw_l3 {p x : Int32} {n9 : Int64} (h0 : 0 ≤ x.toInt) (h1 : x.toInt < p.toInt) (h2 : p.toInt + n9.toInt ≤ 65540) (h3 : 8 ≤ n9.toInt) : 1 ≤ (Int64.toInt32 (Int32.toInt64 p + n9 - Int32.toInt64 x)).toInt ∧ (Int64.toInt32 (Int32.toInt64 p + n9 - Int32.toInt64 x)).toInt ≤ 65540 := by
  have d1 : (Int32.toInt64 p + n9).toInt = p.toInt + n9.toInt := by rw [l_add (by rw [l_of]; omega) (by rw [l_of]; omega), l_of]
  have d2 : (Int32.toInt64 p + n9 - Int32.toInt64 x).toInt = p.toInt + n9.toInt - x.toInt := by rw [l_sub (by rw [l_of]; omega) (by rw [l_of]; omega), l_of, d1]
  rw [i_of (by omega) (by omega), d2]
  omega
/-- what a form's length says -/
def FRM (f : Nat → Int32) (ca cl pc x : Int32) : Prop := (f1 f (ca + pc) = 196 → 4 ≤ x.toInt ∧ (f1 f (ca + (pc + 1)) = 132 → 6 ≤ x.toInt)) ∧ (f1 f (ca + pc) = 170 ∨ f1 f (ca + pc) = 171 → SWF f ca cl pc ∧ 1 ≤ x.toInt) ∧ x.toInt ≤ 65540
set_option maxRecDepth 50000 in
theorem mlk_3_153_168 : ∀ o, o < 202 → 153 ≤ o → o ≤ 168 → 3 ≤ mlen o := by decide
set_option maxRecDepth 50000 in
theorem mlk_3_198_198 : ∀ o, o < 202 → 198 ≤ o → o ≤ 198 → 3 ≤ mlen o := by decide
set_option maxRecDepth 50000 in
theorem mlk_3_199_199 : ∀ o, o < 202 → 199 ≤ o → o ≤ 199 → 3 ≤ mlen o := by decide
set_option maxRecDepth 50000 in
theorem mlk_5_200_200 : ∀ o, o < 202 → 200 ≤ o → o ≤ 200 → 5 ≤ mlen o := by decide
set_option maxRecDepth 50000 in
theorem mlk_5_201_201 : ∀ o, o < 202 → 201 ≤ o → o ≤ 201 → 5 ≤ mlen o := by decide
set_option maxRecDepth 50000 in
theorem mlk_2_169_169 : ∀ o, o < 202 → 169 ≤ o → o ≤ 169 → 2 ≤ mlen o := by decide
set_option maxRecDepth 50000 in
theorem mlk_2_21_25 : ∀ o, o < 202 → 21 ≤ o → o ≤ 25 → 2 ≤ mlen o := by decide
set_option maxRecDepth 50000 in
theorem mlk_2_54_58 : ∀ o, o < 202 → 54 ≤ o → o ≤ 58 → 2 ≤ mlen o := by decide
set_option maxRecDepth 50000 in
theorem mlk_3_132_132 : ∀ o, o < 202 → 132 ≤ o → o ≤ 132 → 3 ≤ mlen o := by decide
set_option maxRecDepth 50000 in
theorem mlk_4_196_196 : ∀ o, o < 202 → 196 ≤ o → o ≤ 196 → 4 ≤ mlen o := by decide
set_option maxRecDepth 50000 in
theorem mlk_2_188_188 : ∀ o, o < 202 → 188 ≤ o → o ≤ 188 → 2 ≤ mlen o := by decide
set_option maxRecDepth 50000 in
theorem mlk_2_18_18 : ∀ o, o < 202 → 18 ≤ o → o ≤ 18 → 2 ≤ mlen o := by decide
set_option maxRecDepth 50000 in
theorem mlk_3_19_20 : ∀ o, o < 202 → 19 ≤ o → o ≤ 20 → 3 ≤ mlen o := by decide
set_option maxRecDepth 50000 in
theorem mlk_3_178_181 : ∀ o, o < 202 → 178 ≤ o → o ≤ 181 → 3 ≤ mlen o := by decide
set_option maxRecDepth 50000 in
theorem mlk_5_185_185 : ∀ o, o < 202 → 185 ≤ o → o ≤ 185 → 5 ≤ mlen o := by decide
set_option maxRecDepth 50000 in
theorem mlk_3_182_185 : ∀ o, o < 202 → 182 ≤ o → o ≤ 185 → 3 ≤ mlen o := by decide
set_option maxRecDepth 50000 in
theorem mlk_5_186_186 : ∀ o, o < 202 → 186 ≤ o → o ≤ 186 → 5 ≤ mlen o := by decide
set_option maxRecDepth 50000 in
theorem mlk_3_187_187 : ∀ o, o < 202 → 187 ≤ o → o ≤ 187 → 3 ≤ mlen o := by decide
set_option maxRecDepth 50000 in
theorem mlk_3_189_189 : ∀ o, o < 202 → 189 ≤ o → o ≤ 189 → 3 ≤ mlen o := by decide
set_option maxRecDepth 50000 in
theorem mlk_3_192_192 : ∀ o, o < 202 → 192 ≤ o → o ≤ 192 → 3 ≤ mlen o := by decide
set_option maxRecDepth 50000 in
theorem mlk_3_193_193 : ∀ o, o < 202 → 193 ≤ o → o ≤ 193 → 3 ≤ mlen o := by decide
set_option maxRecDepth 50000 in
theorem mlk_4_197_197 : ∀ o, o < 202 → 197 ≤ o → o ≤ 197 → 4 ≤ mlen o := by decide
set_option maxRecDepth 50000 in
theorem mlk_2_16_16 : ∀ o, o < 202 → 16 ≤ o → o ≤ 16 → 2 ≤ mlen o := by decide
set_option maxRecDepth 50000 in
theorem mlk_3_17_17 : ∀ o, o < 202 → 17 ≤ o → o ≤ 17 → 3 ≤ mlen o := by decide
set_option maxRecDepth 50000 in
theorem mlk_3_178_187 : ∀ o, o < 202 → 178 ≤ o → o ≤ 187 → 3 ≤ mlen o := by decide
set_option maxRecDepth 50000 in
theorem mlk_3_19_19 : ∀ o, o < 202 → 19 ≤ o → o ≤ 19 → 3 ≤ mlen o := by decide
set_option maxRecDepth 50000 in
theorem mlk_3_20_20 : ∀ o, o < 202 → 20 ≤ o → o ≤ 20 → 3 ≤ mlen o := by decide
set_option maxRecDepth 50000 in
theorem mlk_1_0_201 : ∀ o, o < 202 → 0 ≤ o → o ≤ 201 → 1 ≤ mlen o := by decide
set_option maxRecDepth 50000 in
theorem mlk_2_132_132 : ∀ o, o < 202 → 132 ≤ o → o ≤ 132 → 2 ≤ mlen o := by decide
end MIA6
end
section
/-! the reference: instructions (laid by wip/p2/c75.py) -/
set_option maxHeartbeats 2000000 in
theorem rm_noCode {g : xe_G}  {m0 : Nat} {q : Nat → Nat} {z : Nat × Nat} {I : rI} {R : rR} {M : mi_H} {x1 kn : Int32} {n : Nat} {f : Nat → Int32}  (hR : RS g m0 q z I R M) (hk18 : I 18 = some kn) (hG : (kn < 0 ∨ GD n f I R)) {d : Nat} (hd : 1 ≤ d) : mt (mT g) d 227 [.ref m0, .int x1] M (fun v M' => (∃ x : Int32, v = some (.int x) ∧ (x = 0 ∨ x = 1) ∧ (x = 1 ∨ ¬ kn < 0 ∧ 0 ≤ x1.toInt ∧ x1.toInt < 8192 ∧ ∃ c l t : Int32, R 37 x1.toNatClampNeg = some c ∧ R 38 x1.toNatClampNeg = some l ∧ R 40 x1.toNatClampNeg = some t ∧ 0 ≤ c.toInt ∧ 0 ≤ l.toInt ∧ c.toInt + l.toInt ≤ n)) ∧ M' = M) := by
  obtain ⟨d, rfl⟩ : ∃ e, d = e + 1 := ⟨d - 1, by omega⟩
  refine mt_in (b := mb_227 g) rfl rfl ?_
  show ml (mT g) d (mb_227 g).2 (0, [(0, .ref m0), (1, .int x1)], [], M) _
  refine ml_st (S' := (1, [(0, .ref m0), (1, .int x1)], [.ref m0], M)) rfl rfl rfl ?_
  refine rg_int (S' := (4, [(0, .ref m0), (1, .int x1)], [.int kn], M)) rfl hR rfl (hk18) rfl ?_
  refine ml_if (S1 := (28, [], [], M)) (S2 := (7, [(0, .ref m0), (1, .int x1)], [], M)) rfl rfl rfl (fun c_4 => ?_) (fun c_4 => ?_)
  · have c_4 : kn < 0 := of_decide_eq_true c_4
    refine ml_st (S' := (29, [], [.int 1], M)) rfl rfl rfl ?_
    refine ml_st (S' := (33, [], [.int 1], M)) rfl rfl rfl ?_
    exact ml_ret rfl (r_z (Or.inr rfl)) (⟨⟨_, rfl, Or.inr rfl, Or.inl rfl⟩, rfl⟩)
  · have c_4 : ¬ (kn < 0) := of_decide_eq_false c_4
    obtain ⟨S, cN, sa, sl, ch, cp, mj, pa, py, hA, fA, mA, aA, nf, ni, kf, km, hF0, hY0, hP0, hE0, hFO, kq54, kq58, kq61, hkf, kq25, hfk, hkm, kq26, hmk, hNW⟩ := hG.resolve_left (c_4)
    have hn := hF0.1
    refine ml_st (S' := (8, [(0, .ref m0), (1, .int x1)], [.int x1], M)) rfl rfl rfl ?_
    refine ml_if (S1 := (28, [], [], M)) (S2 := (11, [(0, .ref m0), (1, .int x1)], [], M)) rfl rfl rfl (fun c_8 => ?_) (fun c_8 => ?_)
    · have c_8 : x1 < 0 := of_decide_eq_true c_8
      refine ml_st (S' := (29, [], [.int 1], M)) rfl rfl rfl ?_
      refine ml_st (S' := (33, [], [.int 1], M)) rfl rfl rfl ?_
      exact ml_ret rfl (r_z (Or.inr rfl)) (⟨⟨_, rfl, Or.inr rfl, Or.inl rfl⟩, rfl⟩)
    · have c_8 : ¬ (x1 < 0) := of_decide_eq_false c_8
      refine ml_blk 2 (S' := (13, [(0, .ref m0), (1, .int x1)], [.ref m0, .int x1], M)) rfl ?_
      refine rg_int (S' := (16, [(0, .ref m0), (1, .int x1)], [.int (nI km), .int x1], M)) rfl hR rfl (kq26) rfl ?_
      refine ml_if2 (S1 := (28, [], [], M)) (S2 := (19, [(0, .ref m0), (1, .int x1)], [], M)) rfl rfl rfl (fun c_16 => ?_) (fun c_16 => ?_)
      · have c_16 : (nI km) ≤ x1 := of_decide_eq_true c_16
        refine ml_st (S' := (29, [], [.int 1], M)) rfl rfl rfl ?_
        refine ml_st (S' := (33, [], [.int 1], M)) rfl rfl rfl ?_
        exact ml_ret rfl (r_z (Or.inr rfl)) (⟨⟨_, rfl, Or.inr rfl, Or.inl rfl⟩, rfl⟩)
      · have c_16 : ¬ ((nI km) ≤ x1) := of_decide_eq_false c_16
        have hx0 : 0 ≤ x1.toInt := i_nlt c_8
        have hx1 : x1.toInt < km := i_ltn (Int32.not_le.mp c_16) hkm
        obtain ⟨-, ⟨mc, hmc, hmd⟩, -⟩ := hmk x1.toNatClampNeg (by show x1.toInt.toNat < km; omega)
        refine ml_st (S' := (20, [(0, .ref m0), (1, .int x1)], [.ref m0], M)) rfl rfl rfl ?_
        refine rg_ref (S' := (23, [(0, .ref m0), (1, .int x1)], [.ref (q 37)], M)) rfl hR rfl rfl ?_
        refine ml_st (S' := (24, [(0, .ref m0), (1, .int x1)], [.int x1, .ref (q 37)], M)) rfl rfl rfl ?_
        refine ra_ld (k := 37) (S' := (25, [(0, .ref m0), (1, .int x1)], [.int mc], M)) rfl hR rfl (vin_lt hx0 (by omega)) (hmc) rfl ?_
        refine ml_if (S1 := (32, [(0, .ref m0), (1, .int x1)], [], M)) (S2 := (28, [], [], M)) rfl rfl rfl (fun c_25 => ?_) (fun c_25 => ?_)
        · have c_25 : 0 ≤ mc := of_decide_eq_true c_25
          refine ml_st (S' := (33, [], [.int 0], M)) rfl rfl rfl ?_
          exact ml_ret rfl (r_z (Or.inl rfl)) (⟨⟨_, rfl, Or.inl rfl, Or.inr (by have q0 : 0 ≤ mc.toInt := i_le c_25; obtain ⟨ml9, mr9, mm9, ms9, mt9, hl9, hr9, hm9, hs9, ht9, hl0, hcl, -⟩ := hmd.resolve_left (by omega); exact ⟨c_4, hx0, by omega, mc, ml9, mt9, hmc, hl9, ht9, q0, hl0, hcl⟩)⟩, rfl⟩)
        · have c_25 : ¬ (0 ≤ mc) := of_decide_eq_false c_25
          refine ml_st (S' := (29, [], [.int 1], M)) rfl rfl rfl ?_
          refine ml_st (S' := (33, [], [.int 1], M)) rfl rfl rfl ?_
          exact ml_ret rfl (r_z (Or.inr rfl)) (⟨⟨_, rfl, Or.inr rfl, Or.inl rfl⟩, rfl⟩)
set_option maxHeartbeats 2000000 in
theorem rm_b1 {g : xe_G}  {m0 : Nat} {q : Nat → Nat} {z : Nat × Nat} {I : rI} {R : rR} {M : mi_H} {x1 : Int32} {n : Nat} {f : Nat → Int32} {ca cl : Int32}  (hR : RS g m0 q z I R M) (hF : FK n f I R) (hC : CK n ca cl I R) (h0 : 0 ≤ x1.toInt) (h1 : x1.toInt + 1 ≤ cl.toInt) {d : Nat} (hd : 1 ≤ d) : mt (mT g) d 179 [.ref m0, .int x1] M (fun v M' => v = some (.int (f1 f (ca + x1))) ∧ M' = M) := by
  obtain ⟨d, rfl⟩ : ∃ e, d = e + 1 := ⟨d - 1, by omega⟩
  refine mt_in (b := mb_179 g) rfl rfl ?_
  show ml (mT g) d (mb_179 g).2 (0, [(0, .ref m0), (1, .int x1)], [], M) _
  have hn := hF.1
  obtain ⟨hca, hcl, hcn⟩ := hC.2.2
  have eca : (ca + x1).toInt = ca.toInt + x1.toInt := i_add (by omega) (by omega)
  refine ml_st (S' := (1, [(0, .ref m0), (1, .int x1)], [.ref m0], M)) rfl rfl rfl ?_
  refine rg_ref (S' := (4, [(0, .ref m0), (1, .int x1)], [.ref (q 12)], M)) rfl hR rfl rfl ?_
  refine ml_st (S' := (5, [(0, .ref m0), (1, .int x1)], [.ref m0, .ref (q 12)], M)) rfl rfl rfl ?_
  refine rg_int (S' := (8, [(0, .ref m0), (1, .int x1)], [.int ca, .ref (q 12)], M)) rfl hR rfl (hC.1) rfl ?_
  refine ml_blk 2 (S' := (10, [(0, .ref m0), (1, .int x1)], [.int (ca + x1), .ref (q 12)], M)) rfl ?_
  refine ra_ld (k := 12) (S' := (11, [(0, .ref m0), (1, .int x1)], [.int (f (ca + x1).toNatClampNeg)], M)) rfl hR rfl (vin_lt (by omega) (by omega)) (hF.2.2.2 _ (by show (ca + x1).toInt.toNat < n; omega)) rfl ?_
  refine ml_blk 2 (S' := (15, [(0, .ref m0), (1, .int x1)], [.int ((f (ca + x1).toNatClampNeg) &&& 255)], M)) rfl ?_
  exact ml_ret rfl (rfl) (⟨rfl, rfl⟩)
set_option maxHeartbeats 2000000 in
theorem rm_b2 {g : xe_G}  {m0 : Nat} {q : Nat → Nat} {z : Nat × Nat} {I : rI} {R : rR} {M : mi_H} {x1 : Int32} {n : Nat} {f : Nat → Int32} {ca cl : Int32}  (hR : RS g m0 q z I R M) (hF : FK n f I R) (hC : CK n ca cl I R) (h0 : 0 ≤ x1.toInt) (h1 : x1.toInt + 2 ≤ cl.toInt) {d : Nat} (hd : 3 ≤ d) : mt (mT g) d 180 [.ref m0, .int x1] M (fun v M' => v = some (.int (f2 f (ca + x1))) ∧ M' = M) := by
  obtain ⟨d, rfl⟩ : ∃ e, d = e + 1 := ⟨d - 1, by omega⟩
  refine mt_in (b := mb_180 g) rfl rfl ?_
  show ml (mT g) d (mb_180 g).2 (0, [(0, .ref m0), (1, .int x1)], [], M) _
  have hn := hF.1
  obtain ⟨hca, hcl, hcn⟩ := hC.2.2
  have eca : (ca + x1).toInt = ca.toInt + x1.toInt := i_add (by omega) (by omega)
  refine ml_blk 2 (S' := (2, [(0, .ref m0), (1, .int x1)], [.ref m0, .ref m0], M)) rfl ?_
  refine rg_int (S' := (5, [(0, .ref m0), (1, .int x1)], [.int ca, .ref m0], M)) rfl hR rfl (hC.1) rfl ?_
  refine ml_blk 2 (S' := (7, [(0, .ref m0), (1, .int x1)], [.int (ca + x1), .ref m0], M)) rfl ?_
  refine ml_call (a := [.ref m0, .int (ca + x1)]) (rest := []) rfl (hR.okc rfl rfl rfl) rfl rfl (rm_u2 hR hF (by omega) (by omega) (by omega)) (fun v11 M12 h13 => ?_)
  obtain ⟨rfl, h13⟩ := h13
  rw [h13]
  show ml _ _ _ (10, [(0, .ref m0), (1, .int x1)], [.int (f2 f (ca + x1))], M) _
  exact ml_ret rfl (rfl) (⟨rfl, rfl⟩)
set_option maxHeartbeats 2000000 in
theorem rm_s2 {g : xe_G}  {m0 : Nat} {q : Nat → Nat} {z : Nat × Nat} {I : rI} {R : rR} {M : mi_H} {x1 : Int32} {n : Nat} {f : Nat → Int32} {ca cl : Int32}  (hR : RS g m0 q z I R M) (hF : FK n f I R) (hC : CK n ca cl I R) (h0 : 0 ≤ x1.toInt) (h1 : x1.toInt + 2 ≤ cl.toInt) {d : Nat} (hd : 4 ≤ d) : mt (mT g) d 240 [.ref m0, .int x1] M (fun v M' => v = some (.int (S2 f ca x1)) ∧ M' = M) := by
  obtain ⟨d, rfl⟩ : ∃ e, d = e + 1 := ⟨d - 1, by omega⟩
  refine mt_in (b := mb_240 g) rfl rfl ?_
  show ml (mT g) d (mb_240 g).2 (0, [(0, .ref m0), (1, .int x1)], [], M) _
  refine ml_blk 2 (S' := (2, [(0, .ref m0), (1, .int x1)], [.int x1, .ref m0], M)) rfl ?_
  refine ml_call (a := [.ref m0, .int x1]) (rest := []) rfl (hR.okc rfl rfl rfl) rfl rfl (rm_b2 hR hF hC (h0) (h1) (by omega)) (fun v11 M12 h13 => ?_)
  obtain ⟨rfl, h13⟩ := h13
  rw [h13]
  show ml _ _ _ (5, [(0, .ref m0), (1, .int x1)], [.int (f2 f (ca + x1))], M) _
  refine ml_st (S' := (6, [(0, .ref m0), (1, .int x1)], [.int ((f2 f (ca + x1)).toInt16.toInt32)], M)) rfl rfl rfl ?_
  exact ml_ret rfl (rfl) (⟨rfl, rfl⟩)
set_option maxHeartbeats 2000000 in
theorem rm_b4 {g : xe_G}  {m0 : Nat} {q : Nat → Nat} {z : Nat × Nat} {I : rI} {R : rR} {M : mi_H} {x1 : Int32} {n : Nat} {f : Nat → Int32} {ca cl : Int32}  (hR : RS g m0 q z I R M) (hF : FK n f I R) (hC : CK n ca cl I R) (h0 : 0 ≤ x1.toInt) (h1 : x1.toInt + 4 ≤ cl.toInt) {d : Nat} (hd : 4 ≤ d) : mt (mT g) d 181 [.ref m0, .int x1] M (fun v M' => v = some (.int (B4 f ca x1)) ∧ M' = M) := by
  obtain ⟨d, rfl⟩ : ∃ e, d = e + 1 := ⟨d - 1, by omega⟩
  refine mt_in (b := mb_181 g) rfl rfl ?_
  show ml (mT g) d (mb_181 g).2 (0, [(0, .ref m0), (1, .int x1)], [], M) _
  have hn := hF.1
  obtain ⟨hca, hcl, hcn⟩ := hC.2.2
  have eca : (ca + x1).toInt = ca.toInt + x1.toInt := i_add (by omega) (by omega)
  refine ml_blk 2 (S' := (2, [(0, .ref m0), (1, .int x1)], [.ref m0, .ref m0], M)) rfl ?_
  refine rg_int (S' := (5, [(0, .ref m0), (1, .int x1)], [.int ca, .ref m0], M)) rfl hR rfl (hC.1) rfl ?_
  refine ml_blk 2 (S' := (7, [(0, .ref m0), (1, .int x1)], [.int (ca + x1), .ref m0], M)) rfl ?_
  refine ml_call (a := [.ref m0, .int (ca + x1)]) (rest := []) rfl (hR.okc rfl rfl rfl) rfl rfl (rm_u4 hR hF (by omega) (by omega) (by omega)) (fun v11 M12 h13 => ?_)
  obtain ⟨rfl, h13⟩ := h13
  rw [h13]
  show ml _ _ _ (10, [(0, .ref m0), (1, .int x1)], [.long (f4 f (ca + x1))], M) _
  refine ml_st (S' := (11, [(0, .ref m0), (1, .int x1)], [.int (Int64.toInt32 (f4 f (ca + x1)))], M)) rfl rfl rfl ?_
  exact ml_ret rfl (rfl) (⟨rfl, rfl⟩)
set_option maxHeartbeats 2000000 in
theorem rm_pad {g : xe_G}  {m0 : Nat} {q : Nat → Nat} {z : Nat × Nat} {I : rI} {R : rR} {M : mi_H} {x1 : Int32}  (hR : RS g m0 q z I R M) {d : Nat} (hd : 1 ≤ d) : mt (mT g) d 229 [.int x1] M (fun v M' => v = some (.int (pd x1)) ∧ M' = M) := by
  obtain ⟨d, rfl⟩ : ∃ e, d = e + 1 := ⟨d - 1, by omega⟩
  refine mt_in (b := mb_229 g) rfl rfl ?_
  show ml (mT g) d (mb_229 g).2 (0, [(0, .int x1)], [], M) _
  refine ml_blk 3 (S' := (3, [(0, .int x1)], [.int (x1 + 4)], M)) rfl ?_
  refine ml_blk 2 (S' := (6, [(0, .int x1)], [.int ((x1 + 4) &&& (-4))], M)) rfl ?_
  exact ml_ret rfl (rfl) (⟨rfl, rfl⟩)
set_option maxHeartbeats 2000000 in
theorem rm_local {g : xe_G}  {m0 : Nat} {q : Nat → Nat} {z : Nat × Nat} {I : rI} {R : rR} {M : mi_H} {x1 x2 mx : Int32}  (hR : RS g m0 q z I R M) (hk79 : I 79 = some mx) {d : Nat} (hd : 1 ≤ d) : mt (mT g) d 222 [.ref m0, .int x1, .int x2] M (fun v M' => (∃ x : Int32, v = some (.int x) ∧ (x = 0 ∨ x = 1)) ∧ M' = M) := by
  obtain ⟨d, rfl⟩ : ∃ e, d = e + 1 := ⟨d - 1, by omega⟩
  refine mt_in (b := mb_222 g) rfl rfl ?_
  show ml (mT g) d (mb_222 g).2 (0, [(0, .ref m0), (1, .int x1), (2, .int x2)], [], M) _
  refine ml_blk 3 (S' := (3, [(0, .ref m0), (1, .int x1), (2, .int x2)], [.int (x1 + x2)], M)) rfl ?_
  refine ml_st (S' := (4, [(0, .ref m0), (1, .int x1), (2, .int x2)], [.ref m0, .int (x1 + x2)], M)) rfl rfl rfl ?_
  refine rg_int (S' := (7, [(0, .ref m0), (1, .int x1), (2, .int x2)], [.int mx, .int (x1 + x2)], M)) rfl hR rfl (hk79) rfl ?_
  refine ml_if2 (S1 := (14, [(0, .ref m0), (1, .int x1), (2, .int x2)], [], M)) (S2 := (10, [(0, .ref m0), (1, .int x1), (2, .int x2)], [], M)) rfl rfl rfl (fun c_7 => ?_) (fun c_7 => ?_)
  · have c_7 : mx < (x1 + x2) := of_decide_eq_true c_7
    refine ml_st (S' := (15, [], [.int 0], M)) rfl rfl rfl ?_
    exact ml_ret rfl (r_z (Or.inl rfl)) (⟨⟨_, rfl, Or.inl rfl⟩, rfl⟩)
  · have c_7 : ¬ (mx < (x1 + x2)) := of_decide_eq_false c_7
    refine ml_st (S' := (11, [(0, .ref m0), (1, .int x1), (2, .int x2)], [.int 1], M)) rfl rfl rfl ?_
    refine ml_st (S' := (15, [], [.int 1], M)) rfl rfl rfl ?_
    exact ml_ret rfl (r_z (Or.inr rfl)) (⟨⟨_, rfl, Or.inr rfl⟩, rfl⟩)
set_option maxHeartbeats 2000000 in
theorem rm_starts {g : xe_G}  {m0 : Nat} {q : Nat → Nat} {z : Nat × Nat} {I : rI} {R : rR} {M : mi_H} {x1 : Int64} {n : Nat} {ca cl : Int32}  (hR : RS g m0 q z I R M) (hC : CK n ca cl I R) (hn : n ≤ 65540) (hW : ∀ i, i < cl.toInt.toNat → ∃ v, R 81 i = some v) {d : Nat} (hd : 1 ≤ d) : mt (mT g) d 243 [.ref m0, .long x1] M (fun v M' => (∃ x : Int32, v = some (.int x) ∧ (x = 0 ∨ x = 1) ∧ (x = 0 ∨ 0 ≤ x1.toInt ∧ x1.toInt < cl.toInt)) ∧ M' = M) := by
  obtain ⟨d, rfl⟩ : ∃ e, d = e + 1 := ⟨d - 1, by omega⟩
  refine mt_in (b := mb_243 g) rfl rfl ?_
  show ml (mT g) d (mb_243 g).2 (0, [(0, .ref m0), (1, .long x1)], [], M) _
  obtain ⟨hca, hcl, hcn⟩ := hC.2.2
  refine ml_blk 3 (S' := (3, [(0, .ref m0), (1, .long x1)], [.int (lg_cmp x1 0)], M)) rfl ?_
  refine ml_if (S1 := (30, [], [], M)) (S2 := (6, [(0, .ref m0), (1, .long x1)], [], M)) rfl rfl rfl (fun c_3 => ?_) (fun c_3 => ?_)
  · have c_3 : (lg_cmp x1 0) < 0 := of_decide_eq_true c_3
    refine ml_st (S' := (31, [], [.int 0], M)) rfl rfl rfl ?_
    exact ml_ret rfl (r_z (Or.inl rfl)) (⟨⟨_, rfl, Or.inl rfl, Or.inl rfl⟩, rfl⟩)
  · have c_3 : ¬ ((lg_cmp x1 0) < 0) := of_decide_eq_false c_3
    refine ml_blk 2 (S' := (8, [(0, .ref m0), (1, .long x1)], [.ref m0, .long x1], M)) rfl ?_
    refine rg_int (S' := (11, [(0, .ref m0), (1, .long x1)], [.int cl, .long x1], M)) rfl hR rfl (hC.2.1) rfl ?_
    refine ml_blk 2 (S' := (13, [(0, .ref m0), (1, .long x1)], [.int (lg_cmp x1 (Int32.toInt64 cl))], M)) rfl ?_
    refine ml_if (S1 := (30, [], [], M)) (S2 := (16, [(0, .ref m0), (1, .long x1)], [], M)) rfl rfl rfl (fun c_13 => ?_) (fun c_13 => ?_)
    · have c_13 : 0 ≤ (lg_cmp x1 (Int32.toInt64 cl)) := of_decide_eq_true c_13
      refine ml_st (S' := (31, [], [.int 0], M)) rfl rfl rfl ?_
      exact ml_ret rfl (r_z (Or.inl rfl)) (⟨⟨_, rfl, Or.inl rfl, Or.inl rfl⟩, rfl⟩)
    · have c_13 : ¬ (0 ≤ (lg_cmp x1 (Int32.toInt64 cl))) := of_decide_eq_false c_13
      have q0 : 0 ≤ x1.toInt := lc_ge c_3
      have q1 : x1.toInt < cl.toInt := by have q := lc_lt (Int32.not_le.mp c_13); rw [l_of] at q; exact q
      have e1 : (Int64.toInt32 x1).toInt = x1.toInt := i_of (by omega) (by omega)
      obtain ⟨v9, hv9⟩ := hW (Int64.toInt32 x1).toNatClampNeg (by show (Int64.toInt32 x1).toInt.toNat < _; omega)
      refine ml_st (S' := (17, [(0, .ref m0), (1, .long x1)], [.ref m0], M)) rfl rfl rfl ?_
      refine rg_ref (S' := (20, [(0, .ref m0), (1, .long x1)], [.ref (q 81)], M)) rfl hR rfl rfl ?_
      refine ml_blk 2 (S' := (22, [(0, .ref m0), (1, .long x1)], [.int (Int64.toInt32 x1), .ref (q 81)], M)) rfl ?_
      refine ra_ld (k := 81) (S' := (23, [(0, .ref m0), (1, .long x1)], [.int v9], M)) rfl hR rfl (vin_lt (by omega) (by omega)) (hv9) rfl ?_
      refine ml_if (S1 := (30, [], [], M)) (S2 := (26, [(0, .ref m0), (1, .long x1)], [], M)) rfl rfl rfl (fun c_23 => ?_) (fun c_23 => ?_)
      · have c_23 : v9 < 0 := of_decide_eq_true c_23
        refine ml_st (S' := (31, [], [.int 0], M)) rfl rfl rfl ?_
        exact ml_ret rfl (r_z (Or.inl rfl)) (⟨⟨_, rfl, Or.inl rfl, Or.inl rfl⟩, rfl⟩)
      · have c_23 : ¬ (v9 < 0) := of_decide_eq_false c_23
        refine ml_st (S' := (27, [(0, .ref m0), (1, .long x1)], [.int 1], M)) rfl rfl rfl ?_
        refine ml_st (S' := (31, [], [.int 1], M)) rfl rfl rfl ?_
        exact ml_ret rfl (r_z (Or.inr rfl)) (⟨⟨_, rfl, Or.inr rfl, Or.inr ⟨q0, q1⟩⟩, rfl⟩)
set_option maxHeartbeats 2000000 in
theorem rm_ways {g : xe_G}  {m0 : Nat} {q : Nat → Nat} {z : Nat × Nat} {I : rI} {R : rR} {M : mi_H} {x1 : Int32} {n : Nat} {f : Nat → Int32} {ca cl : Int32}  (hR : RS g m0 q z I R M) (hF : FK n f I R) (hC : CK n ca cl I R) (h0 : 0 ≤ x1.toInt) (h1 : x1.toInt < cl.toInt) (hs : SWF f ca cl x1) (ho : f1 f (ca + x1) = 170 ∨ f1 f (ca + x1) = 171) {d : Nat} (hd : 5 ≤ d) : mt (mT g) d 255 [.ref m0, .int x1] M (fun v M' => v = some (.int (wyf f ca x1)) ∧ M' = M) := by
  obtain ⟨d, rfl⟩ : ∃ e, d = e + 1 := ⟨d - 1, by omega⟩
  refine mt_in (b := mb_255 g) rfl rfl ?_
  show ml (mT g) d (mb_255 g).2 (0, [(0, .ref m0), (1, .int x1)], [], M) _
  have hn := hF.1
  obtain ⟨hca, hcl, hcn⟩ := hC.2.2
  have hp := pd_b h0 (by omega)
  have e4 : (4 : Int32).toInt = 4 := rfl
  have e8 : (8 : Int32).toInt = 8 := rfl
  have d4 : (pd x1 + 4).toInt = (pd x1).toInt + 4 := by rw [i_add (by omega) (by omega), e4]
  have d8 : (pd x1 + 8).toInt = (pd x1).toInt + 8 := by rw [i_add (by omega) (by omega), e8]
  refine ml_st (S' := (1, [(0, .ref m0), (1, .int x1)], [.int x1], M)) rfl rfl rfl ?_
  refine ml_call (a := [.int x1]) (rest := []) rfl (rfl) rfl rfl (rm_pad hR (by omega)) (fun v11 M12 h13 => ?_)
  obtain ⟨rfl, h13⟩ := h13
  rw [h13]
  show ml _ _ _ (4, [(0, .ref m0), (1, .int x1)], [.int (pd x1)], M) _
  refine ml_st (S' := (5, [(2, .int (pd x1)), (0, .ref m0), (1, .int x1)], [], M)) rfl rfl rfl ?_
  refine ml_blk 3 (S' := (8, [(2, .int (pd x1)), (0, .ref m0), (1, .int x1)], [.int x1, .ref m0, .int 1], M)) rfl ?_
  refine ml_call (a := [.ref m0, .int x1]) (rest := [.int 1]) rfl (hR.okc rfl rfl rfl) rfl rfl (rm_b1 hR hF hC (h0) (by omega) (by omega)) (fun v14 M15 h16 => ?_)
  obtain ⟨rfl, h16⟩ := h16
  rw [h16]
  show ml _ _ _ (11, [(2, .int (pd x1)), (0, .ref m0), (1, .int x1)], [.int (f1 f (ca + x1)), .int 1], M) _
  refine ml_st (S' := (14, [(2, .int (pd x1)), (0, .ref m0), (1, .int x1)], [.int 170, .int (f1 f (ca + x1)), .int 1], M)) rfl rfl rfl ?_
  refine ml_if2 (S1 := (38, [(2, .int (pd x1)), (0, .ref m0), (1, .int x1)], [.int 1], M)) (S2 := (17, [(2, .int (pd x1)), (0, .ref m0), (1, .int x1)], [.int 1], M)) rfl rfl rfl (fun c_14 => ?_) (fun c_14 => ?_)
  · have c_14 : ¬ (f1 f (ca + x1)) = 170 := of_decide_eq_true c_14
    refine ml_blk 3 (S' := (41, [(2, .int (pd x1)), (0, .ref m0), (1, .int x1)], [.int 4, .int (pd x1), .ref m0, .int 1], M)) rfl ?_
    refine ml_st (S' := (42, [(2, .int (pd x1)), (0, .ref m0), (1, .int x1)], [.int ((pd x1) + 4), .ref m0, .int 1], M)) rfl rfl rfl ?_
    refine ml_call (a := [.ref m0, .int ((pd x1) + 4)]) (rest := [.int 1]) rfl (hR.okc rfl rfl rfl) rfl rfl (rm_b4 hR hF hC (by omega) (by have q := hs.2 (ho.resolve_left c_14); omega) (by omega)) (fun v17 M18 h19 => ?_)
    obtain ⟨rfl, h19⟩ := h19
    rw [h19]
    show ml _ _ _ (45, [], [.int (B4 f ca ((pd x1) + 4)), .int 1], M) _
    refine ml_st (S' := (46, [], [.int (1 + (B4 f ca ((pd x1) + 4)))], M)) rfl rfl rfl ?_
    exact ml_ret rfl (rfl) (⟨congrArg (fun y => some (Value.int y)) (show _ = wyf f ca x1 by rw [wyf, if_neg c_14]), rfl⟩)
  · have c_14 : ¬ (¬ (f1 f (ca + x1)) = 170) := of_decide_eq_false c_14
    refine ml_blk 3 (S' := (21, [(2, .int (pd x1)), (0, .ref m0), (1, .int x1)], [.int 8, .int (pd x1), .ref m0, .int 1], M)) rfl ?_
    refine ml_st (S' := (22, [(2, .int (pd x1)), (0, .ref m0), (1, .int x1)], [.int ((pd x1) + 8), .ref m0, .int 1], M)) rfl rfl rfl ?_
    refine ml_call (a := [.ref m0, .int ((pd x1) + 8)]) (rest := [.int 1]) rfl (hR.okc rfl rfl rfl) rfl rfl (rm_b4 hR hF hC (by omega) (by have q := hs.1 (Decidable.not_not.mp c_14); omega) (by omega)) (fun v20 M21 h22 => ?_)
    obtain ⟨rfl, h22⟩ := h22
    rw [h22]
    show ml _ _ _ (25, [(2, .int (pd x1)), (0, .ref m0), (1, .int x1)], [.int (B4 f ca ((pd x1) + 8)), .int 1], M) _
    refine ml_blk 3 (S' := (28, [(2, .int (pd x1)), (0, .ref m0), (1, .int x1)], [.int 4, .int (pd x1), .ref m0, .int (B4 f ca ((pd x1) + 8)), .int 1], M)) rfl ?_
    refine ml_st (S' := (29, [(2, .int (pd x1)), (0, .ref m0), (1, .int x1)], [.int ((pd x1) + 4), .ref m0, .int (B4 f ca ((pd x1) + 8)), .int 1], M)) rfl rfl rfl ?_
    refine ml_call (a := [.ref m0, .int ((pd x1) + 4)]) (rest := [.int (B4 f ca ((pd x1) + 8)), .int 1]) rfl (hR.okc rfl rfl rfl) rfl rfl (rm_b4 hR hF hC (by omega) (by have q := hs.1 (Decidable.not_not.mp c_14); omega) (by omega)) (fun v23 M24 h25 => ?_)
    obtain ⟨rfl, h25⟩ := h25
    rw [h25]
    show ml _ _ _ (32, [(2, .int (pd x1)), (0, .ref m0), (1, .int x1)], [.int (B4 f ca ((pd x1) + 4)), .int (B4 f ca ((pd x1) + 8)), .int 1], M) _
    refine ml_blk 3 (S' := (35, [(2, .int (pd x1)), (0, .ref m0), (1, .int x1)], [.int (((B4 f ca ((pd x1) + 8)) - (B4 f ca ((pd x1) + 4))) + 1), .int 1], M)) rfl ?_
    refine ml_st (S' := (45, [], [.int (((B4 f ca ((pd x1) + 8)) - (B4 f ca ((pd x1) + 4))) + 1), .int 1], M)) rfl rfl rfl ?_
    refine ml_st (S' := (46, [], [.int (1 + (((B4 f ca ((pd x1) + 8)) - (B4 f ca ((pd x1) + 4))) + 1))], M)) rfl rfl rfl ?_
    exact ml_ret rfl (rfl) (⟨congrArg (fun y => some (Value.int y)) (show _ = wyf f ca x1 by rw [wyf, if_pos (Decidable.not_not.mp c_14)]), rfl⟩)
set_option maxHeartbeats 2000000 in
theorem rm_wayAt {g : xe_G}  {m0 : Nat} {q : Nat → Nat} {z : Nat × Nat} {I : rI} {R : rR} {M : mi_H} {x1 x2 : Int32} {n : Nat} {f : Nat → Int32} {ca cl : Int32}  (hR : RS g m0 q z I R M) (hF : FK n f I R) (hC : CK n ca cl I R) (h0 : 0 ≤ x1.toInt) (h1 : x1.toInt < cl.toInt) {d : Nat} (hd : 2 ≤ d) : mt (mT g) d 254 [.ref m0, .int x1, .int x2] M (fun v M' => v = some (.int (waf f ca x1 x2)) ∧ M' = M) := by
  obtain ⟨d, rfl⟩ : ∃ e, d = e + 1 := ⟨d - 1, by omega⟩
  refine mt_in (b := mb_254 g) rfl rfl ?_
  show ml (mT g) d (mb_254 g).2 (0, [(0, .ref m0), (1, .int x1), (2, .int x2)], [], M) _
  refine ml_st (S' := (1, [(0, .ref m0), (1, .int x1), (2, .int x2)], [.int x1], M)) rfl rfl rfl ?_
  refine ml_call (a := [.int x1]) (rest := []) rfl (rfl) rfl rfl (rm_pad hR (by omega)) (fun v11 M12 h13 => ?_)
  obtain ⟨rfl, h13⟩ := h13
  rw [h13]
  show ml _ _ _ (4, [(0, .ref m0), (1, .int x1), (2, .int x2)], [.int (pd x1)], M) _
  refine ml_st (S' := (5, [(3, .int (pd x1)), (0, .ref m0), (1, .int x1), (2, .int x2)], [], M)) rfl rfl rfl ?_
  refine ml_st (S' := (6, [(3, .int (pd x1)), (0, .ref m0), (1, .int x1), (2, .int x2)], [.int x2], M)) rfl rfl rfl ?_
  refine ml_if (S1 := (13, [(3, .int (pd x1)), (0, .ref m0), (1, .int x1), (2, .int x2)], [], M)) (S2 := (9, [(3, .int (pd x1)), (0, .ref m0), (1, .int x1), (2, .int x2)], [], M)) rfl rfl rfl (fun c_6 => ?_) (fun c_6 => ?_)
  · have c_6 : ¬ x2 = 0 := of_decide_eq_true c_6
    refine ml_blk 2 (S' := (15, [(3, .int (pd x1)), (0, .ref m0), (1, .int x1), (2, .int x2)], [.int x1, .ref m0], M)) rfl ?_
    refine ml_call (a := [.ref m0, .int x1]) (rest := []) rfl (hR.okc rfl rfl rfl) rfl rfl (rm_b1 hR hF hC (h0) (by omega) (by omega)) (fun v14 M15 h16 => ?_)
    obtain ⟨rfl, h16⟩ := h16
    rw [h16]
    show ml _ _ _ (18, [(3, .int (pd x1)), (0, .ref m0), (1, .int x1), (2, .int x2)], [.int (f1 f (ca + x1))], M) _
    refine ml_st (S' := (21, [(3, .int (pd x1)), (0, .ref m0), (1, .int x1), (2, .int x2)], [.int 170, .int (f1 f (ca + x1))], M)) rfl rfl rfl ?_
    refine ml_if2 (S1 := (35, [(3, .int (pd x1)), (0, .ref m0), (1, .int x1), (2, .int x2)], [], M)) (S2 := (24, [(3, .int (pd x1)), (0, .ref m0), (1, .int x1), (2, .int x2)], [], M)) rfl rfl rfl (fun c_21 => ?_) (fun c_21 => ?_)
    · have c_21 : ¬ (f1 f (ca + x1)) = 170 := of_decide_eq_true c_21
      refine ml_blk 3 (S' := (38, [(3, .int (pd x1)), (0, .ref m0), (1, .int x1), (2, .int x2)], [.int ((pd x1) + 4)], M)) rfl ?_
      refine ml_blk 3 (S' := (42, [(3, .int (pd x1)), (0, .ref m0), (1, .int x1), (2, .int x2)], [.int (8 * x2), .int ((pd x1) + 4)], M)) rfl ?_
      refine ml_st (S' := (43, [], [.int (((pd x1) + 4) + (8 * x2))], M)) rfl rfl rfl ?_
      exact ml_ret rfl (rfl) (⟨congrArg (fun y => some (Value.int y)) (show _ = waf f ca x1 x2 by rw [waf, if_neg c_6, if_neg c_21]), rfl⟩)
    · have c_21 : ¬ (¬ (f1 f (ca + x1)) = 170) := of_decide_eq_false c_21
      refine ml_blk 3 (S' := (28, [(3, .int (pd x1)), (0, .ref m0), (1, .int x1), (2, .int x2)], [.int ((pd x1) + 8)], M)) rfl ?_
      refine ml_blk 3 (S' := (31, [(3, .int (pd x1)), (0, .ref m0), (1, .int x1), (2, .int x2)], [.int (4 * x2), .int ((pd x1) + 8)], M)) rfl ?_
      refine ml_st (S' := (32, [(3, .int (pd x1)), (0, .ref m0), (1, .int x1), (2, .int x2)], [.int (((pd x1) + 8) + (4 * x2))], M)) rfl rfl rfl ?_
      refine ml_st (S' := (43, [], [.int (((pd x1) + 8) + (4 * x2))], M)) rfl rfl rfl ?_
      exact ml_ret rfl (rfl) (⟨congrArg (fun y => some (Value.int y)) (show _ = waf f ca x1 x2 by rw [waf, if_neg c_6, if_pos (Decidable.not_not.mp c_21)]), rfl⟩)
  · have c_6 : ¬ (¬ x2 = 0) := of_decide_eq_false c_6
    refine ml_st (S' := (10, [(3, .int (pd x1)), (0, .ref m0), (1, .int x1), (2, .int x2)], [.int (pd x1)], M)) rfl rfl rfl ?_
    refine ml_st (S' := (43, [], [.int (pd x1)], M)) rfl rfl rfl ?_
    exact ml_ret rfl (rfl) (⟨congrArg (fun y => some (Value.int y)) (show _ = waf f ca x1 x2 by rw [waf, if_pos (Decidable.not_not.mp c_6)]), rfl⟩)
set_option maxHeartbeats 2000000 in
theorem rm_aims {g : xe_G}  {m0 : Nat} {q : Nat → Nat} {z : Nat × Nat} {I : rI} {R : rR} {M : mi_H} {x1 : Int32} {n : Nat} {f : Nat → Int32} {ca cl : Int32}  (hR : RS g m0 q z I R M) (hF : FK n f I R) (hC : CK n ca cl I R) (hI : INS f ca cl x1) (hW : ∀ i, i < cl.toInt.toNat → ∃ v, R 81 i = some v) {d : Nat} (hd : 6 ≤ d) : mt (mT g) d 174 [.ref m0, .int x1] M (fun v M' => (∃ x : Int32, v = some (.int x) ∧ (x = 0 ∨ x = 1) ∧ (x = 0 ∨ AIM f ca cl x1)) ∧ M' = M) := by
  obtain ⟨d, rfl⟩ : ∃ e, d = e + 1 := ⟨d - 1, by omega⟩
  refine mt_in (b := mb_174 g) rfl rfl ?_
  show ml (mT g) d (mb_174 g).2 (0, [(0, .ref m0), (1, .int x1)], [], M) _
  have hn := hF.1
  obtain ⟨hca, hcl, hcn⟩ := hC.2.2
  obtain ⟨h0, nn, hn1, hnn, hln, -, hsw⟩ := hI
  have e1 : (1 : Int32).toInt = 1 := rfl
  have d1 : (x1 + 1).toInt = x1.toInt + 1 := by rw [i_add (by omega) (by omega), e1]
  refine ml_blk 2 (S' := (2, [(0, .ref m0), (1, .int x1)], [.int x1, .ref m0], M)) rfl ?_
  refine ml_call (a := [.ref m0, .int x1]) (rest := []) rfl (hR.okc rfl rfl rfl) rfl rfl (rm_b1 hR hF hC (h0) (by omega) (by omega)) (fun v11 M12 h13 => ?_)
  obtain ⟨rfl, h13⟩ := h13
  rw [h13]
  show ml _ _ _ (5, [(0, .ref m0), (1, .int x1)], [.int (f1 f (ca + x1))], M) _
  refine ml_st (S' := (6, [(2, .int (f1 f (ca + x1))), (0, .ref m0), (1, .int x1)], [], M)) rfl rfl rfl ?_
  refine ml_blk 2 (S' := (10, [(2, .int (f1 f (ca + x1))), (0, .ref m0), (1, .int x1)], [.int 153, .int (f1 f (ca + x1))], M)) rfl ?_
  have J_34 : BRO (f1 f (ca + x1)) → ml (mT g) d (mb_174 g).2 (34, [(0, .ref m0), (1, .int x1)], [], M) (fun v M' => (∃ x : Int32, v = some (.int x) ∧ (x = 0 ∨ x = 1) ∧ (x = 0 ∨ AIM f ca cl x1)) ∧ M' = M) := by
    intro hj_34
    have h3 : (3 : Int) ≤ nn := by rcases hj_34 with h | h | h; exact iln 3 hln 153 168 h.1 h.2 mlk_3_153_168; exact iln 3 hln 198 198 (by rw [show _ = (198 : Int32) from h]; decide) (by rw [show _ = (198 : Int32) from h]; decide) mlk_3_198_198; exact iln 3 hln 199 199 (by rw [show _ = (199 : Int32) from h]; decide) (by rw [show _ = (199 : Int32) from h]; decide) mlk_3_199_199
    refine ml_blk 3 (S' := (37, [(0, .ref m0), (1, .int x1)], [.ref m0, .int x1, .ref m0], M)) rfl ?_
    refine ml_blk 3 (S' := (40, [(0, .ref m0), (1, .int x1)], [.int (x1 + 1), .ref m0, .int x1, .ref m0], M)) rfl ?_
    refine ml_call (a := [.ref m0, .int (x1 + 1)]) (rest := [.int x1, .ref m0]) rfl (hR.okc rfl rfl rfl) rfl rfl (rm_s2 hR hF hC (by omega) (by omega) (by omega)) (fun v14 M15 h16 => ?_)
    obtain ⟨rfl, h16⟩ := h16
    rw [h16]
    show ml _ _ _ (43, [(0, .ref m0), (1, .int x1)], [.int (S2 f ca (x1 + 1)), .int x1, .ref m0], M) _
    refine ml_blk 2 (S' := (45, [(0, .ref m0), (1, .int x1)], [.long (Int32.toInt64 (x1 + (S2 f ca (x1 + 1)))), .ref m0], M)) rfl ?_
    refine ml_call (a := [.ref m0, .long (Int32.toInt64 (x1 + (S2 f ca (x1 + 1))))]) (rest := []) rfl (hR.okc rfl rfl rfl) rfl rfl (rm_starts hR hC (hn) (hW) (by omega)) (fun v17 M18 h19 => ?_)
    obtain ⟨⟨u20, rfl, z21, w22⟩, h19⟩ := h19
    rw [h19]
    show ml _ _ _ (48, [(0, .ref m0), (1, .int x1)], [.int u20], M) _
    exact ml_ret rfl (r_z (z21)) (⟨⟨_, rfl, z21, w22.imp id (fun h => by first | exact AIM.br hj_34 h | exact AIM.wd (by omega) hj_63 h)⟩, rfl⟩)
  have J_20 : (¬ (153 ≤ (f1 f (ca + x1)).toInt ∧ (f1 f (ca + x1)).toInt ≤ 168)) → ml (mT g) d (mb_174 g).2 (20, [(0, .ref m0), (1, .int x1), (2, .int (f1 f (ca + x1)))], [], M) (fun v M' => (∃ x : Int32, v = some (.int x) ∧ (x = 0 ∨ x = 1) ∧ (x = 0 ∨ AIM f ca cl x1)) ∧ M' = M) := by
    intro hj_20
    refine ml_blk 2 (S' := (24, [(0, .ref m0), (1, .int x1), (2, .int (f1 f (ca + x1)))], [.int 198, .int (f1 f (ca + x1))], M)) rfl ?_
    refine ml_if2 (S1 := (34, [(0, .ref m0), (1, .int x1)], [], M)) (S2 := (27, [(0, .ref m0), (1, .int x1), (2, .int (f1 f (ca + x1)))], [], M)) rfl rfl rfl (fun c_24 => ?_) (fun c_24 => ?_)
    · have c_24 : (f1 f (ca + x1)) = 198 := of_decide_eq_true c_24
      exact J_34  (Or.inr (Or.inl c_24))
    · have c_24 : ¬ ((f1 f (ca + x1)) = 198) := of_decide_eq_false c_24
      refine ml_blk 2 (S' := (31, [(0, .ref m0), (1, .int x1), (2, .int (f1 f (ca + x1)))], [.int 199, .int (f1 f (ca + x1))], M)) rfl ?_
      refine ml_if2 (S1 := (49, [(0, .ref m0), (1, .int x1), (2, .int (f1 f (ca + x1)))], [], M)) (S2 := (34, [(0, .ref m0), (1, .int x1)], [], M)) rfl rfl rfl (fun c_31 => ?_) (fun c_31 => ?_)
      · have c_31 : ¬ (f1 f (ca + x1)) = 199 := of_decide_eq_true c_31
        refine ml_blk 2 (S' := (53, [(0, .ref m0), (1, .int x1), (2, .int (f1 f (ca + x1)))], [.int 200, .int (f1 f (ca + x1))], M)) rfl ?_
        have J_63 : (f1 f (ca + x1) = 200 ∨ f1 f (ca + x1) = 201) → ml (mT g) d (mb_174 g).2 (63, [(0, .ref m0), (1, .int x1)], [], M) (fun v M' => (∃ x : Int32, v = some (.int x) ∧ (x = 0 ∨ x = 1) ∧ (x = 0 ∨ AIM f ca cl x1)) ∧ M' = M) := by
          intro hj_63
          have h5 : (5 : Int) ≤ nn := by rcases hj_63 with h | h; exact iln 5 hln 200 200 (by rw [show _ = (200 : Int32) from h]; decide) (by rw [show _ = (200 : Int32) from h]; decide) mlk_5_200_200; exact iln 5 hln 201 201 (by rw [show _ = (201 : Int32) from h]; decide) (by rw [show _ = (201 : Int32) from h]; decide) mlk_5_201_201
          refine ml_blk 3 (S' := (66, [(0, .ref m0), (1, .int x1)], [.long (Int32.toInt64 x1), .ref m0], M)) rfl ?_
          refine ml_blk 3 (S' := (69, [(0, .ref m0), (1, .int x1)], [.int 1, .int x1, .ref m0, .long (Int32.toInt64 x1), .ref m0], M)) rfl ?_
          refine ml_st (S' := (70, [(0, .ref m0), (1, .int x1)], [.int (x1 + 1), .ref m0, .long (Int32.toInt64 x1), .ref m0], M)) rfl rfl rfl ?_
          refine ml_call (a := [.ref m0, .int (x1 + 1)]) (rest := [.long (Int32.toInt64 x1), .ref m0]) rfl (hR.okc rfl rfl rfl) rfl rfl (rm_b4 hR hF hC (by omega) (by omega) (by omega)) (fun v23 M24 h25 => ?_)
          obtain ⟨rfl, h25⟩ := h25
          rw [h25]
          show ml _ _ _ (73, [(0, .ref m0), (1, .int x1)], [.int (B4 f ca (x1 + 1)), .long (Int32.toInt64 x1), .ref m0], M) _
          refine ml_blk 2 (S' := (75, [(0, .ref m0), (1, .int x1)], [.long ((Int32.toInt64 x1) + (Int32.toInt64 (B4 f ca (x1 + 1)))), .ref m0], M)) rfl ?_
          refine ml_call (a := [.ref m0, .long ((Int32.toInt64 x1) + (Int32.toInt64 (B4 f ca (x1 + 1))))]) (rest := []) rfl (hR.okc rfl rfl rfl) rfl rfl (rm_starts hR hC (hn) (hW) (by omega)) (fun v26 M27 h28 => ?_)
          obtain ⟨⟨u29, rfl, z30, w31⟩, h28⟩ := h28
          rw [h28]
          show ml _ _ _ (78, [(0, .ref m0), (1, .int x1)], [.int u29], M) _
          exact ml_ret rfl (r_z (z30)) (⟨⟨_, rfl, z30, w31.imp id (fun h => by first | exact AIM.br hj_34 h | exact AIM.wd (by omega) hj_63 h)⟩, rfl⟩)
        refine ml_if2 (S1 := (63, [(0, .ref m0), (1, .int x1)], [], M)) (S2 := (56, [(0, .ref m0), (1, .int x1), (2, .int (f1 f (ca + x1)))], [], M)) rfl rfl rfl (fun c_53 => ?_) (fun c_53 => ?_)
        · have c_53 : (f1 f (ca + x1)) = 200 := of_decide_eq_true c_53
          exact J_63  (Or.inl c_53)
        · have c_53 : ¬ ((f1 f (ca + x1)) = 200) := of_decide_eq_false c_53
          refine ml_blk 2 (S' := (60, [(0, .ref m0), (1, .int x1), (2, .int (f1 f (ca + x1)))], [.int 201, .int (f1 f (ca + x1))], M)) rfl ?_
          refine ml_if2 (S1 := (79, [(0, .ref m0), (1, .int x1), (2, .int (f1 f (ca + x1)))], [], M)) (S2 := (63, [(0, .ref m0), (1, .int x1)], [], M)) rfl rfl rfl (fun c_60 => ?_) (fun c_60 => ?_)
          · have c_60 : ¬ (f1 f (ca + x1)) = 201 := of_decide_eq_true c_60
            refine ml_blk 2 (S' := (83, [(0, .ref m0), (1, .int x1), (2, .int (f1 f (ca + x1)))], [.int 170, .int (f1 f (ca + x1))], M)) rfl ?_
            have J_93 : (f1 f (ca + x1) = 170 ∨ f1 f (ca + x1) = 171) → ml (mT g) d (mb_174 g).2 (93, [(0, .ref m0), (1, .int x1)], [], M) (fun v M' => (∃ x : Int32, v = some (.int x) ∧ (x = 0 ∨ x = 1) ∧ (x = 0 ∨ AIM f ca cl x1)) ∧ M' = M) := by
              intro hj_93
              refine ml_st (S' := (94, [(0, .ref m0), (1, .int x1)], [.int 0], M)) rfl rfl rfl ?_
              refine ml_st (S' := (95, [(0, .ref m0), (1, .int x1), (3, .int 0)], [], M)) rfl rfl rfl ?_
              have L_95 : ∀ (n_95 : Nat) (i95_3 : Int32), (2147483648 - i95_3.toInt).toNat ≤ n_95 → (0 ≤ i95_3.toInt ∧ ∀ i : Int32, 0 ≤ i.toInt → i.toInt < i95_3.toInt → 0 ≤ (x1 + B4 f ca (waf f ca x1 i)).toInt ∧ (x1 + B4 f ca (waf f ca x1 i)).toInt < cl.toInt) → ml (mT g) d (mb_174 g).2 (95, [(0, .ref m0), (1, .int x1), (3, .int i95_3)], [], M) (fun v M' => (∃ x : Int32, v = some (.int x) ∧ (x = 0 ∨ x = 1) ∧ (x = 0 ∨ AIM f ca cl x1)) ∧ M' = M) := by
                intro n_95
                induction n_95 with
                | zero => intro i95_3 hn; exact (loop_zero hn).elim
                | succ n_95 ih_95 =>
                  intro i95_3 hn_95 hi_95
                  obtain ⟨hk0, hka⟩ := hi_95
                  refine ml_blk 3 (S' := (98, [(0, .ref m0), (1, .int x1), (3, .int i95_3)], [.int x1, .ref m0, .int i95_3], M)) rfl ?_
                  refine ml_call (a := [.ref m0, .int x1]) (rest := [.int i95_3]) rfl (hR.okc rfl rfl rfl) rfl rfl (rm_ways hR hF hC (h0) (by omega) (hsw hj_93) (hj_93) (by omega)) (fun v32 M33 h34 => ?_)
                  obtain ⟨rfl, h34⟩ := h34
                  rw [h34]
                  show ml _ _ _ (101, [(0, .ref m0), (1, .int x1), (3, .int i95_3)], [.int (wyf f ca x1), .int i95_3], M) _
                  refine ml_if2 (S1 := (133, [], [], M)) (S2 := (104, [(0, .ref m0), (1, .int x1), (3, .int i95_3)], [], M)) rfl rfl rfl (fun c_101 => ?_) (fun c_101 => ?_)
                  · have c_101 : (wyf f ca x1) ≤ i95_3 := of_decide_eq_true c_101
                    refine ml_st (S' := (134, [], [.int 1], M)) rfl rfl rfl ?_
                    exact ml_ret rfl (r_z (Or.inr rfl)) (⟨⟨_, rfl, Or.inr rfl, Or.inr (AIM.sw hj_93 (fun i a b => hka i a (by have := i_le c_101; omega)))⟩, rfl⟩)
                  · have c_101 : ¬ ((wyf f ca x1) ≤ i95_3) := of_decide_eq_false c_101
                    have hlt := i_nle c_101
                    have hwb := waf_b (by omega) h0 (by omega) (hsw hj_93) hj_93 hk0 hlt
                    refine ml_blk 3 (S' := (107, [(0, .ref m0), (1, .int x1), (3, .int i95_3)], [.long (Int32.toInt64 x1), .ref m0], M)) rfl ?_
                    refine ml_blk 3 (S' := (110, [(0, .ref m0), (1, .int x1), (3, .int i95_3)], [.int x1, .ref m0, .ref m0, .long (Int32.toInt64 x1), .ref m0], M)) rfl ?_
                    refine ml_st (S' := (111, [(0, .ref m0), (1, .int x1), (3, .int i95_3)], [.int i95_3, .int x1, .ref m0, .ref m0, .long (Int32.toInt64 x1), .ref m0], M)) rfl rfl rfl ?_
                    refine ml_call (a := [.ref m0, .int x1, .int i95_3]) (rest := [.ref m0, .long (Int32.toInt64 x1), .ref m0]) rfl (hR.okc rfl rfl rfl) rfl rfl (rm_wayAt hR hF hC (h0) (by omega) (by omega)) (fun v35 M36 h37 => ?_)
                    obtain ⟨rfl, h37⟩ := h37
                    rw [h37]
                    show ml _ _ _ (114, [(0, .ref m0), (1, .int x1), (3, .int i95_3)], [.int (waf f ca x1 i95_3), .ref m0, .long (Int32.toInt64 x1), .ref m0], M) _
                    refine ml_call (a := [.ref m0, .int (waf f ca x1 i95_3)]) (rest := [.long (Int32.toInt64 x1), .ref m0]) rfl (hR.okc rfl rfl rfl) rfl rfl (rm_b4 hR hF hC (hwb.1) (hwb.2) (by omega)) (fun v38 M39 h40 => ?_)
                    obtain ⟨rfl, h40⟩ := h40
                    rw [h40]
                    show ml _ _ _ (117, [(0, .ref m0), (1, .int x1), (3, .int i95_3)], [.int (B4 f ca (waf f ca x1 i95_3)), .long (Int32.toInt64 x1), .ref m0], M) _
                    refine ml_blk 2 (S' := (119, [(0, .ref m0), (1, .int x1), (3, .int i95_3)], [.long ((Int32.toInt64 x1) + (Int32.toInt64 (B4 f ca (waf f ca x1 i95_3)))), .ref m0], M)) rfl ?_
                    refine ml_call (a := [.ref m0, .long ((Int32.toInt64 x1) + (Int32.toInt64 (B4 f ca (waf f ca x1 i95_3))))]) (rest := []) rfl (hR.okc rfl rfl rfl) rfl rfl (rm_starts hR hC (hn) (hW) (by omega)) (fun v41 M42 h43 => ?_)
                    obtain ⟨⟨u44, rfl, z45, w46⟩, h43⟩ := h43
                    rw [h43]
                    show ml _ _ _ (122, [(0, .ref m0), (1, .int x1), (3, .int i95_3)], [.int u44], M) _
                    have hst := w46
                    refine ml_if (S1 := (127, [(0, .ref m0), (1, .int x1), (3, .int i95_3)], [], M)) (S2 := (125, [(0, .ref m0), (1, .int x1), (3, .int i95_3)], [], M)) rfl rfl rfl (fun c_122 => ?_) (fun c_122 => ?_)
                    · have c_122 : ¬ u44 = 0 := of_decide_eq_true c_122
                      refine ml_st (S' := (130, [(3, .int (i95_3 + 1)), (0, .ref m0), (1, .int x1)], [], M)) rfl rfl rfl ?_
                      refine ml_st (S' := (95, [(0, .ref m0), (1, .int x1), (3, .int (i95_3 + 1))], [], M)) rfl rfl rfl ?_
                      exact ih_95 (i95_3 + 1) (loop_inc (Int32.not_le.mp c_101) hn_95) (⟨by rw [inc_lt (Int32.not_le.mp c_101)]; omega, fun i a b => by rw [inc_lt (Int32.not_le.mp c_101)] at b; by_cases e : i.toInt = i95_3.toInt; (rw [Int32.toInt_inj.mp e]; exact to_in (by omega) (hst.resolve_left c_122)); exact hka i a (by omega)⟩)
                    · have c_122 : ¬ (¬ u44 = 0) := of_decide_eq_false c_122
                      refine ml_st (S' := (126, [(0, .ref m0), (1, .int x1), (3, .int i95_3)], [.int 0], M)) rfl rfl rfl ?_
                      exact ml_ret rfl (r_z (Or.inl rfl)) (⟨⟨_, rfl, Or.inl rfl, Or.inl rfl⟩, rfl⟩)
              exact L_95 _ 0 (Nat.le_refl _) (⟨by decide, fun i a b => absurd b (by have : (0 : Int32).toInt = 0 := rfl; omega)⟩)
            refine ml_if2 (S1 := (93, [(0, .ref m0), (1, .int x1)], [], M)) (S2 := (86, [(0, .ref m0), (1, .int x1), (2, .int (f1 f (ca + x1)))], [], M)) rfl rfl rfl (fun c_83 => ?_) (fun c_83 => ?_)
            · have c_83 : (f1 f (ca + x1)) = 170 := of_decide_eq_true c_83
              exact J_93  (Or.inl c_83)
            · have c_83 : ¬ ((f1 f (ca + x1)) = 170) := of_decide_eq_false c_83
              refine ml_blk 2 (S' := (90, [(0, .ref m0), (1, .int x1), (2, .int (f1 f (ca + x1)))], [.int 171, .int (f1 f (ca + x1))], M)) rfl ?_
              refine ml_if2 (S1 := (133, [], [], M)) (S2 := (93, [(0, .ref m0), (1, .int x1)], [], M)) rfl rfl rfl (fun c_90 => ?_) (fun c_90 => ?_)
              · have c_90 : ¬ (f1 f (ca + x1)) = 171 := of_decide_eq_true c_90
                refine ml_st (S' := (134, [], [.int 1], M)) rfl rfl rfl ?_
                exact ml_ret rfl (r_z (Or.inr rfl)) (⟨⟨_, rfl, Or.inr rfl, Or.inr (AIM.no (fun h => h.elim hj_20 (fun h => h.elim c_24 c_31)) (fun h => h.elim c_53 c_60) (fun h => h.elim c_83 c_90))⟩, rfl⟩)
              · have c_90 : ¬ (¬ (f1 f (ca + x1)) = 171) := of_decide_eq_false c_90
                exact J_93  (Or.inr (Decidable.not_not.mp c_90))
          · have c_60 : ¬ (¬ (f1 f (ca + x1)) = 201) := of_decide_eq_false c_60
            exact J_63  (Or.inr (Decidable.not_not.mp c_60))
      · have c_31 : ¬ (¬ (f1 f (ca + x1)) = 199) := of_decide_eq_false c_31
        exact J_34  (Or.inr (Or.inr (Decidable.not_not.mp c_31)))
  refine ml_if2 (S1 := (20, [(0, .ref m0), (1, .int x1), (2, .int (f1 f (ca + x1)))], [], M)) (S2 := (13, [(2, .int (f1 f (ca + x1))), (0, .ref m0), (1, .int x1)], [], M)) rfl rfl rfl (fun c_10 => ?_) (fun c_10 => ?_)
  · have c_10 : (f1 f (ca + x1)) < 153 := of_decide_eq_true c_10
    exact J_20  (fun h => by have := i_lt c_10; have : (153 : Int32).toInt = 153 := rfl; omega)
  · have c_10 : ¬ ((f1 f (ca + x1)) < 153) := of_decide_eq_false c_10
    refine ml_blk 2 (S' := (17, [(2, .int (f1 f (ca + x1))), (0, .ref m0), (1, .int x1)], [.int 168, .int (f1 f (ca + x1))], M)) rfl ?_
    refine ml_if2 (S1 := (34, [(0, .ref m0), (1, .int x1)], [], M)) (S2 := (20, [(0, .ref m0), (1, .int x1), (2, .int (f1 f (ca + x1)))], [], M)) rfl rfl rfl (fun c_17 => ?_) (fun c_17 => ?_)
    · have c_17 : (f1 f (ca + x1)) ≤ 168 := of_decide_eq_true c_17
      exact J_34  (Or.inl ⟨by have := i_nlt c_10; have : (153 : Int32).toInt = 153 := rfl; omega, by have := i_le c_17; have : (168 : Int32).toInt = 168 := rfl; omega⟩)
    · have c_17 : ¬ ((f1 f (ca + x1)) ≤ 168) := of_decide_eq_false c_17
      exact J_20  (fun h => by have := i_nle c_17; have : (168 : Int32).toInt = 168 := rfl; omega)
end
