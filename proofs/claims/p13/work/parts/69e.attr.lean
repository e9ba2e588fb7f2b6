section
set_option maxHeartbeats 2000000 in
theorem rm_attr4 {g : xe_G}  {m0 : Nat} {q : Nat → Nat} {z : Nat × Nat} {I : rI} {R : rR} {M : mi_H} {x1 x2 x3 x4 x5 x6 nf : Int32} {n : Nat} {f : Nat → Int32} {S cN : Nat} {sa sl ch : Nat → Int32} {cp mj : Int32} {pa py : Nat → Int32}  (hR : RS g m0 q z I R M) (hk58 : I 58 = some nf) (hF : FK n f I R) (hY : SK S cN sa sl ch I R) (hP : PK n f S cp mj pa py I R) (hw : 4 ≤ x1.toInt ∧ x1.toInt ≤ 9) (h0 : 0 ≤ x3.toInt) (h1 : x3.toInt ≤ x4.toInt) (h2 : x4.toInt ≤ n) (hN : NW f n I) {d : Nat} (hd : 6 ≤ d) : mt (mT g) d 177 [.ref m0, .int x1, .int x2, .int x3, .int x4, .int x5, .int x6] M (fun v M' => ∃ (x : Int32) (I' : rI) (R' : rR), v = some (.int x) ∧ RS g m0 q z I' R' M' ∧ eqI [47, 48, 65, 67, 68, 69, 70, 71, 72] I I' ∧ eqR [] R R' ∧ NW f n I') := by
  obtain ⟨d, rfl⟩ : ∃ e, d = e + 1 := ⟨d - 1, by omega⟩
  refine mt_in (b := mb_177 g) rfl rfl ?_
  show ml (mT g) d (mb_177 g).2 (0, [(0, .ref m0), (1, .int x1), (2, .int x2), (3, .int x3), (4, .int x4), (5, .int x5), (6, .int x6)], [], M) _
  have hn := hF.1
  refine ml_st (S' := (1, [(0, .ref m0), (1, .int x1), (2, .int x2), (3, .int x3), (4, .int x4), (5, .int x5), (6, .int x6)], [.int x1], M)) rfl rfl rfl ?_
  refine ml_sw rfl (fun t_1 ht_1 => ?_)
  have kt_1 := ht_1
  have ht_1 : t_1 ∈ [56, 208, 219, 398, 400, 542, 550, 600] := mi_sw_sub ht_1 (by decide)
  simp only [List.mem_cons, List.not_mem_nil, or_false] at ht_1
  rcases ht_1 with rfl | rfl | rfl | rfl | rfl | rfl | rfl | rfl
  · show ml _ _ _ (56, [(0, .ref m0), (1, .int x1), (2, .int x2), (3, .int x3), (4, .int x4), (5, .int x5), (6, .int x6)], [], M) _
    exfalso
    rcases w49 hw with h | h | h | h | h | h <;> (rw [h] at kt_1; exact absurd kt_1 (by decide))
  · show ml _ _ _ (208, [(0, .ref m0), (1, .int x1), (2, .int x2), (3, .int x3), (4, .int x4), (5, .int x5), (6, .int x6)], [], M) _
    exfalso
    rcases w49 hw with h | h | h | h | h | h <;> (rw [h] at kt_1; exact absurd kt_1 (by decide))
  · show ml _ _ _ (219, [(0, .ref m0), (1, .int x1), (2, .int x2), (3, .int x3), (4, .int x4), (5, .int x5), (6, .int x6)], [], M) _
    refine ml_blk 3 (S' := (223, [(0, .ref m0), (1, .int x1), (2, .int x2), (3, .int x3), (4, .int x4), (5, .int x5), (6, .int x6)], [.int (x4 - x3)], M)) rfl ?_
    refine ml_st (S' := (224, [(0, .ref m0), (1, .int x1), (2, .int x2), (3, .int x3), (4, .int x4), (5, .int x5), (6, .int x6)], [.int 2, .int (x4 - x3)], M)) rfl rfl rfl ?_
    refine ml_if2 (S1 := (243, [], [], M)) (S2 := (227, [(0, .ref m0), (1, .int x1), (2, .int x2), (3, .int x3), (4, .int x4), (5, .int x5), (6, .int x6)], [], M)) rfl rfl rfl (fun c_224 => ?_) (fun c_224 => ?_)
    · have c_224 : (x4 - x3) < 2 := of_decide_eq_true c_224
      refine ml_st (S' := (245, [], [.int 30], M)) rfl rfl rfl ?_
      exact ml_ret rfl (rfl) (⟨_, _, _, rfl, hR, eqI.rf, eqR.rf, hN⟩)
    · have c_224 : ¬ ((x4 - x3) < 2) := of_decide_eq_false c_224
      have hd2 := i_nlt c_224
      rw [i_sub (by omega) (by omega)] at hd2
      have i2_ : (2 : Int32).toInt = 2 := rfl
      have hc0 := f2_pos (f := f) (x := x3)
      have hc1 := f2_le (f := f) (x := x3)
      refine ml_blk 3 (S' := (231, [(0, .ref m0), (1, .int x1), (2, .int x2), (3, .int x3), (4, .int x4), (5, .int x5), (6, .int x6)], [.int (x4 - x3)], M)) rfl ?_
      refine ml_blk 3 (S' := (234, [(0, .ref m0), (1, .int x1), (2, .int x2), (3, .int x3), (4, .int x4), (5, .int x5), (6, .int x6)], [.ref m0, .int 2, .int 2, .int (x4 - x3)], M)) rfl ?_
      refine ml_st (S' := (235, [(0, .ref m0), (1, .int x1), (2, .int x2), (3, .int x3), (4, .int x4), (5, .int x5), (6, .int x6)], [.int x3, .ref m0, .int 2, .int 2, .int (x4 - x3)], M)) rfl rfl rfl ?_
      refine ml_call (a := [.ref m0, .int x3]) (rest := [.int 2, .int 2, .int (x4 - x3)]) rfl (hR.okc rfl rfl rfl) rfl rfl (rm_u2 hR hF (h0) (by omega) (by omega)) (fun v11 M12 h13 => ?_)
      obtain ⟨rfl, h13⟩ := h13
      rw [h13]
      show ml _ _ _ (238, [(0, .ref m0), (1, .int x1), (2, .int x2), (3, .int x3), (4, .int x4), (5, .int x5), (6, .int x6)], [.int (f2 f x3), .int 2, .int 2, .int (x4 - x3)], M) _
      refine ml_blk 2 (S' := (240, [(0, .ref m0), (1, .int x1), (2, .int x2), (3, .int x3), (4, .int x4), (5, .int x5), (6, .int x6)], [.int (2 + (2 * (f2 f x3))), .int (x4 - x3)], M)) rfl ?_
      refine ml_if2 (S1 := (246, [(0, .ref m0), (1, .int x1), (2, .int x2), (3, .int x3), (4, .int x4), (5, .int x5), (6, .int x6)], [], M)) (S2 := (243, [], [], M)) rfl rfl rfl (fun c_240 => ?_) (fun c_240 => ?_)
      · have c_240 : (x4 - x3) = (2 + (2 * (f2 f x3))) := of_decide_eq_true c_240
        have hde : (x4 - x3).toInt = (2 + 2 * f2 f x3).toInt := congrArg Int32.toInt c_240
        rw [i_sub (by omega) (by omega), i_add (by rw [two_k hc0 (by omega)]; omega) (by rw [two_k hc0 (by omega)]; omega), two_k hc0 (by omega)] at hde
        refine ml_blk 2 (S' := (249, [(0, .ref m0), (1, .int x1), (2, .int x2), (3, .int x3), (4, .int x4), (5, .int x5), (6, .int x6)], [.int 9, .int x1], M)) rfl ?_
        refine ml_if2 (S1 := (265, [(0, .ref m0), (1, .int x1), (3, .int x3), (5, .int x5), (6, .int x6)], [], M)) (S2 := (252, [(0, .ref m0), (1, .int x1), (2, .int x2), (3, .int x3), (4, .int x4), (5, .int x5), (6, .int x6)], [], M)) rfl rfl rfl (fun c_249 => ?_) (fun c_249 => ?_)
        · have c_249 : ¬ x1 = 9 := of_decide_eq_true c_249
          refine ml_st (S' := (266, [(0, .ref m0), (1, .int x1), (3, .int x3), (5, .int x5), (6, .int x6)], [.int 0], M)) rfl rfl rfl ?_
          refine ml_st (S' := (268, [(0, .ref m0), (1, .int x1), (3, .int x3), (5, .int x5), (6, .int x6), (9, .int 0)], [], M)) rfl rfl rfl ?_
          have L_268 : ∀ (n_268 : Nat) (i268_9 : Int32), (2147483648 - i268_9.toInt).toNat ≤ n_268 → 0 ≤ i268_9.toInt → ml (mT g) d (mb_177 g).2 (268, [(0, .ref m0), (1, .int x1), (3, .int x3), (5, .int x5), (6, .int x6), (9, .int i268_9)], [], M) (fun v M' => ∃ (x : Int32) (I' : rI) (R' : rR), v = some (.int x) ∧ RS g m0 q z I' R' M' ∧ eqI [47, 48, 65, 67, 68, 69, 70, 71, 72] I I' ∧ eqR [] R R' ∧ NW f n I') := by
            intro n_268
            induction n_268 with
            | zero => intro i268_9 hn; exact (loop_zero hn).elim
            | succ n_268 ih_268 =>
              intro i268_9 hn_268 hi_268
              refine ml_blk 3 (S' := (272, [(0, .ref m0), (1, .int x1), (3, .int x3), (5, .int x5), (6, .int x6), (9, .int i268_9)], [.int x3, .ref m0, .int i268_9], M)) rfl ?_
              refine ml_call (a := [.ref m0, .int x3]) (rest := [.int i268_9]) rfl (hR.okc rfl rfl rfl) rfl rfl (rm_u2 hR hF (h0) (by omega) (by omega)) (fun v14 M15 h16 => ?_)
              obtain ⟨rfl, h16⟩ := h16
              rw [h16]
              show ml _ _ _ (275, [(0, .ref m0), (1, .int x1), (3, .int x3), (5, .int x5), (6, .int x6), (9, .int i268_9)], [.int (f2 f x3), .int i268_9], M) _
              refine ml_if2 (S1 := (329, [(0, .ref m0), (1, .int x1), (3, .int x3), (5, .int x5), (6, .int x6), (9, .int i268_9)], [], M)) (S2 := (278, [(0, .ref m0), (1, .int x1), (3, .int x3), (5, .int x5), (6, .int x6), (9, .int i268_9)], [], M)) rfl rfl rfl (fun c_275 => ?_) (fun c_275 => ?_)
              · have c_275 : (f2 f x3) ≤ i268_9 := of_decide_eq_true c_275
                refine ml_blk 2 (S' := (332, [(0, .ref m0), (1, .int x1), (3, .int x3), (5, .int x5), (6, .int x6), (9, .int i268_9)], [.int 7, .int x1], M)) rfl ?_
                refine ml_if2 (S1 := (349, [(0, .ref m0), (1, .int x1), (3, .int x3), (5, .int x5)], [], M)) (S2 := (335, [(0, .ref m0), (1, .int x1), (3, .int x3), (5, .int x5), (6, .int x6), (9, .int i268_9)], [], M)) rfl rfl rfl (fun c_332 => ?_) (fun c_332 => ?_)
                · have c_332 : ¬ x1 = 7 := of_decide_eq_true c_332
                  refine ml_blk 2 (S' := (351, [(0, .ref m0), (1, .int x1), (3, .int x3), (5, .int x5)], [.int 2, .int x1], M)) rfl ?_
                  refine ml_if2 (S1 := (366, [(0, .ref m0), (1, .int x1), (3, .int x3)], [], M)) (S2 := (354, [(0, .ref m0), (1, .int x1), (3, .int x3), (5, .int x5)], [], M)) rfl rfl rfl (fun c_351 => ?_) (fun c_351 => ?_)
                  rotate_left
                  · exact absurd ((show ¬ x1 = 2 from fun h => by have q := hw.1; rw [h] at q; exact absurd q (by decide))) (of_decide_eq_false c_351)
                  refine ml_blk 2 (S' := (369, [(0, .ref m0), (1, .int x1), (3, .int x3)], [.int 7, .int x1], M)) rfl ?_
                  refine ml_if2 (S1 := (381, [(0, .ref m0), (1, .int x1), (3, .int x3)], [], M)) (S2 := (372, [(0, .ref m0), (1, .int x1), (3, .int x3)], [], M)) rfl rfl rfl (fun c_369 => ?_) (fun c_369 => ?_)
                  · have c_369 : ¬ x1 = 7 := of_decide_eq_true c_369
                    refine ml_blk 2 (S' := (384, [(0, .ref m0), (1, .int x1), (3, .int x3)], [.int 9, .int x1], M)) rfl ?_
                    refine ml_if2 (S1 := (396, [], [], M)) (S2 := (387, [(0, .ref m0), (1, .int x1), (3, .int x3)], [], M)) rfl rfl rfl (fun c_384 => ?_) (fun c_384 => ?_)
                    · have c_384 : ¬ x1 = 9 := of_decide_eq_true c_384
                      refine ml_st (S' := (397, [], [.int 0], M)) rfl rfl rfl ?_
                      exact ml_ret rfl (rfl) (⟨_, _, _, rfl, hR, eqI.rf, eqR.rf, hN⟩)
                    · have c_384 : ¬ (¬ x1 = 9) := of_decide_eq_false c_384
                      refine ml_blk 3 (S' := (390, [(0, .ref m0), (1, .int x1), (3, .int x3)], [.int x3, .ref m0, .ref m0], M)) rfl ?_
                      refine ml_call (a := [.ref m0, .int x3]) (rest := [.ref m0]) rfl (hR.okc rfl rfl rfl) rfl rfl (rm_u2 hR hF (h0) (by omega) (by omega)) (fun v17 M18 h19 => ?_)
                      obtain ⟨rfl, h19⟩ := h19
                      rw [h19]
                      show ml _ _ _ (393, [(0, .ref m0), (1, .int x1), (3, .int x3)], [.int (f2 f x3), .ref m0], M) _
                      refine rp_int rfl hR rfl (fun M20 I21 hR22 e23 f24 => ?_)
                      show ml _ _ _ (396, [], [], M20) _
                      refine ml_st (S' := (397, [], [.int 0], M20)) rfl rfl rfl ?_
                      exact ml_ret rfl (rfl) (⟨_, _, _, rfl, hR22, (eqI.rf.put f24 (by decide)), eqR.rf, (hN.put (by decide) e23 f24)⟩)
                  · have c_369 : ¬ (¬ x1 = 7) := of_decide_eq_false c_369
                    refine ml_blk 3 (S' := (375, [(0, .ref m0), (1, .int x1), (3, .int x3)], [.int x3, .ref m0, .ref m0], M)) rfl ?_
                    refine ml_call (a := [.ref m0, .int x3]) (rest := [.ref m0]) rfl (hR.okc rfl rfl rfl) rfl rfl (rm_u2 hR hF (h0) (by omega) (by omega)) (fun v25 M26 h27 => ?_)
                    obtain ⟨rfl, h27⟩ := h27
                    rw [h27]
                    show ml _ _ _ (378, [(0, .ref m0), (1, .int x1), (3, .int x3)], [.int (f2 f x3), .ref m0], M) _
                    refine rp_int rfl hR rfl (fun M28 I29 hR30 e31 f32 => ?_)
                    show ml _ _ _ (381, [(0, .ref m0), (1, .int x1), (3, .int x3)], [], M28) _
                    refine ml_blk 2 (S' := (384, [(0, .ref m0), (1, .int x1), (3, .int x3)], [.int 9, .int x1], M28)) rfl ?_
                    refine ml_if2 (S1 := (396, [], [], M28)) (S2 := (387, [(0, .ref m0), (1, .int x1), (3, .int x3)], [], M28)) rfl rfl rfl (fun c_384 => ?_) (fun c_384 => ?_)
                    · have c_384 : ¬ x1 = 9 := of_decide_eq_true c_384
                      refine ml_st (S' := (397, [], [.int 0], M28)) rfl rfl rfl ?_
                      exact ml_ret rfl (rfl) (⟨_, _, _, rfl, hR30, (eqI.rf.put f32 (by decide)), eqR.rf, (hN.put (by decide) e31 f32)⟩)
                    · have c_384 : ¬ (¬ x1 = 9) := of_decide_eq_false c_384
                      refine ml_blk 3 (S' := (390, [(0, .ref m0), (1, .int x1), (3, .int x3)], [.int x3, .ref m0, .ref m0], M28)) rfl ?_
                      have hF33 : FK n f I29 R := (hF.mono (pIx f32 (by decide)) (fun _ _ => rfl))
                      refine ml_call (a := [.ref m0, .int x3]) (rest := [.ref m0]) rfl (hR30.okc rfl rfl rfl) rfl rfl (rm_u2 hR30 hF33 (h0) (by omega) (by omega)) (fun v34 M35 h36 => ?_)
                      obtain ⟨rfl, h36⟩ := h36
                      rw [h36]
                      show ml _ _ _ (393, [(0, .ref m0), (1, .int x1), (3, .int x3)], [.int (f2 f x3), .ref m0], M28) _
                      refine rp_int rfl hR30 rfl (fun M37 I38 hR39 e40 f41 => ?_)
                      show ml _ _ _ (396, [], [], M37) _
                      refine ml_st (S' := (397, [], [.int 0], M37)) rfl rfl rfl ?_
                      exact ml_ret rfl (rfl) (⟨_, _, _, rfl, hR39, ((eqI.rf.put f32 (by decide)).put f41 (by decide)), eqR.rf, ((hN.put (by decide) e31 f32).put (by decide) e40 f41)⟩)
                · have c_332 : ¬ (¬ x1 = 7) := of_decide_eq_false c_332
                  refine ml_blk 3 (S' := (340, [(0, .ref m0), (1, .int x1), (3, .int x3), (5, .int x5), (6, .int x6), (9, .int i268_9)], [.int (x6 >>> (6 &&& 31))], M)) rfl ?_
                  refine ml_blk 3 (S' := (343, [(0, .ref m0), (1, .int x1), (3, .int x3), (5, .int x5), (6, .int x6), (9, .int i268_9)], [.int 1, .int ((x6 >>> (6 &&& 31)) &&& 1)], M)) rfl ?_
                  refine ml_if2 (S1 := (349, [(0, .ref m0), (1, .int x1), (3, .int x3), (5, .int x5)], [], M)) (S2 := (346, [(0, .ref m0), (1, .int x1), (3, .int x3), (5, .int x5), (6, .int x6), (9, .int i268_9)], [], M)) rfl rfl rfl (fun c_343 => ?_) (fun c_343 => ?_)
                  · have c_343 : ¬ ((x6 >>> (6 &&& 31)) &&& 1) = 1 := of_decide_eq_true c_343
                    refine ml_blk 2 (S' := (351, [(0, .ref m0), (1, .int x1), (3, .int x3), (5, .int x5)], [.int 2, .int x1], M)) rfl ?_
                    refine ml_if2 (S1 := (366, [(0, .ref m0), (1, .int x1), (3, .int x3)], [], M)) (S2 := (354, [(0, .ref m0), (1, .int x1), (3, .int x3), (5, .int x5)], [], M)) rfl rfl rfl (fun c_351 => ?_) (fun c_351 => ?_)
                    rotate_left
                    · exact absurd ((show ¬ x1 = 2 from fun h => by have q := hw.1; rw [h] at q; exact absurd q (by decide))) (of_decide_eq_false c_351)
                    refine ml_blk 2 (S' := (369, [(0, .ref m0), (1, .int x1), (3, .int x3)], [.int 7, .int x1], M)) rfl ?_
                    refine ml_if2 (S1 := (381, [(0, .ref m0), (1, .int x1), (3, .int x3)], [], M)) (S2 := (372, [(0, .ref m0), (1, .int x1), (3, .int x3)], [], M)) rfl rfl rfl (fun c_369 => ?_) (fun c_369 => ?_)
                    · have c_369 : ¬ x1 = 7 := of_decide_eq_true c_369
                      refine ml_blk 2 (S' := (384, [(0, .ref m0), (1, .int x1), (3, .int x3)], [.int 9, .int x1], M)) rfl ?_
                      refine ml_if2 (S1 := (396, [], [], M)) (S2 := (387, [(0, .ref m0), (1, .int x1), (3, .int x3)], [], M)) rfl rfl rfl (fun c_384 => ?_) (fun c_384 => ?_)
                      · have c_384 : ¬ x1 = 9 := of_decide_eq_true c_384
                        refine ml_st (S' := (397, [], [.int 0], M)) rfl rfl rfl ?_
                        exact ml_ret rfl (rfl) (⟨_, _, _, rfl, hR, eqI.rf, eqR.rf, hN⟩)
                      · have c_384 : ¬ (¬ x1 = 9) := of_decide_eq_false c_384
                        refine ml_blk 3 (S' := (390, [(0, .ref m0), (1, .int x1), (3, .int x3)], [.int x3, .ref m0, .ref m0], M)) rfl ?_
                        refine ml_call (a := [.ref m0, .int x3]) (rest := [.ref m0]) rfl (hR.okc rfl rfl rfl) rfl rfl (rm_u2 hR hF (h0) (by omega) (by omega)) (fun v42 M43 h44 => ?_)
                        obtain ⟨rfl, h44⟩ := h44
                        rw [h44]
                        show ml _ _ _ (393, [(0, .ref m0), (1, .int x1), (3, .int x3)], [.int (f2 f x3), .ref m0], M) _
                        refine rp_int rfl hR rfl (fun M45 I46 hR47 e48 f49 => ?_)
                        show ml _ _ _ (396, [], [], M45) _
                        refine ml_st (S' := (397, [], [.int 0], M45)) rfl rfl rfl ?_
                        exact ml_ret rfl (rfl) (⟨_, _, _, rfl, hR47, (eqI.rf.put f49 (by decide)), eqR.rf, (hN.put (by decide) e48 f49)⟩)
                    · have c_369 : ¬ (¬ x1 = 7) := of_decide_eq_false c_369
                      refine ml_blk 3 (S' := (375, [(0, .ref m0), (1, .int x1), (3, .int x3)], [.int x3, .ref m0, .ref m0], M)) rfl ?_
                      refine ml_call (a := [.ref m0, .int x3]) (rest := [.ref m0]) rfl (hR.okc rfl rfl rfl) rfl rfl (rm_u2 hR hF (h0) (by omega) (by omega)) (fun v50 M51 h52 => ?_)
                      obtain ⟨rfl, h52⟩ := h52
                      rw [h52]
                      show ml _ _ _ (378, [(0, .ref m0), (1, .int x1), (3, .int x3)], [.int (f2 f x3), .ref m0], M) _
                      refine rp_int rfl hR rfl (fun M53 I54 hR55 e56 f57 => ?_)
                      show ml _ _ _ (381, [(0, .ref m0), (1, .int x1), (3, .int x3)], [], M53) _
                      refine ml_blk 2 (S' := (384, [(0, .ref m0), (1, .int x1), (3, .int x3)], [.int 9, .int x1], M53)) rfl ?_
                      refine ml_if2 (S1 := (396, [], [], M53)) (S2 := (387, [(0, .ref m0), (1, .int x1), (3, .int x3)], [], M53)) rfl rfl rfl (fun c_384 => ?_) (fun c_384 => ?_)
                      · have c_384 : ¬ x1 = 9 := of_decide_eq_true c_384
                        refine ml_st (S' := (397, [], [.int 0], M53)) rfl rfl rfl ?_
                        exact ml_ret rfl (rfl) (⟨_, _, _, rfl, hR55, (eqI.rf.put f57 (by decide)), eqR.rf, (hN.put (by decide) e56 f57)⟩)
                      · have c_384 : ¬ (¬ x1 = 9) := of_decide_eq_false c_384
                        refine ml_blk 3 (S' := (390, [(0, .ref m0), (1, .int x1), (3, .int x3)], [.int x3, .ref m0, .ref m0], M53)) rfl ?_
                        have hF58 : FK n f I54 R := (hF.mono (pIx f57 (by decide)) (fun _ _ => rfl))
                        refine ml_call (a := [.ref m0, .int x3]) (rest := [.ref m0]) rfl (hR55.okc rfl rfl rfl) rfl rfl (rm_u2 hR55 hF58 (h0) (by omega) (by omega)) (fun v59 M60 h61 => ?_)
                        obtain ⟨rfl, h61⟩ := h61
                        rw [h61]
                        show ml _ _ _ (393, [(0, .ref m0), (1, .int x1), (3, .int x3)], [.int (f2 f x3), .ref m0], M53) _
                        refine rp_int rfl hR55 rfl (fun M62 I63 hR64 e65 f66 => ?_)
                        show ml _ _ _ (396, [], [], M62) _
                        refine ml_st (S' := (397, [], [.int 0], M62)) rfl rfl rfl ?_
                        exact ml_ret rfl (rfl) (⟨_, _, _, rfl, hR64, ((eqI.rf.put f57 (by decide)).put f66 (by decide)), eqR.rf, ((hN.put (by decide) e56 f57).put (by decide) e65 f66)⟩)
                  · have c_343 : ¬ (¬ ((x6 >>> (6 &&& 31)) &&& 1) = 1) := of_decide_eq_false c_343
                    refine ml_st (S' := (348, [(0, .ref m0), (1, .int x1), (3, .int x3), (5, .int x5), (6, .int x6), (9, .int i268_9)], [.int 35], M)) rfl rfl rfl ?_
                    exact ml_ret rfl (rfl) (⟨_, _, _, rfl, hR, eqI.rf, eqR.rf, hN⟩)
              · have c_275 : ¬ ((f2 f x3) ≤ i268_9) := of_decide_eq_false c_275
                have hjl := i_nle c_275
                have hjk : (x3 + 2 + 2 * i268_9).toInt = x3.toInt + 2 + 2 * i268_9.toInt := by have d2 : (x3 + 2).toInt = x3.toInt + 2 := (by rw [i_add (by omega) (by omega), i2_]); rw [i_add (by rw [two_k hi_268 (by omega)]; omega) (by rw [two_k hi_268 (by omega)]; omega), two_k hi_268 (by omega), d2]
                refine ml_blk 3 (S' := (281, [(0, .ref m0), (1, .int x1), (3, .int x3), (5, .int x5), (6, .int x6), (9, .int i268_9)], [.int x3, .ref m0, .ref m0], M)) rfl ?_
                refine ml_blk 3 (S' := (284, [(0, .ref m0), (1, .int x1), (3, .int x3), (5, .int x5), (6, .int x6), (9, .int i268_9)], [.int 2, .int (x3 + 2), .ref m0, .ref m0], M)) rfl ?_
                refine ml_blk 3 (S' := (288, [(0, .ref m0), (1, .int x1), (3, .int x3), (5, .int x5), (6, .int x6), (9, .int i268_9)], [.int ((x3 + 2) + (2 * i268_9)), .ref m0, .ref m0], M)) rfl ?_
                refine ml_call (a := [.ref m0, .int ((x3 + 2) + (2 * i268_9))]) (rest := [.ref m0]) rfl (hR.okc rfl rfl rfl) rfl rfl (rm_u2 hR hF (by omega) (by omega) (by omega)) (fun v67 M68 h69 => ?_)
                obtain ⟨rfl, h69⟩ := h69
                rw [h69]
                show ml _ _ _ (291, [(0, .ref m0), (1, .int x1), (3, .int x3), (5, .int x5), (6, .int x6), (9, .int i268_9)], [.int (f2 f ((x3 + 2) + (2 * i268_9))), .ref m0], M) _
                refine ml_call (a := [.ref m0, .int (f2 f ((x3 + 2) + (2 * i268_9)))]) (rest := []) rfl (hR.okc rfl rfl rfl) rfl rfl (rm_tag hR hF hP (by omega)) (fun v70 M71 h72 => ?_)
                obtain ⟨rfl, h72⟩ := h72
                rw [h72]
                show ml _ _ _ (294, [(0, .ref m0), (1, .int x1), (3, .int x3), (5, .int x5), (6, .int x6), (9, .int i268_9)], [.int (tgf f cp pa (f2 f ((x3 + 2) + (2 * i268_9))))], M) _
                refine ml_st (S' := (296, [(0, .ref m0), (1, .int x1), (3, .int x3), (5, .int x5), (6, .int x6), (9, .int i268_9)], [.int 7, .int (tgf f cp pa (f2 f ((x3 + 2) + (2 * i268_9))))], M)) rfl rfl rfl ?_
                refine ml_if2 (S1 := (323, [(0, .ref m0), (1, .int x1), (3, .int x3), (5, .int x5), (6, .int x6), (9, .int i268_9)], [], M)) (S2 := (299, [(0, .ref m0), (1, .int x1), (3, .int x3), (5, .int x5), (6, .int x6), (9, .int i268_9)], [], M)) rfl rfl rfl (fun c_296 => ?_) (fun c_296 => ?_)
                · have c_296 : (tgf f cp pa (f2 f ((x3 + 2) + (2 * i268_9)))) = 7 := of_decide_eq_true c_296
                  refine ml_st (S' := (326, [(9, .int (i268_9 + 1)), (0, .ref m0), (1, .int x1), (3, .int x3), (5, .int x5), (6, .int x6)], [], M)) rfl rfl rfl ?_
                  refine ml_st (S' := (268, [(0, .ref m0), (1, .int x1), (3, .int x3), (5, .int x5), (6, .int x6), (9, .int (i268_9 + 1))], [], M)) rfl rfl rfl ?_
                  exact ih_268 (i268_9 + 1) (loop_inc (Int32.not_le.mp c_275) hn_268) (by rw [inc_lt (Int32.not_le.mp c_275)]; omega)
                · have c_296 : ¬ ((tgf f cp pa (f2 f ((x3 + 2) + (2 * i268_9)))) = 7) := of_decide_eq_false c_296
                  refine ml_blk 2 (S' := (301, [(0, .ref m0), (1, .int x1), (3, .int x3), (5, .int x5), (6, .int x6), (9, .int i268_9)], [.int 2, .int x1], M)) rfl ?_
                  refine ml_if2 (S1 := (309, [(0, .ref m0), (1, .int x1), (3, .int x3), (5, .int x5), (6, .int x6), (9, .int i268_9)], [], M)) (S2 := (304, [(0, .ref m0), (1, .int x1), (3, .int x3), (5, .int x5), (6, .int x6), (9, .int i268_9)], [], M)) rfl rfl rfl (fun c_301 => ?_) (fun c_301 => ?_)
                  rotate_left
                  · exact absurd ((show ¬ x1 = 2 from fun h => by have q := hw.1; rw [h] at q; exact absurd q (by decide))) (of_decide_eq_false c_301)
                  refine ml_blk 2 (S' := (312, [(0, .ref m0), (1, .int x1), (3, .int x3), (5, .int x5), (6, .int x6), (9, .int i268_9)], [.int 7, .int x1], M)) rfl ?_
                  refine ml_if2 (S1 := (320, [(0, .ref m0), (1, .int x1), (3, .int x3), (5, .int x5), (6, .int x6), (9, .int i268_9)], [], M)) (S2 := (315, [(0, .ref m0), (1, .int x1), (3, .int x3), (5, .int x5), (6, .int x6), (9, .int i268_9)], [], M)) rfl rfl rfl (fun c_312 => ?_) (fun c_312 => ?_)
                  · have c_312 : ¬ x1 = 7 := of_decide_eq_true c_312
                    refine ml_st (S' := (322, [], [.int 36], M)) rfl rfl rfl ?_
                    exact ml_ret rfl (rfl) (⟨_, _, _, rfl, hR, eqI.rf, eqR.rf, hN⟩)
                  · have c_312 : ¬ (¬ x1 = 7) := of_decide_eq_false c_312
                    refine ml_st (S' := (317, [(0, .ref m0), (1, .int x1), (3, .int x3), (5, .int x5), (6, .int x6), (9, .int i268_9)], [.int 35], M)) rfl rfl rfl ?_
                    refine ml_st (S' := (322, [], [.int 35], M)) rfl rfl rfl ?_
                    exact ml_ret rfl (rfl) (⟨_, _, _, rfl, hR, eqI.rf, eqR.rf, hN⟩)
          exact L_268 _ 0 (Nat.le_refl _) (by decide)
        · have c_249 : ¬ (¬ x1 = 9) := of_decide_eq_false c_249
          refine ml_st (S' := (253, [(0, .ref m0), (1, .int x1), (2, .int x2), (3, .int x3), (4, .int x4), (5, .int x5), (6, .int x6)], [.ref m0], M)) rfl rfl rfl ?_
          refine rg_int (S' := (256, [(0, .ref m0), (1, .int x1), (2, .int x2), (3, .int x3), (4, .int x4), (5, .int x5), (6, .int x6)], [.int nf], M)) rfl hR rfl (hk58) rfl ?_
          refine ml_blk 2 (S' := (259, [(0, .ref m0), (1, .int x1), (2, .int x2), (3, .int x3), (4, .int x4), (5, .int x5), (6, .int x6)], [.int (nf &&& 16)], M)) rfl ?_
          refine ml_if (S1 := (265, [(0, .ref m0), (1, .int x1), (3, .int x3), (5, .int x5), (6, .int x6)], [], M)) (S2 := (262, [(0, .ref m0), (1, .int x1), (2, .int x2), (3, .int x3), (4, .int x4), (5, .int x5), (6, .int x6)], [], M)) rfl rfl rfl (fun c_259 => ?_) (fun c_259 => ?_)
          · have c_259 : (nf &&& 16) = 0 := of_decide_eq_true c_259
            refine ml_st (S' := (266, [(0, .ref m0), (1, .int x1), (3, .int x3), (5, .int x5), (6, .int x6)], [.int 0], M)) rfl rfl rfl ?_
            refine ml_st (S' := (268, [(0, .ref m0), (1, .int x1), (3, .int x3), (5, .int x5), (6, .int x6), (9, .int 0)], [], M)) rfl rfl rfl ?_
            have L_268 : ∀ (n_268 : Nat) (i268_9 : Int32), (2147483648 - i268_9.toInt).toNat ≤ n_268 → 0 ≤ i268_9.toInt → ml (mT g) d (mb_177 g).2 (268, [(0, .ref m0), (1, .int x1), (3, .int x3), (5, .int x5), (6, .int x6), (9, .int i268_9)], [], M) (fun v M' => ∃ (x : Int32) (I' : rI) (R' : rR), v = some (.int x) ∧ RS g m0 q z I' R' M' ∧ eqI [47, 48, 65, 67, 68, 69, 70, 71, 72] I I' ∧ eqR [] R R' ∧ NW f n I') := by
              intro n_268
              induction n_268 with
              | zero => intro i268_9 hn; exact (loop_zero hn).elim
              | succ n_268 ih_268 =>
                intro i268_9 hn_268 hi_268
                refine ml_blk 3 (S' := (272, [(0, .ref m0), (1, .int x1), (3, .int x3), (5, .int x5), (6, .int x6), (9, .int i268_9)], [.int x3, .ref m0, .int i268_9], M)) rfl ?_
                refine ml_call (a := [.ref m0, .int x3]) (rest := [.int i268_9]) rfl (hR.okc rfl rfl rfl) rfl rfl (rm_u2 hR hF (h0) (by omega) (by omega)) (fun v73 M74 h75 => ?_)
                obtain ⟨rfl, h75⟩ := h75
                rw [h75]
                show ml _ _ _ (275, [(0, .ref m0), (1, .int x1), (3, .int x3), (5, .int x5), (6, .int x6), (9, .int i268_9)], [.int (f2 f x3), .int i268_9], M) _
                refine ml_if2 (S1 := (329, [(0, .ref m0), (1, .int x1), (3, .int x3), (5, .int x5), (6, .int x6), (9, .int i268_9)], [], M)) (S2 := (278, [(0, .ref m0), (1, .int x1), (3, .int x3), (5, .int x5), (6, .int x6), (9, .int i268_9)], [], M)) rfl rfl rfl (fun c_275 => ?_) (fun c_275 => ?_)
                · have c_275 : (f2 f x3) ≤ i268_9 := of_decide_eq_true c_275
                  refine ml_blk 2 (S' := (332, [(0, .ref m0), (1, .int x1), (3, .int x3), (5, .int x5), (6, .int x6), (9, .int i268_9)], [.int 7, .int x1], M)) rfl ?_
                  refine ml_if2 (S1 := (349, [(0, .ref m0), (1, .int x1), (3, .int x3), (5, .int x5)], [], M)) (S2 := (335, [(0, .ref m0), (1, .int x1), (3, .int x3), (5, .int x5), (6, .int x6), (9, .int i268_9)], [], M)) rfl rfl rfl (fun c_332 => ?_) (fun c_332 => ?_)
                  · have c_332 : ¬ x1 = 7 := of_decide_eq_true c_332
                    refine ml_blk 2 (S' := (351, [(0, .ref m0), (1, .int x1), (3, .int x3), (5, .int x5)], [.int 2, .int x1], M)) rfl ?_
                    refine ml_if2 (S1 := (366, [(0, .ref m0), (1, .int x1), (3, .int x3)], [], M)) (S2 := (354, [(0, .ref m0), (1, .int x1), (3, .int x3), (5, .int x5)], [], M)) rfl rfl rfl (fun c_351 => ?_) (fun c_351 => ?_)
                    rotate_left
                    · exact absurd ((show ¬ x1 = 2 from fun h => by have q := hw.1; rw [h] at q; exact absurd q (by decide))) (of_decide_eq_false c_351)
                    refine ml_blk 2 (S' := (369, [(0, .ref m0), (1, .int x1), (3, .int x3)], [.int 7, .int x1], M)) rfl ?_
                    refine ml_if2 (S1 := (381, [(0, .ref m0), (1, .int x1), (3, .int x3)], [], M)) (S2 := (372, [(0, .ref m0), (1, .int x1), (3, .int x3)], [], M)) rfl rfl rfl (fun c_369 => ?_) (fun c_369 => ?_)
                    · have c_369 : ¬ x1 = 7 := of_decide_eq_true c_369
                      refine ml_blk 2 (S' := (384, [(0, .ref m0), (1, .int x1), (3, .int x3)], [.int 9, .int x1], M)) rfl ?_
                      refine ml_if2 (S1 := (396, [], [], M)) (S2 := (387, [(0, .ref m0), (1, .int x1), (3, .int x3)], [], M)) rfl rfl rfl (fun c_384 => ?_) (fun c_384 => ?_)
                      · have c_384 : ¬ x1 = 9 := of_decide_eq_true c_384
                        refine ml_st (S' := (397, [], [.int 0], M)) rfl rfl rfl ?_
                        exact ml_ret rfl (rfl) (⟨_, _, _, rfl, hR, eqI.rf, eqR.rf, hN⟩)
                      · have c_384 : ¬ (¬ x1 = 9) := of_decide_eq_false c_384
                        refine ml_blk 3 (S' := (390, [(0, .ref m0), (1, .int x1), (3, .int x3)], [.int x3, .ref m0, .ref m0], M)) rfl ?_
                        refine ml_call (a := [.ref m0, .int x3]) (rest := [.ref m0]) rfl (hR.okc rfl rfl rfl) rfl rfl (rm_u2 hR hF (h0) (by omega) (by omega)) (fun v76 M77 h78 => ?_)
                        obtain ⟨rfl, h78⟩ := h78
                        rw [h78]
                        show ml _ _ _ (393, [(0, .ref m0), (1, .int x1), (3, .int x3)], [.int (f2 f x3), .ref m0], M) _
                        refine rp_int rfl hR rfl (fun M79 I80 hR81 e82 f83 => ?_)
                        show ml _ _ _ (396, [], [], M79) _
                        refine ml_st (S' := (397, [], [.int 0], M79)) rfl rfl rfl ?_
                        exact ml_ret rfl (rfl) (⟨_, _, _, rfl, hR81, (eqI.rf.put f83 (by decide)), eqR.rf, (hN.put (by decide) e82 f83)⟩)
                    · have c_369 : ¬ (¬ x1 = 7) := of_decide_eq_false c_369
                      refine ml_blk 3 (S' := (375, [(0, .ref m0), (1, .int x1), (3, .int x3)], [.int x3, .ref m0, .ref m0], M)) rfl ?_
                      refine ml_call (a := [.ref m0, .int x3]) (rest := [.ref m0]) rfl (hR.okc rfl rfl rfl) rfl rfl (rm_u2 hR hF (h0) (by omega) (by omega)) (fun v84 M85 h86 => ?_)
                      obtain ⟨rfl, h86⟩ := h86
                      rw [h86]
                      show ml _ _ _ (378, [(0, .ref m0), (1, .int x1), (3, .int x3)], [.int (f2 f x3), .ref m0], M) _
                      refine rp_int rfl hR rfl (fun M87 I88 hR89 e90 f91 => ?_)
                      show ml _ _ _ (381, [(0, .ref m0), (1, .int x1), (3, .int x3)], [], M87) _
                      refine ml_blk 2 (S' := (384, [(0, .ref m0), (1, .int x1), (3, .int x3)], [.int 9, .int x1], M87)) rfl ?_
                      refine ml_if2 (S1 := (396, [], [], M87)) (S2 := (387, [(0, .ref m0), (1, .int x1), (3, .int x3)], [], M87)) rfl rfl rfl (fun c_384 => ?_) (fun c_384 => ?_)
                      · have c_384 : ¬ x1 = 9 := of_decide_eq_true c_384
                        refine ml_st (S' := (397, [], [.int 0], M87)) rfl rfl rfl ?_
                        exact ml_ret rfl (rfl) (⟨_, _, _, rfl, hR89, (eqI.rf.put f91 (by decide)), eqR.rf, (hN.put (by decide) e90 f91)⟩)
                      · have c_384 : ¬ (¬ x1 = 9) := of_decide_eq_false c_384
                        refine ml_blk 3 (S' := (390, [(0, .ref m0), (1, .int x1), (3, .int x3)], [.int x3, .ref m0, .ref m0], M87)) rfl ?_
                        have hF92 : FK n f I88 R := (hF.mono (pIx f91 (by decide)) (fun _ _ => rfl))
                        refine ml_call (a := [.ref m0, .int x3]) (rest := [.ref m0]) rfl (hR89.okc rfl rfl rfl) rfl rfl (rm_u2 hR89 hF92 (h0) (by omega) (by omega)) (fun v93 M94 h95 => ?_)
                        obtain ⟨rfl, h95⟩ := h95
                        rw [h95]
                        show ml _ _ _ (393, [(0, .ref m0), (1, .int x1), (3, .int x3)], [.int (f2 f x3), .ref m0], M87) _
                        refine rp_int rfl hR89 rfl (fun M96 I97 hR98 e99 f100 => ?_)
                        show ml _ _ _ (396, [], [], M96) _
                        refine ml_st (S' := (397, [], [.int 0], M96)) rfl rfl rfl ?_
                        exact ml_ret rfl (rfl) (⟨_, _, _, rfl, hR98, ((eqI.rf.put f91 (by decide)).put f100 (by decide)), eqR.rf, ((hN.put (by decide) e90 f91).put (by decide) e99 f100)⟩)
                  · have c_332 : ¬ (¬ x1 = 7) := of_decide_eq_false c_332
                    refine ml_blk 3 (S' := (340, [(0, .ref m0), (1, .int x1), (3, .int x3), (5, .int x5), (6, .int x6), (9, .int i268_9)], [.int (x6 >>> (6 &&& 31))], M)) rfl ?_
                    refine ml_blk 3 (S' := (343, [(0, .ref m0), (1, .int x1), (3, .int x3), (5, .int x5), (6, .int x6), (9, .int i268_9)], [.int 1, .int ((x6 >>> (6 &&& 31)) &&& 1)], M)) rfl ?_
                    refine ml_if2 (S1 := (349, [(0, .ref m0), (1, .int x1), (3, .int x3), (5, .int x5)], [], M)) (S2 := (346, [(0, .ref m0), (1, .int x1), (3, .int x3), (5, .int x5), (6, .int x6), (9, .int i268_9)], [], M)) rfl rfl rfl (fun c_343 => ?_) (fun c_343 => ?_)
                    · have c_343 : ¬ ((x6 >>> (6 &&& 31)) &&& 1) = 1 := of_decide_eq_true c_343
                      refine ml_blk 2 (S' := (351, [(0, .ref m0), (1, .int x1), (3, .int x3), (5, .int x5)], [.int 2, .int x1], M)) rfl ?_
                      refine ml_if2 (S1 := (366, [(0, .ref m0), (1, .int x1), (3, .int x3)], [], M)) (S2 := (354, [(0, .ref m0), (1, .int x1), (3, .int x3), (5, .int x5)], [], M)) rfl rfl rfl (fun c_351 => ?_) (fun c_351 => ?_)
                      rotate_left
                      · exact absurd ((show ¬ x1 = 2 from fun h => by have q := hw.1; rw [h] at q; exact absurd q (by decide))) (of_decide_eq_false c_351)
                      refine ml_blk 2 (S' := (369, [(0, .ref m0), (1, .int x1), (3, .int x3)], [.int 7, .int x1], M)) rfl ?_
                      refine ml_if2 (S1 := (381, [(0, .ref m0), (1, .int x1), (3, .int x3)], [], M)) (S2 := (372, [(0, .ref m0), (1, .int x1), (3, .int x3)], [], M)) rfl rfl rfl (fun c_369 => ?_) (fun c_369 => ?_)
                      · have c_369 : ¬ x1 = 7 := of_decide_eq_true c_369
                        refine ml_blk 2 (S' := (384, [(0, .ref m0), (1, .int x1), (3, .int x3)], [.int 9, .int x1], M)) rfl ?_
                        refine ml_if2 (S1 := (396, [], [], M)) (S2 := (387, [(0, .ref m0), (1, .int x1), (3, .int x3)], [], M)) rfl rfl rfl (fun c_384 => ?_) (fun c_384 => ?_)
                        · have c_384 : ¬ x1 = 9 := of_decide_eq_true c_384
                          refine ml_st (S' := (397, [], [.int 0], M)) rfl rfl rfl ?_
                          exact ml_ret rfl (rfl) (⟨_, _, _, rfl, hR, eqI.rf, eqR.rf, hN⟩)
                        · have c_384 : ¬ (¬ x1 = 9) := of_decide_eq_false c_384
                          refine ml_blk 3 (S' := (390, [(0, .ref m0), (1, .int x1), (3, .int x3)], [.int x3, .ref m0, .ref m0], M)) rfl ?_
                          refine ml_call (a := [.ref m0, .int x3]) (rest := [.ref m0]) rfl (hR.okc rfl rfl rfl) rfl rfl (rm_u2 hR hF (h0) (by omega) (by omega)) (fun v101 M102 h103 => ?_)
                          obtain ⟨rfl, h103⟩ := h103
                          rw [h103]
                          show ml _ _ _ (393, [(0, .ref m0), (1, .int x1), (3, .int x3)], [.int (f2 f x3), .ref m0], M) _
                          refine rp_int rfl hR rfl (fun M104 I105 hR106 e107 f108 => ?_)
                          show ml _ _ _ (396, [], [], M104) _
                          refine ml_st (S' := (397, [], [.int 0], M104)) rfl rfl rfl ?_
                          exact ml_ret rfl (rfl) (⟨_, _, _, rfl, hR106, (eqI.rf.put f108 (by decide)), eqR.rf, (hN.put (by decide) e107 f108)⟩)
                      · have c_369 : ¬ (¬ x1 = 7) := of_decide_eq_false c_369
                        refine ml_blk 3 (S' := (375, [(0, .ref m0), (1, .int x1), (3, .int x3)], [.int x3, .ref m0, .ref m0], M)) rfl ?_
                        refine ml_call (a := [.ref m0, .int x3]) (rest := [.ref m0]) rfl (hR.okc rfl rfl rfl) rfl rfl (rm_u2 hR hF (h0) (by omega) (by omega)) (fun v109 M110 h111 => ?_)
                        obtain ⟨rfl, h111⟩ := h111
                        rw [h111]
                        show ml _ _ _ (378, [(0, .ref m0), (1, .int x1), (3, .int x3)], [.int (f2 f x3), .ref m0], M) _
                        refine rp_int rfl hR rfl (fun M112 I113 hR114 e115 f116 => ?_)
                        show ml _ _ _ (381, [(0, .ref m0), (1, .int x1), (3, .int x3)], [], M112) _
                        refine ml_blk 2 (S' := (384, [(0, .ref m0), (1, .int x1), (3, .int x3)], [.int 9, .int x1], M112)) rfl ?_
                        refine ml_if2 (S1 := (396, [], [], M112)) (S2 := (387, [(0, .ref m0), (1, .int x1), (3, .int x3)], [], M112)) rfl rfl rfl (fun c_384 => ?_) (fun c_384 => ?_)
                        · have c_384 : ¬ x1 = 9 := of_decide_eq_true c_384
                          refine ml_st (S' := (397, [], [.int 0], M112)) rfl rfl rfl ?_
                          exact ml_ret rfl (rfl) (⟨_, _, _, rfl, hR114, (eqI.rf.put f116 (by decide)), eqR.rf, (hN.put (by decide) e115 f116)⟩)
                        · have c_384 : ¬ (¬ x1 = 9) := of_decide_eq_false c_384
                          refine ml_blk 3 (S' := (390, [(0, .ref m0), (1, .int x1), (3, .int x3)], [.int x3, .ref m0, .ref m0], M112)) rfl ?_
                          have hF117 : FK n f I113 R := (hF.mono (pIx f116 (by decide)) (fun _ _ => rfl))
                          refine ml_call (a := [.ref m0, .int x3]) (rest := [.ref m0]) rfl (hR114.okc rfl rfl rfl) rfl rfl (rm_u2 hR114 hF117 (h0) (by omega) (by omega)) (fun v118 M119 h120 => ?_)
                          obtain ⟨rfl, h120⟩ := h120
                          rw [h120]
                          show ml _ _ _ (393, [(0, .ref m0), (1, .int x1), (3, .int x3)], [.int (f2 f x3), .ref m0], M112) _
                          refine rp_int rfl hR114 rfl (fun M121 I122 hR123 e124 f125 => ?_)
                          show ml _ _ _ (396, [], [], M121) _
                          refine ml_st (S' := (397, [], [.int 0], M121)) rfl rfl rfl ?_
                          exact ml_ret rfl (rfl) (⟨_, _, _, rfl, hR123, ((eqI.rf.put f116 (by decide)).put f125 (by decide)), eqR.rf, ((hN.put (by decide) e115 f116).put (by decide) e124 f125)⟩)
                    · have c_343 : ¬ (¬ ((x6 >>> (6 &&& 31)) &&& 1) = 1) := of_decide_eq_false c_343
                      refine ml_st (S' := (348, [(0, .ref m0), (1, .int x1), (3, .int x3), (5, .int x5), (6, .int x6), (9, .int i268_9)], [.int 35], M)) rfl rfl rfl ?_
                      exact ml_ret rfl (rfl) (⟨_, _, _, rfl, hR, eqI.rf, eqR.rf, hN⟩)
                · have c_275 : ¬ ((f2 f x3) ≤ i268_9) := of_decide_eq_false c_275
                  have hjl := i_nle c_275
                  have hjk : (x3 + 2 + 2 * i268_9).toInt = x3.toInt + 2 + 2 * i268_9.toInt := by have d2 : (x3 + 2).toInt = x3.toInt + 2 := (by rw [i_add (by omega) (by omega), i2_]); rw [i_add (by rw [two_k hi_268 (by omega)]; omega) (by rw [two_k hi_268 (by omega)]; omega), two_k hi_268 (by omega), d2]
                  refine ml_blk 3 (S' := (281, [(0, .ref m0), (1, .int x1), (3, .int x3), (5, .int x5), (6, .int x6), (9, .int i268_9)], [.int x3, .ref m0, .ref m0], M)) rfl ?_
                  refine ml_blk 3 (S' := (284, [(0, .ref m0), (1, .int x1), (3, .int x3), (5, .int x5), (6, .int x6), (9, .int i268_9)], [.int 2, .int (x3 + 2), .ref m0, .ref m0], M)) rfl ?_
                  refine ml_blk 3 (S' := (288, [(0, .ref m0), (1, .int x1), (3, .int x3), (5, .int x5), (6, .int x6), (9, .int i268_9)], [.int ((x3 + 2) + (2 * i268_9)), .ref m0, .ref m0], M)) rfl ?_
                  refine ml_call (a := [.ref m0, .int ((x3 + 2) + (2 * i268_9))]) (rest := [.ref m0]) rfl (hR.okc rfl rfl rfl) rfl rfl (rm_u2 hR hF (by omega) (by omega) (by omega)) (fun v126 M127 h128 => ?_)
                  obtain ⟨rfl, h128⟩ := h128
                  rw [h128]
                  show ml _ _ _ (291, [(0, .ref m0), (1, .int x1), (3, .int x3), (5, .int x5), (6, .int x6), (9, .int i268_9)], [.int (f2 f ((x3 + 2) + (2 * i268_9))), .ref m0], M) _
                  refine ml_call (a := [.ref m0, .int (f2 f ((x3 + 2) + (2 * i268_9)))]) (rest := []) rfl (hR.okc rfl rfl rfl) rfl rfl (rm_tag hR hF hP (by omega)) (fun v129 M130 h131 => ?_)
                  obtain ⟨rfl, h131⟩ := h131
                  rw [h131]
                  show ml _ _ _ (294, [(0, .ref m0), (1, .int x1), (3, .int x3), (5, .int x5), (6, .int x6), (9, .int i268_9)], [.int (tgf f cp pa (f2 f ((x3 + 2) + (2 * i268_9))))], M) _
                  refine ml_st (S' := (296, [(0, .ref m0), (1, .int x1), (3, .int x3), (5, .int x5), (6, .int x6), (9, .int i268_9)], [.int 7, .int (tgf f cp pa (f2 f ((x3 + 2) + (2 * i268_9))))], M)) rfl rfl rfl ?_
                  refine ml_if2 (S1 := (323, [(0, .ref m0), (1, .int x1), (3, .int x3), (5, .int x5), (6, .int x6), (9, .int i268_9)], [], M)) (S2 := (299, [(0, .ref m0), (1, .int x1), (3, .int x3), (5, .int x5), (6, .int x6), (9, .int i268_9)], [], M)) rfl rfl rfl (fun c_296 => ?_) (fun c_296 => ?_)
                  · have c_296 : (tgf f cp pa (f2 f ((x3 + 2) + (2 * i268_9)))) = 7 := of_decide_eq_true c_296
                    refine ml_st (S' := (326, [(9, .int (i268_9 + 1)), (0, .ref m0), (1, .int x1), (3, .int x3), (5, .int x5), (6, .int x6)], [], M)) rfl rfl rfl ?_
                    refine ml_st (S' := (268, [(0, .ref m0), (1, .int x1), (3, .int x3), (5, .int x5), (6, .int x6), (9, .int (i268_9 + 1))], [], M)) rfl rfl rfl ?_
                    exact ih_268 (i268_9 + 1) (loop_inc (Int32.not_le.mp c_275) hn_268) (by rw [inc_lt (Int32.not_le.mp c_275)]; omega)
                  · have c_296 : ¬ ((tgf f cp pa (f2 f ((x3 + 2) + (2 * i268_9)))) = 7) := of_decide_eq_false c_296
                    refine ml_blk 2 (S' := (301, [(0, .ref m0), (1, .int x1), (3, .int x3), (5, .int x5), (6, .int x6), (9, .int i268_9)], [.int 2, .int x1], M)) rfl ?_
                    refine ml_if2 (S1 := (309, [(0, .ref m0), (1, .int x1), (3, .int x3), (5, .int x5), (6, .int x6), (9, .int i268_9)], [], M)) (S2 := (304, [(0, .ref m0), (1, .int x1), (3, .int x3), (5, .int x5), (6, .int x6), (9, .int i268_9)], [], M)) rfl rfl rfl (fun c_301 => ?_) (fun c_301 => ?_)
                    rotate_left
                    · exact absurd ((show ¬ x1 = 2 from fun h => by have q := hw.1; rw [h] at q; exact absurd q (by decide))) (of_decide_eq_false c_301)
                    refine ml_blk 2 (S' := (312, [(0, .ref m0), (1, .int x1), (3, .int x3), (5, .int x5), (6, .int x6), (9, .int i268_9)], [.int 7, .int x1], M)) rfl ?_
                    refine ml_if2 (S1 := (320, [(0, .ref m0), (1, .int x1), (3, .int x3), (5, .int x5), (6, .int x6), (9, .int i268_9)], [], M)) (S2 := (315, [(0, .ref m0), (1, .int x1), (3, .int x3), (5, .int x5), (6, .int x6), (9, .int i268_9)], [], M)) rfl rfl rfl (fun c_312 => ?_) (fun c_312 => ?_)
                    · have c_312 : ¬ x1 = 7 := of_decide_eq_true c_312
                      refine ml_st (S' := (322, [], [.int 36], M)) rfl rfl rfl ?_
                      exact ml_ret rfl (rfl) (⟨_, _, _, rfl, hR, eqI.rf, eqR.rf, hN⟩)
                    · have c_312 : ¬ (¬ x1 = 7) := of_decide_eq_false c_312
                      refine ml_st (S' := (317, [(0, .ref m0), (1, .int x1), (3, .int x3), (5, .int x5), (6, .int x6), (9, .int i268_9)], [.int 35], M)) rfl rfl rfl ?_
                      refine ml_st (S' := (322, [], [.int 35], M)) rfl rfl rfl ?_
                      exact ml_ret rfl (rfl) (⟨_, _, _, rfl, hR, eqI.rf, eqR.rf, hN⟩)
            exact L_268 _ 0 (Nat.le_refl _) (by decide)
          · have c_259 : ¬ ((nf &&& 16) = 0) := of_decide_eq_false c_259
            refine ml_st (S' := (264, [(0, .ref m0), (1, .int x1), (2, .int x2), (3, .int x3), (4, .int x4), (5, .int x5), (6, .int x6)], [.int 36], M)) rfl rfl rfl ?_
            exact ml_ret rfl (rfl) (⟨_, _, _, rfl, hR, eqI.rf, eqR.rf, hN⟩)
      · have c_240 : ¬ ((x4 - x3) = (2 + (2 * (f2 f x3)))) := of_decide_eq_false c_240
        refine ml_st (S' := (245, [], [.int 30], M)) rfl rfl rfl ?_
        exact ml_ret rfl (rfl) (⟨_, _, _, rfl, hR, eqI.rf, eqR.rf, hN⟩)
  · show ml _ _ _ (398, [(0, .ref m0), (1, .int x1), (2, .int x2), (3, .int x3), (4, .int x4), (5, .int x5), (6, .int x6)], [], M) _
    exfalso
    rcases w49 hw with h | h | h | h | h | h <;> (rw [h] at kt_1; exact absurd kt_1 (by decide))
  · show ml _ _ _ (400, [(0, .ref m0), (1, .int x1), (2, .int x2), (3, .int x3), (4, .int x4), (5, .int x5), (6, .int x6)], [], M) _
    refine ml_blk 3 (S' := (404, [(0, .ref m0), (1, .int x1), (2, .int x2), (3, .int x3), (4, .int x4), (5, .int x5), (6, .int x6)], [.int (x4 - x3)], M)) rfl ?_
    refine ml_st (S' := (405, [(0, .ref m0), (1, .int x1), (2, .int x2), (3, .int x3), (4, .int x4), (5, .int x5), (6, .int x6)], [.int 2, .int (x4 - x3)], M)) rfl rfl rfl ?_
    refine ml_if2 (S1 := (425, [], [], M)) (S2 := (408, [(0, .ref m0), (1, .int x1), (2, .int x2), (3, .int x3), (4, .int x4), (5, .int x5), (6, .int x6)], [], M)) rfl rfl rfl (fun c_405 => ?_) (fun c_405 => ?_)
    · have c_405 : (x4 - x3) < 2 := of_decide_eq_true c_405
      refine ml_st (S' := (427, [], [.int 30], M)) rfl rfl rfl ?_
      exact ml_ret rfl (rfl) (⟨_, _, _, rfl, hR, eqI.rf, eqR.rf, hN⟩)
    · have c_405 : ¬ ((x4 - x3) < 2) := of_decide_eq_false c_405
      have hd2 := i_nlt c_405
      rw [i_sub (by omega) (by omega)] at hd2
      have i2_ : (2 : Int32).toInt = 2 := rfl
      have hc0 := f2_pos (f := f) (x := x3)
      have hc1 := f2_le (f := f) (x := x3)
      refine ml_blk 3 (S' := (412, [(0, .ref m0), (1, .int x1), (2, .int x2), (3, .int x3), (4, .int x4), (5, .int x5), (6, .int x6)], [.int (x4 - x3)], M)) rfl ?_
      refine ml_blk 3 (S' := (416, [(0, .ref m0), (1, .int x1), (2, .int x2), (3, .int x3), (4, .int x4), (5, .int x5), (6, .int x6)], [.ref m0, .int 8, .int 2, .int (x4 - x3)], M)) rfl ?_
      refine ml_st (S' := (417, [(0, .ref m0), (1, .int x1), (2, .int x2), (3, .int x3), (4, .int x4), (5, .int x5), (6, .int x6)], [.int x3, .ref m0, .int 8, .int 2, .int (x4 - x3)], M)) rfl rfl rfl ?_
      refine ml_call (a := [.ref m0, .int x3]) (rest := [.int 8, .int 2, .int (x4 - x3)]) rfl (hR.okc rfl rfl rfl) rfl rfl (rm_u2 hR hF (h0) (by omega) (by omega)) (fun v132 M133 h134 => ?_)
      obtain ⟨rfl, h134⟩ := h134
      rw [h134]
      show ml _ _ _ (420, [(0, .ref m0), (1, .int x1), (2, .int x2), (3, .int x3), (4, .int x4), (5, .int x5), (6, .int x6)], [.int (f2 f x3), .int 8, .int 2, .int (x4 - x3)], M) _
      refine ml_blk 2 (S' := (422, [(0, .ref m0), (1, .int x1), (2, .int x2), (3, .int x3), (4, .int x4), (5, .int x5), (6, .int x6)], [.int (2 + (8 * (f2 f x3))), .int (x4 - x3)], M)) rfl ?_
      refine ml_if2 (S1 := (428, [(0, .ref m0), (1, .int x1), (2, .int x2), (3, .int x3), (4, .int x4), (5, .int x5), (6, .int x6)], [], M)) (S2 := (425, [], [], M)) rfl rfl rfl (fun c_422 => ?_) (fun c_422 => ?_)
      · have c_422 : (x4 - x3) = (2 + (8 * (f2 f x3))) := of_decide_eq_true c_422
        have hde : (x4 - x3).toInt = (2 + 8 * f2 f x3).toInt := congrArg Int32.toInt c_422
        rw [i_sub (by omega) (by omega), i_add (by rw [eight_k hc0 (by omega)]; omega) (by rw [eight_k hc0 (by omega)]; omega), eight_k hc0 (by omega)] at hde
        refine ml_st (S' := (429, [(0, .ref m0), (1, .int x1), (2, .int x2), (3, .int x3), (4, .int x4), (5, .int x5), (6, .int x6)], [.int 0], M)) rfl rfl rfl ?_
        refine ml_st (S' := (431, [(0, .ref m0), (3, .int x3), (9, .int 0)], [], M)) rfl rfl rfl ?_
        have L_431 : ∀ (n_431 : Nat) (i431_9 : Int32), (2147483648 - i431_9.toInt).toNat ≤ n_431 → 0 ≤ i431_9.toInt → ml (mT g) d (mb_177 g).2 (431, [(0, .ref m0), (3, .int x3), (9, .int i431_9)], [], M) (fun v M' => ∃ (x : Int32) (I' : rI) (R' : rR), v = some (.int x) ∧ RS g m0 q z I' R' M' ∧ eqI [47, 48, 65, 67, 68, 69, 70, 71, 72] I I' ∧ eqR [] R R' ∧ NW f n I') := by
          intro n_431
          induction n_431 with
          | zero => intro i431_9 hn; exact (loop_zero hn).elim
          | succ n_431 ih_431 =>
            intro i431_9 hn_431 hi_431
            refine ml_blk 3 (S' := (435, [(0, .ref m0), (3, .int x3), (9, .int i431_9)], [.int x3, .ref m0, .int i431_9], M)) rfl ?_
            refine ml_call (a := [.ref m0, .int x3]) (rest := [.int i431_9]) rfl (hR.okc rfl rfl rfl) rfl rfl (rm_u2 hR hF (h0) (by omega) (by omega)) (fun v135 M136 h137 => ?_)
            obtain ⟨rfl, h137⟩ := h137
            rw [h137]
            show ml _ _ _ (438, [(0, .ref m0), (3, .int x3), (9, .int i431_9)], [.int (f2 f x3), .int i431_9], M) _
            refine ml_if2 (S1 := (531, [(0, .ref m0), (3, .int x3), (9, .int i431_9)], [], M)) (S2 := (441, [(0, .ref m0), (3, .int x3), (9, .int i431_9)], [], M)) rfl rfl rfl (fun c_438 => ?_) (fun c_438 => ?_)
            · have c_438 : (f2 f x3) ≤ i431_9 := of_decide_eq_true c_438
              refine ml_blk 3 (S' := (534, [(0, .ref m0), (3, .int x3), (9, .int i431_9)], [.int x3, .ref m0, .ref m0], M)) rfl ?_
              refine ml_call (a := [.ref m0, .int x3]) (rest := [.ref m0]) rfl (hR.okc rfl rfl rfl) rfl rfl (rm_u2 hR hF (h0) (by omega) (by omega)) (fun v138 M139 h140 => ?_)
              obtain ⟨rfl, h140⟩ := h140
              rw [h140]
              show ml _ _ _ (537, [(0, .ref m0), (3, .int x3), (9, .int i431_9)], [.int (f2 f x3), .ref m0], M) _
              refine rp_int rfl hR rfl (fun M141 I142 hR143 e144 f145 => ?_)
              show ml _ _ _ (540, [(0, .ref m0), (3, .int x3), (9, .int i431_9)], [], M141) _
              refine ml_st (S' := (541, [(0, .ref m0), (3, .int x3), (9, .int i431_9)], [.int 0], M141)) rfl rfl rfl ?_
              exact ml_ret rfl (rfl) (⟨_, _, _, rfl, hR143, (eqI.rf.put f145 (by decide)), eqR.rf, (hN.put (by decide) e144 f145)⟩)
            · have c_438 : ¬ ((f2 f x3) ≤ i431_9) := of_decide_eq_false c_438
              have hjl := i_nle c_438
              have hjk : (x3 + 2 + 8 * i431_9).toInt = x3.toInt + 2 + 8 * i431_9.toInt := by have d2 : (x3 + 2).toInt = x3.toInt + 2 := (by rw [i_add (by omega) (by omega), i2_]); rw [i_add (by rw [eight_k hi_431 (by omega)]; omega) (by rw [eight_k hi_431 (by omega)]; omega), eight_k hi_431 (by omega), d2]
              have hk2 : ((x3 + 2 + 8 * i431_9) + 2).toInt = (x3 + 2 + 8 * i431_9).toInt + 2 := i_add (by have : (2 : Int32).toInt = 2 := rfl; omega) (by have : (2 : Int32).toInt = 2 := rfl; omega)
              have hk4 : ((x3 + 2 + 8 * i431_9) + 4).toInt = (x3 + 2 + 8 * i431_9).toInt + 4 := i_add (by have : (4 : Int32).toInt = 4 := rfl; omega) (by have : (4 : Int32).toInt = 4 := rfl; omega)
              refine ml_blk 3 (S' := (444, [(0, .ref m0), (3, .int x3), (9, .int i431_9)], [.int (x3 + 2)], M)) rfl ?_
              refine ml_blk 3 (S' := (449, [(0, .ref m0), (3, .int x3), (9, .int i431_9)], [.int (8 * i431_9), .int (x3 + 2)], M)) rfl ?_
              refine ml_st (S' := (450, [(0, .ref m0), (3, .int x3), (9, .int i431_9)], [.int ((x3 + 2) + (8 * i431_9))], M)) rfl rfl rfl ?_
              refine ml_st (S' := (452, [(10, .int ((x3 + 2) + (8 * i431_9))), (0, .ref m0), (3, .int x3), (9, .int i431_9)], [], M)) rfl rfl rfl ?_
              refine ml_blk 3 (S' := (456, [(10, .int ((x3 + 2) + (8 * i431_9))), (0, .ref m0), (3, .int x3), (9, .int i431_9)], [.int ((x3 + 2) + (8 * i431_9)), .ref m0, .ref m0], M)) rfl ?_
              refine ml_call (a := [.ref m0, .int ((x3 + 2) + (8 * i431_9))]) (rest := [.ref m0]) rfl (hR.okc rfl rfl rfl) rfl rfl (rm_u2 hR hF (by omega) (by omega) (by omega)) (fun v146 M147 h148 => ?_)
              obtain ⟨rfl, h148⟩ := h148
              rw [h148]
              show ml _ _ _ (459, [(10, .int ((x3 + 2) + (8 * i431_9))), (0, .ref m0), (3, .int x3), (9, .int i431_9)], [.int (f2 f ((x3 + 2) + (8 * i431_9))), .ref m0], M) _
              refine ml_call (a := [.ref m0, .int (f2 f ((x3 + 2) + (8 * i431_9)))]) (rest := []) rfl (hR.okc rfl rfl rfl) rfl rfl (rm_tag hR hF hP (by omega)) (fun v149 M150 h151 => ?_)
              obtain ⟨rfl, h151⟩ := h151
              rw [h151]
              show ml _ _ _ (462, [(10, .int ((x3 + 2) + (8 * i431_9))), (0, .ref m0), (3, .int x3), (9, .int i431_9)], [.int (tgf f cp pa (f2 f ((x3 + 2) + (8 * i431_9))))], M) _
              refine ml_st (S' := (464, [(10, .int ((x3 + 2) + (8 * i431_9))), (0, .ref m0), (3, .int x3), (9, .int i431_9)], [.int 7, .int (tgf f cp pa (f2 f ((x3 + 2) + (8 * i431_9))))], M)) rfl rfl rfl ?_
              refine ml_if2 (S1 := (522, [], [], M)) (S2 := (467, [(10, .int ((x3 + 2) + (8 * i431_9))), (0, .ref m0), (3, .int x3), (9, .int i431_9)], [], M)) rfl rfl rfl (fun c_464 => ?_) (fun c_464 => ?_)
              · have c_464 : ¬ (tgf f cp pa (f2 f ((x3 + 2) + (8 * i431_9)))) = 7 := of_decide_eq_true c_464
                refine ml_st (S' := (524, [], [.int 33], M)) rfl rfl rfl ?_
                exact ml_ret rfl (rfl) (⟨_, _, _, rfl, hR, eqI.rf, eqR.rf, hN⟩)
              · have c_464 : ¬ (¬ (tgf f cp pa (f2 f ((x3 + 2) + (8 * i431_9)))) = 7) := of_decide_eq_false c_464
                refine ml_blk 3 (S' := (471, [(10, .int ((x3 + 2) + (8 * i431_9))), (0, .ref m0), (3, .int x3), (9, .int i431_9)], [.int 2, .int ((x3 + 2) + (8 * i431_9)), .ref m0], M)) rfl ?_
                refine ml_st (S' := (472, [(10, .int ((x3 + 2) + (8 * i431_9))), (0, .ref m0), (3, .int x3), (9, .int i431_9)], [.int (((x3 + 2) + (8 * i431_9)) + 2), .ref m0], M)) rfl rfl rfl ?_
                refine ml_call (a := [.ref m0, .int (((x3 + 2) + (8 * i431_9)) + 2)]) (rest := []) rfl (hR.okc rfl rfl rfl) rfl rfl (rm_u2 hR hF (by omega) (by omega) (by omega)) (fun v152 M153 h154 => ?_)
                obtain ⟨rfl, h154⟩ := h154
                rw [h154]
                show ml _ _ _ (475, [(10, .int ((x3 + 2) + (8 * i431_9))), (0, .ref m0), (3, .int x3), (9, .int i431_9)], [.int (f2 f (((x3 + 2) + (8 * i431_9)) + 2))], M) _
                have J_495 : ml (mT g) d (mb_177 g).2 (495, [(0, .ref m0), (3, .int x3), (9, .int i431_9), (10, .int ((x3 + 2) + (8 * i431_9)))], [], M) (fun v M' => ∃ (x : Int32) (I' : rI) (R' : rR), v = some (.int x) ∧ RS g m0 q z I' R' M' ∧ eqI [47, 48, 65, 67, 68, 69, 70, 71, 72] I I' ∧ eqR [] R R' ∧ NW f n I') := by
                  refine ml_blk 3 (S' := (499, [(0, .ref m0), (3, .int x3), (9, .int i431_9), (10, .int ((x3 + 2) + (8 * i431_9)))], [.int 4, .int ((x3 + 2) + (8 * i431_9)), .ref m0], M)) rfl ?_
                  refine ml_st (S' := (500, [(0, .ref m0), (3, .int x3), (9, .int i431_9), (10, .int ((x3 + 2) + (8 * i431_9)))], [.int (((x3 + 2) + (8 * i431_9)) + 4), .ref m0], M)) rfl rfl rfl ?_
                  refine ml_call (a := [.ref m0, .int (((x3 + 2) + (8 * i431_9)) + 4)]) (rest := []) rfl (hR.okc rfl rfl rfl) rfl rfl (rm_u2 hR hF (by omega) (by omega) (by omega)) (fun v155 M156 h157 => ?_)
                  obtain ⟨rfl, h157⟩ := h157
                  rw [h157]
                  show ml _ _ _ (503, [(0, .ref m0), (3, .int x3), (9, .int i431_9), (10, .int ((x3 + 2) + (8 * i431_9)))], [.int (f2 f (((x3 + 2) + (8 * i431_9)) + 4))], M) _
                  refine ml_if (S1 := (525, [(0, .ref m0), (3, .int x3), (9, .int i431_9)], [], M)) (S2 := (506, [(0, .ref m0), (3, .int x3), (9, .int i431_9), (10, .int ((x3 + 2) + (8 * i431_9)))], [], M)) rfl rfl rfl (fun c_503 => ?_) (fun c_503 => ?_)
                  · have c_503 : (f2 f (((x3 + 2) + (8 * i431_9)) + 4)) = 0 := of_decide_eq_true c_503
                    refine ml_st (S' := (528, [(9, .int (i431_9 + 1)), (0, .ref m0), (3, .int x3)], [], M)) rfl rfl rfl ?_
                    refine ml_st (S' := (431, [(0, .ref m0), (3, .int x3), (9, .int (i431_9 + 1))], [], M)) rfl rfl rfl ?_
                    exact ih_431 (i431_9 + 1) (loop_inc (Int32.not_le.mp c_438) hn_431) (by rw [inc_lt (Int32.not_le.mp c_438)]; omega)
                  · have c_503 : ¬ ((f2 f (((x3 + 2) + (8 * i431_9)) + 4)) = 0) := of_decide_eq_false c_503
                    refine ml_blk 3 (S' := (510, [(0, .ref m0), (3, .int x3), (9, .int i431_9), (10, .int ((x3 + 2) + (8 * i431_9)))], [.int ((x3 + 2) + (8 * i431_9)), .ref m0, .ref m0], M)) rfl ?_
                    refine ml_blk 2 (S' := (512, [(0, .ref m0), (3, .int x3), (9, .int i431_9), (10, .int ((x3 + 2) + (8 * i431_9)))], [.int (((x3 + 2) + (8 * i431_9)) + 4), .ref m0, .ref m0], M)) rfl ?_
                    refine ml_call (a := [.ref m0, .int (((x3 + 2) + (8 * i431_9)) + 4)]) (rest := [.ref m0]) rfl (hR.okc rfl rfl rfl) rfl rfl (rm_u2 hR hF (by omega) (by omega) (by omega)) (fun v158 M159 h160 => ?_)
                    obtain ⟨rfl, h160⟩ := h160
                    rw [h160]
                    show ml _ _ _ (515, [(0, .ref m0), (3, .int x3), (9, .int i431_9), (10, .int ((x3 + 2) + (8 * i431_9)))], [.int (f2 f (((x3 + 2) + (8 * i431_9)) + 4)), .ref m0], M) _
                    refine ml_call (a := [.ref m0, .int (f2 f (((x3 + 2) + (8 * i431_9)) + 4))]) (rest := []) rfl (hR.okc rfl rfl rfl) rfl rfl (rm_tag hR hF hP (by omega)) (fun v161 M162 h163 => ?_)
                    obtain ⟨rfl, h163⟩ := h163
                    rw [h163]
                    show ml _ _ _ (518, [(0, .ref m0), (3, .int x3), (9, .int i431_9), (10, .int ((x3 + 2) + (8 * i431_9)))], [.int (tgf f cp pa (f2 f (((x3 + 2) + (8 * i431_9)) + 4)))], M) _
                    refine ml_st (S' := (519, [(0, .ref m0), (3, .int x3), (9, .int i431_9), (10, .int ((x3 + 2) + (8 * i431_9)))], [.int 1, .int (tgf f cp pa (f2 f (((x3 + 2) + (8 * i431_9)) + 4)))], M)) rfl rfl rfl ?_
                    refine ml_if2 (S1 := (525, [(0, .ref m0), (3, .int x3), (9, .int i431_9)], [], M)) (S2 := (522, [], [], M)) rfl rfl rfl (fun c_519 => ?_) (fun c_519 => ?_)
                    · have c_519 : (tgf f cp pa (f2 f (((x3 + 2) + (8 * i431_9)) + 4))) = 1 := of_decide_eq_true c_519
                      refine ml_st (S' := (528, [(9, .int (i431_9 + 1)), (0, .ref m0), (3, .int x3)], [], M)) rfl rfl rfl ?_
                      refine ml_st (S' := (431, [(0, .ref m0), (3, .int x3), (9, .int (i431_9 + 1))], [], M)) rfl rfl rfl ?_
                      exact ih_431 (i431_9 + 1) (loop_inc (Int32.not_le.mp c_438) hn_431) (by rw [inc_lt (Int32.not_le.mp c_438)]; omega)
                    · have c_519 : ¬ ((tgf f cp pa (f2 f (((x3 + 2) + (8 * i431_9)) + 4))) = 1) := of_decide_eq_false c_519
                      refine ml_st (S' := (524, [], [.int 33], M)) rfl rfl rfl ?_
                      exact ml_ret rfl (rfl) (⟨_, _, _, rfl, hR, eqI.rf, eqR.rf, hN⟩)
                refine ml_if (S1 := (495, [(0, .ref m0), (3, .int x3), (9, .int i431_9), (10, .int ((x3 + 2) + (8 * i431_9)))], [], M)) (S2 := (478, [(10, .int ((x3 + 2) + (8 * i431_9))), (0, .ref m0), (3, .int x3), (9, .int i431_9)], [], M)) rfl rfl rfl (fun c_475 => ?_) (fun c_475 => ?_)
                · have c_475 : (f2 f (((x3 + 2) + (8 * i431_9)) + 2)) = 0 := of_decide_eq_true c_475
                  exact J_495 
                · have c_475 : ¬ ((f2 f (((x3 + 2) + (8 * i431_9)) + 2)) = 0) := of_decide_eq_false c_475
                  refine ml_blk 3 (S' := (482, [(10, .int ((x3 + 2) + (8 * i431_9))), (0, .ref m0), (3, .int x3), (9, .int i431_9)], [.int ((x3 + 2) + (8 * i431_9)), .ref m0, .ref m0], M)) rfl ?_
                  refine ml_blk 2 (S' := (484, [(10, .int ((x3 + 2) + (8 * i431_9))), (0, .ref m0), (3, .int x3), (9, .int i431_9)], [.int (((x3 + 2) + (8 * i431_9)) + 2), .ref m0, .ref m0], M)) rfl ?_
                  refine ml_call (a := [.ref m0, .int (((x3 + 2) + (8 * i431_9)) + 2)]) (rest := [.ref m0]) rfl (hR.okc rfl rfl rfl) rfl rfl (rm_u2 hR hF (by omega) (by omega) (by omega)) (fun v164 M165 h166 => ?_)
                  obtain ⟨rfl, h166⟩ := h166
                  rw [h166]
                  show ml _ _ _ (487, [(10, .int ((x3 + 2) + (8 * i431_9))), (0, .ref m0), (3, .int x3), (9, .int i431_9)], [.int (f2 f (((x3 + 2) + (8 * i431_9)) + 2)), .ref m0], M) _
                  refine ml_call (a := [.ref m0, .int (f2 f (((x3 + 2) + (8 * i431_9)) + 2))]) (rest := []) rfl (hR.okc rfl rfl rfl) rfl rfl (rm_tag hR hF hP (by omega)) (fun v167 M168 h169 => ?_)
                  obtain ⟨rfl, h169⟩ := h169
                  rw [h169]
                  show ml _ _ _ (490, [(10, .int ((x3 + 2) + (8 * i431_9))), (0, .ref m0), (3, .int x3), (9, .int i431_9)], [.int (tgf f cp pa (f2 f (((x3 + 2) + (8 * i431_9)) + 2)))], M) _
                  refine ml_st (S' := (492, [(10, .int ((x3 + 2) + (8 * i431_9))), (0, .ref m0), (3, .int x3), (9, .int i431_9)], [.int 7, .int (tgf f cp pa (f2 f (((x3 + 2) + (8 * i431_9)) + 2)))], M)) rfl rfl rfl ?_
                  refine ml_if2 (S1 := (522, [], [], M)) (S2 := (495, [(0, .ref m0), (3, .int x3), (9, .int i431_9), (10, .int ((x3 + 2) + (8 * i431_9)))], [], M)) rfl rfl rfl (fun c_492 => ?_) (fun c_492 => ?_)
                  · have c_492 : ¬ (tgf f cp pa (f2 f (((x3 + 2) + (8 * i431_9)) + 2))) = 7 := of_decide_eq_true c_492
                    refine ml_st (S' := (524, [], [.int 33], M)) rfl rfl rfl ?_
                    exact ml_ret rfl (rfl) (⟨_, _, _, rfl, hR, eqI.rf, eqR.rf, hN⟩)
                  · have c_492 : ¬ (¬ (tgf f cp pa (f2 f (((x3 + 2) + (8 * i431_9)) + 2))) = 7) := of_decide_eq_false c_492
                    exact J_495 
        exact L_431 _ 0 (Nat.le_refl _) (by decide)
      · have c_422 : ¬ ((x4 - x3) = (2 + (8 * (f2 f x3)))) := of_decide_eq_false c_422
        refine ml_st (S' := (427, [], [.int 30], M)) rfl rfl rfl ?_
        exact ml_ret rfl (rfl) (⟨_, _, _, rfl, hR, eqI.rf, eqR.rf, hN⟩)
  · show ml _ _ _ (542, [(0, .ref m0), (1, .int x1), (2, .int x2), (3, .int x3), (4, .int x4), (5, .int x5), (6, .int x6)], [], M) _
    refine ml_blk 3 (S' := (546, [(0, .ref m0), (1, .int x1), (2, .int x2), (3, .int x3), (4, .int x4), (5, .int x5), (6, .int x6)], [.int x4, .int x3, .ref m0], M)) rfl ?_
    refine ml_call (a := [.ref m0, .int x3, .int x4]) (rest := []) rfl (hR.okc rfl rfl rfl) rfl rfl (rm_bootstraps hR hF hP (h0) (h1) (h2) (by omega)) (fun v170 M171 h172 => ?_)
    obtain ⟨u178, I173, R174, rfl, hR175, hI176, hV177, w179⟩ := h172
    show ml _ _ _ (549, [(0, .ref m0), (1, .int x1), (2, .int x2), (3, .int x3), (4, .int x4), (5, .int x5), (6, .int x6)], [.int u178], M171) _
    exact ml_ret rfl (rfl) (⟨_, _, _, rfl, hR175, (eqI.rf.tr hI176 (by decide)), (eqR.rf.tr hV177 (by decide)), (nw_boot hN hI176 w179)⟩)
  · show ml _ _ _ (550, [(0, .ref m0), (1, .int x1), (2, .int x2), (3, .int x3), (4, .int x4), (5, .int x5), (6, .int x6)], [], M) _
    refine ml_blk 3 (S' := (554, [(0, .ref m0), (1, .int x1), (2, .int x2), (3, .int x3), (4, .int x4), (5, .int x5), (6, .int x6)], [.int (x4 - x3)], M)) rfl ?_
    refine ml_st (S' := (555, [(0, .ref m0), (1, .int x1), (2, .int x2), (3, .int x3), (4, .int x4), (5, .int x5), (6, .int x6)], [.int 2, .int (x4 - x3)], M)) rfl rfl rfl ?_
    refine ml_if2 (S1 := (561, [(0, .ref m0), (1, .int x1), (2, .int x2), (3, .int x3), (4, .int x4), (5, .int x5), (6, .int x6)], [], M)) (S2 := (558, [(0, .ref m0), (1, .int x1), (2, .int x2), (3, .int x3), (4, .int x4), (5, .int x5), (6, .int x6)], [], M)) rfl rfl rfl (fun c_555 => ?_) (fun c_555 => ?_)
    · have c_555 : (x4 - x3) = 2 := of_decide_eq_true c_555
      have hd2 : (x4 - x3).toInt = 2 := by rw [c_555]; rfl
      rw [i_sub (by omega) (by omega)] at hd2
      refine ml_blk 3 (S' := (564, [(0, .ref m0), (1, .int x1), (2, .int x2), (3, .int x3), (4, .int x4), (5, .int x5), (6, .int x6)], [.int x3, .ref m0, .ref m0], M)) rfl ?_
      refine ml_call (a := [.ref m0, .int x3]) (rest := [.ref m0]) rfl (hR.okc rfl rfl rfl) rfl rfl (rm_u2 hR hF (h0) (by omega) (by omega)) (fun v180 M181 h182 => ?_)
      obtain ⟨rfl, h182⟩ := h182
      rw [h182]
      show ml _ _ _ (567, [(0, .ref m0), (1, .int x1), (2, .int x2), (3, .int x3), (4, .int x4), (5, .int x5), (6, .int x6)], [.int (f2 f x3), .ref m0], M) _
      refine ml_call (a := [.ref m0, .int (f2 f x3)]) (rest := []) rfl (hR.okc rfl rfl rfl) rfl rfl (rm_tag hR hF hP (by omega)) (fun v183 M184 h185 => ?_)
      obtain ⟨rfl, h185⟩ := h185
      rw [h185]
      show ml _ _ _ (570, [(0, .ref m0), (1, .int x1), (2, .int x2), (3, .int x3), (4, .int x4), (5, .int x5), (6, .int x6)], [.int (tgf f cp pa (f2 f x3))], M) _
      refine ml_st (S' := (572, [(0, .ref m0), (1, .int x1), (2, .int x2), (3, .int x3), (4, .int x4), (5, .int x5), (6, .int x6)], [.int 7, .int (tgf f cp pa (f2 f x3))], M)) rfl rfl rfl ?_
      refine ml_if2 (S1 := (586, [], [], M)) (S2 := (575, [(0, .ref m0), (1, .int x1), (2, .int x2), (3, .int x3), (4, .int x4), (5, .int x5), (6, .int x6)], [], M)) rfl rfl rfl (fun c_572 => ?_) (fun c_572 => ?_)
      · have c_572 : ¬ (tgf f cp pa (f2 f x3)) = 7 := of_decide_eq_true c_572
        refine ml_st (S' := (588, [], [.int 34], M)) rfl rfl rfl ?_
        exact ml_ret rfl (rfl) (⟨_, _, _, rfl, hR, eqI.rf, eqR.rf, hN⟩)
      · have c_572 : ¬ (¬ (tgf f cp pa (f2 f x3)) = 7) := of_decide_eq_false c_572
        refine ml_blk 3 (S' := (580, [(0, .ref m0), (1, .int x1), (2, .int x2), (3, .int x3), (4, .int x4), (5, .int x5), (6, .int x6)], [.int (x6 >>> (7 &&& 31))], M)) rfl ?_
        refine ml_blk 3 (S' := (583, [(0, .ref m0), (1, .int x1), (2, .int x2), (3, .int x3), (4, .int x4), (5, .int x5), (6, .int x6)], [.int 1, .int ((x6 >>> (7 &&& 31)) &&& 1)], M)) rfl ?_
        refine ml_if2 (S1 := (589, [(0, .ref m0), (1, .int x1), (2, .int x2), (3, .int x3), (4, .int x4), (5, .int x5), (6, .int x6)], [], M)) (S2 := (586, [], [], M)) rfl rfl rfl (fun c_583 => ?_) (fun c_583 => ?_)
        · have c_583 : ¬ ((x6 >>> (7 &&& 31)) &&& 1) = 1 := of_decide_eq_true c_583
          refine ml_blk 3 (S' := (592, [(0, .ref m0), (1, .int x1), (2, .int x2), (3, .int x3), (4, .int x4), (5, .int x5), (6, .int x6)], [.int x3, .ref m0, .ref m0], M)) rfl ?_
          refine ml_call (a := [.ref m0, .int x3]) (rest := [.ref m0]) rfl (hR.okc rfl rfl rfl) rfl rfl (rm_u2 hR hF (h0) (by omega) (by omega)) (fun v186 M187 h188 => ?_)
          obtain ⟨rfl, h188⟩ := h188
          rw [h188]
          show ml _ _ _ (595, [(0, .ref m0), (1, .int x1), (2, .int x2), (3, .int x3), (4, .int x4), (5, .int x5), (6, .int x6)], [.int (f2 f x3), .ref m0], M) _
          refine rp_int rfl hR rfl (fun M189 I190 hR191 e192 f193 => ?_)
          show ml _ _ _ (598, [(0, .ref m0), (1, .int x1), (2, .int x2), (3, .int x3), (4, .int x4), (5, .int x5), (6, .int x6)], [], M189) _
          refine ml_st (S' := (599, [(0, .ref m0), (1, .int x1), (2, .int x2), (3, .int x3), (4, .int x4), (5, .int x5), (6, .int x6)], [.int 0], M189)) rfl rfl rfl ?_
          exact ml_ret rfl (rfl) (⟨_, _, _, rfl, hR191, (eqI.rf.put f193 (by decide)), eqR.rf, (hN.put (by decide) e192 f193)⟩)
        · have c_583 : ¬ (¬ ((x6 >>> (7 &&& 31)) &&& 1) = 1) := of_decide_eq_false c_583
          refine ml_st (S' := (588, [], [.int 34], M)) rfl rfl rfl ?_
          exact ml_ret rfl (rfl) (⟨_, _, _, rfl, hR, eqI.rf, eqR.rf, hN⟩)
    · have c_555 : ¬ ((x4 - x3) = 2) := of_decide_eq_false c_555
      refine ml_st (S' := (560, [(0, .ref m0), (1, .int x1), (2, .int x2), (3, .int x3), (4, .int x4), (5, .int x5), (6, .int x6)], [.int 30], M)) rfl rfl rfl ?_
      exact ml_ret rfl (rfl) (⟨_, _, _, rfl, hR, eqI.rf, eqR.rf, hN⟩)
  · show ml _ _ _ (600, [(0, .ref m0), (1, .int x1), (2, .int x2), (3, .int x3), (4, .int x4), (5, .int x5), (6, .int x6)], [], M) _
    refine ml_blk 3 (S' := (604, [(0, .ref m0), (1, .int x1), (2, .int x2), (3, .int x3), (4, .int x4), (5, .int x5), (6, .int x6)], [.int x4, .int x3, .ref m0], M)) rfl ?_
    refine ml_call (a := [.ref m0, .int x3, .int x4]) (rest := []) rfl (hR.okc rfl rfl rfl) rfl rfl (rm_components hR hF hY hP (h0) (h1) (h2) (by omega)) (fun v194 M195 h196 => ?_)
    obtain ⟨u202, I197, R198, rfl, hR199, hI200, hV201, w203⟩ := h196
    show ml _ _ _ (607, [(0, .ref m0), (1, .int x1), (2, .int x2), (3, .int x3), (4, .int x4), (5, .int x5), (6, .int x6)], [.int u202], M195) _
    exact ml_ret rfl (rfl) (⟨_, _, _, rfl, hR199, (eqI.rf.tr hI200 (by decide)), (eqR.rf.tr hV201 (by decide)), (nw_comp hN hI200 w203)⟩)
set_option maxHeartbeats 2000000 in
theorem rm_checkAttributes4 {g : xe_G}  {m0 : Nat} {q : Nat → Nat} {z : Nat × Nat} {I : rI} {R : rR} {M : mi_H} {x1 x2 x3 nf : Int32} {n : Nat} {f : Nat → Int32} {S cN : Nat} {sa sl ch : Nat → Int32} {cp mj : Int32} {pa py : Nat → Int32} {e : Int32}  (hR : RS g m0 q z I R M) (hk58 : I 58 = some nf) (hF : FK n f I R) (hY : SK S cN sa sl ch I R) (hP : PK n f S cp mj pa py I R) (hK : KW I R) (hw : x2 = 4) (hat : AT f n x1 e) (hN : NW f n I) {d : Nat} (hd : 7 ≤ d) : mt (mT g) d 187 [.ref m0, .int x1, .int x2, .int x3] M (fun v M' => ∃ (x : Int32) (I' : rI) (R' : rR), v = some (.int x) ∧ RS g m0 q z I' R' M' ∧ eqI [47, 48, 65, 66, 67, 68, 69, 70, 71, 72] I I' ∧ eqR [] R R' ∧ (x.toInt < 0 ∨ x = e) ∧ NW f n I') := by
  obtain ⟨d, rfl⟩ : ∃ e, d = e + 1 := ⟨d - 1, by omega⟩
  refine mt_in (b := mb_187 g) rfl rfl ?_
  show ml (mT g) d (mb_187 g).2 (0, [(0, .ref m0), (1, .int x1), (2, .int x2), (3, .int x3)], [], M) _
  have hn := hF.1
  refine ml_blk 2 (S' := (2, [(0, .ref m0), (1, .int x1), (2, .int x2), (3, .int x3)], [.int x1, .ref m0], M)) rfl ?_
  refine ml_call (a := [.ref m0, .int x1]) (rest := []) rfl (hR.okc rfl rfl rfl) rfl rfl (rm_u2 hR hF (hat.1) (hat.2.1) (by omega)) (fun v11 M12 h13 => ?_)
  obtain ⟨rfl, h13⟩ := h13
  rw [h13]
  show ml _ _ _ (5, [(0, .ref m0), (1, .int x1), (2, .int x2), (3, .int x3)], [.int (f2 f x1)], M) _
  refine ml_st (S' := (7, [(4, .int (f2 f x1)), (0, .ref m0), (1, .int x1), (2, .int x2), (3, .int x3)], [], M)) rfl rfl rfl ?_
  refine ml_blk 3 (S' := (10, [(4, .int (f2 f x1)), (0, .ref m0), (1, .int x1), (2, .int x2), (3, .int x3)], [.int (x1 + 2)], M)) rfl ?_
  refine ml_st (S' := (12, [(5, .int (x1 + 2)), (4, .int (f2 f x1)), (0, .ref m0), (1, .int x1), (2, .int x2), (3, .int x3)], [], M)) rfl rfl rfl ?_
  refine ml_st (S' := (13, [(5, .int (x1 + 2)), (4, .int (f2 f x1)), (0, .ref m0), (1, .int x1), (2, .int x2), (3, .int x3)], [.int 0], M)) rfl rfl rfl ?_
  refine ml_st (S' := (15, [(6, .int 0), (5, .int (x1 + 2)), (4, .int (f2 f x1)), (0, .ref m0), (1, .int x1), (2, .int x2), (3, .int x3)], [], M)) rfl rfl rfl ?_
  refine ml_st (S' := (16, [(6, .int 0), (5, .int (x1 + 2)), (4, .int (f2 f x1)), (0, .ref m0), (1, .int x1), (2, .int x2), (3, .int x3)], [.int 0], M)) rfl rfl rfl ?_
  refine ml_st (S' := (18, [(0, .ref m0), (2, .int x2), (3, .int x3), (4, .int (f2 f x1)), (5, .int (x1 + 2)), (6, .int 0), (7, .int 0)], [], M)) rfl rfl rfl ?_
  have L_18 : ∀ (n_18 : Nat) (i18_5 : Int32) (i18_6 : Int32) (i18_7 : Int32) (M_18 : mi_H) (I_18 : rI) (R_18 : rR), (2147483648 - i18_7.toInt).toNat ≤ n_18 → RS g m0 q z I_18 R_18 M_18 → eqI [47, 48, 65, 66, 67, 68, 69, 70, 71, 72] I I_18 → eqR [] R R_18 → (0 ≤ i18_7.toInt ∧ i18_7.toInt ≤ (f2 f x1).toInt ∧ itr (RA1 f n) ((f2 f x1).toInt - i18_7.toInt).toNat i18_5 e ∧ NW f n I_18) → ml (mT g) d (mb_187 g).2 (18, [(0, .ref m0), (2, .int x2), (3, .int x3), (4, .int (f2 f x1)), (5, .int i18_5), (6, .int i18_6), (7, .int i18_7)], [], M_18) (fun v M' => ∃ (x : Int32) (I' : rI) (R' : rR), v = some (.int x) ∧ RS g m0 q z I' R' M' ∧ eqI [47, 48, 65, 66, 67, 68, 69, 70, 71, 72] I I' ∧ eqR [] R R' ∧ (x.toInt < 0 ∨ x = e) ∧ NW f n I') := by
    intro n_18
    induction n_18 with
    | zero => intro i18_5 i18_6 i18_7 M_18 I_18 R_18 hn; exact (loop_zero hn).elim
    | succ n_18 ih_18 =>
      intro i18_5 i18_6 i18_7 M_18 I_18 R_18 hn_18 hR_18 hI_18 hV_18 hi_18
      obtain ⟨hk0, hk1, hit, hnw18⟩ := hi_18
      refine ml_blk 2 (S' := (22, [(0, .ref m0), (2, .int x2), (3, .int x3), (4, .int (f2 f x1)), (5, .int i18_5), (6, .int i18_6), (7, .int i18_7)], [.int (f2 f x1), .int i18_7], M_18)) rfl ?_
      refine ml_if2 (S1 := (284, [(0, .ref m0), (2, .int x2), (3, .int x3), (4, .int (f2 f x1)), (5, .int i18_5), (6, .int i18_6), (7, .int i18_7)], [], M_18)) (S2 := (25, [(0, .ref m0), (2, .int x2), (3, .int x3), (4, .int (f2 f x1)), (5, .int i18_5), (6, .int i18_6), (7, .int i18_7)], [], M_18)) rfl rfl rfl (fun c_22 => ?_) (fun c_22 => ?_)
      · have c_22 : (f2 f x1) ≤ i18_7 := of_decide_eq_true c_22
        refine ml_st (S' := (286, [(0, .ref m0), (2, .int x2), (3, .int x3), (4, .int (f2 f x1)), (5, .int i18_5), (6, .int i18_6), (7, .int i18_7)], [.int i18_5], M_18)) rfl rfl rfl ?_
        exact ml_ret rfl (rfl) (⟨_, _, _, rfl, hR_18, (eqI.rf.tr hI_18 (by decide)), (eqR.rf.tr hV_18 (by decide)), ⟨Or.inr (itr_one hit (by have := i_le c_22; omega)).symm, hnw18⟩⟩)
      · have c_22 : ¬ ((f2 f x1) ≤ i18_7) := of_decide_eq_false c_22
        obtain ⟨b1, hb1, hnx⟩ := itr_next hit c_22
        have hb2 := hb1
        obtain ⟨g0, g1, g2, g3⟩ := hb2
        have ep2 : (i18_5 + 2).toInt = i18_5.toInt + 2 := i_add (by have : (2 : Int32).toInt = 2 := rfl; omega) (by have : (2 : Int32).toInt = 2 := rfl; omega)
        have ep6 : (i18_5 + 6).toInt = i18_5.toInt + 6 := i_add (by have : (6 : Int32).toInt = 6 := rfl; omega) (by have : (6 : Int32).toInt = 6 := rfl; omega)
        have hra := ra_of (f := f) hn g0 g2
        have hl0 := f4_pos (f := f) (x := i18_5 + 2)
        have hle : (i18_5 + 6 + Int64.toInt32 (f4 f (i18_5 + 2))).toInt = i18_5.toInt + 6 + (f4 f (i18_5 + 2)).toInt := by have di : (Int64.toInt32 (f4 f (i18_5 + 2))).toInt = (f4 f (i18_5 + 2)).toInt := i_of (by omega) (by omega); rw [i_add (by omega) (by omega), di, ep6]
        refine ml_blk 3 (S' := (29, [(0, .ref m0), (2, .int x2), (3, .int x3), (4, .int (f2 f x1)), (5, .int i18_5), (6, .int i18_6), (7, .int i18_7)], [.int 2, .int i18_5, .ref m0], M_18)) rfl ?_
        refine ml_st (S' := (30, [(0, .ref m0), (2, .int x2), (3, .int x3), (4, .int (f2 f x1)), (5, .int i18_5), (6, .int i18_6), (7, .int i18_7)], [.int (i18_5 + 2), .ref m0], M_18)) rfl rfl rfl ?_
        have hF14 : FK n f I_18 R_18 := (hF.mono (cIx hI_18 (by decide)) (cRx hV_18 (by decide)))
        refine ml_call (a := [.ref m0, .int (i18_5 + 2)]) (rest := []) rfl (hR_18.okc rfl rfl rfl) rfl rfl (rm_u4 hR_18 hF14 (by omega) (by omega) (by omega)) (fun v15 M16 h17 => ?_)
        obtain ⟨rfl, h17⟩ := h17
        rw [h17]
        show ml _ _ _ (33, [(0, .ref m0), (2, .int x2), (3, .int x3), (4, .int (f2 f x1)), (5, .int i18_5), (6, .int i18_6), (7, .int i18_7)], [.long (f4 f (i18_5 + 2))], M_18) _
        refine ml_st (S' := (34, [(0, .ref m0), (2, .int x2), (3, .int x3), (4, .int (f2 f x1)), (5, .int i18_5), (6, .int i18_6), (7, .int i18_7)], [.int (Int64.toInt32 (f4 f (i18_5 + 2)))], M_18)) rfl rfl rfl ?_
        refine ml_st (S' := (36, [(8, .int (Int64.toInt32 (f4 f (i18_5 + 2)))), (0, .ref m0), (2, .int x2), (3, .int x3), (4, .int (f2 f x1)), (5, .int i18_5), (6, .int i18_6), (7, .int i18_7)], [], M_18)) rfl rfl rfl ?_
        refine ml_blk 3 (S' := (40, [(8, .int (Int64.toInt32 (f4 f (i18_5 + 2)))), (0, .ref m0), (2, .int x2), (3, .int x3), (4, .int (f2 f x1)), (5, .int i18_5), (6, .int i18_6), (7, .int i18_7)], [.int i18_5, .ref m0, .ref m0], M_18)) rfl ?_
        refine ml_call (a := [.ref m0, .int i18_5]) (rest := [.ref m0]) rfl (hR_18.okc rfl rfl rfl) rfl rfl (rm_u2 hR_18 hF14 (g0) (by omega) (by omega)) (fun v18 M19 h20 => ?_)
        obtain ⟨rfl, h20⟩ := h20
        rw [h20]
        show ml _ _ _ (43, [(8, .int (Int64.toInt32 (f4 f (i18_5 + 2)))), (0, .ref m0), (2, .int x2), (3, .int x3), (4, .int (f2 f x1)), (5, .int i18_5), (6, .int i18_6), (7, .int i18_7)], [.int (f2 f i18_5), .ref m0], M_18) _
        have hP21 : PK n f S cp mj pa py I_18 R_18 := (hP.mono (cIx hI_18 (by decide)) (cRx hV_18 (by decide)))
        refine ml_call (a := [.ref m0, .int (f2 f i18_5)]) (rest := []) rfl (hR_18.okc rfl rfl rfl) rfl rfl (rm_tag hR_18 hF14 hP21 (by omega)) (fun v22 M23 h24 => ?_)
        obtain ⟨rfl, h24⟩ := h24
        rw [h24]
        show ml _ _ _ (46, [(8, .int (Int64.toInt32 (f4 f (i18_5 + 2)))), (0, .ref m0), (2, .int x2), (3, .int x3), (4, .int (f2 f x1)), (5, .int i18_5), (6, .int i18_6), (7, .int i18_7)], [.int (tgf f cp pa (f2 f i18_5))], M_18) _
        refine ml_st (S' := (47, [(8, .int (Int64.toInt32 (f4 f (i18_5 + 2)))), (0, .ref m0), (2, .int x2), (3, .int x3), (4, .int (f2 f x1)), (5, .int i18_5), (6, .int i18_6), (7, .int i18_7)], [.int 1, .int (tgf f cp pa (f2 f i18_5))], M_18)) rfl rfl rfl ?_
        refine ml_if2 (S1 := (61, [(8, .int (Int64.toInt32 (f4 f (i18_5 + 2)))), (0, .ref m0), (2, .int x2), (3, .int x3), (4, .int (f2 f x1)), (5, .int i18_5), (6, .int i18_6), (7, .int i18_7)], [], M_18)) (S2 := (50, [(8, .int (Int64.toInt32 (f4 f (i18_5 + 2)))), (0, .ref m0), (2, .int x2), (3, .int x3), (4, .int (f2 f x1)), (5, .int i18_5), (6, .int i18_6), (7, .int i18_7)], [], M_18)) rfl rfl rfl (fun c_47 => ?_) (fun c_47 => ?_)
        · have c_47 : (tgf f cp pa (f2 f i18_5)) = 1 := of_decide_eq_true c_47
          refine ml_blk 3 (S' := (65, [(8, .int (Int64.toInt32 (f4 f (i18_5 + 2)))), (0, .ref m0), (2, .int x2), (3, .int x3), (4, .int (f2 f x1)), (5, .int i18_5), (6, .int i18_6), (7, .int i18_7)], [.int i18_5, .ref m0, .ref m0], M_18)) rfl ?_
          refine ml_call (a := [.ref m0, .int i18_5]) (rest := [.ref m0]) rfl (hR_18.okc rfl rfl rfl) rfl rfl (rm_u2 hR_18 hF14 (g0) (by omega) (by omega)) (fun v25 M26 h27 => ?_)
          obtain ⟨rfl, h27⟩ := h27
          rw [h27]
          show ml _ _ _ (68, [(8, .int (Int64.toInt32 (f4 f (i18_5 + 2)))), (0, .ref m0), (2, .int x2), (3, .int x3), (4, .int (f2 f x1)), (5, .int i18_5), (6, .int i18_6), (7, .int i18_7)], [.int (f2 f i18_5), .ref m0], M_18) _
          refine ml_call (a := [.ref m0, .int (f2 f i18_5)]) (rest := []) rfl (hR_18.okc rfl rfl rfl) rfl rfl (rm_symOf hR_18 hP21 (c_47) (by omega)) (fun v28 M29 h30 => ?_)
          obtain ⟨rfl, h30⟩ := h30
          rw [h30]
          show ml _ _ _ (71, [(8, .int (Int64.toInt32 (f4 f (i18_5 + 2)))), (0, .ref m0), (2, .int x2), (3, .int x3), (4, .int (f2 f x1)), (5, .int i18_5), (6, .int i18_6), (7, .int i18_7)], [.int (pyf py (f2 f i18_5))], M_18) _
          refine ml_st (S' := (73, [(9, .int (pyf py (f2 f i18_5))), (8, .int (Int64.toInt32 (f4 f (i18_5 + 2)))), (0, .ref m0), (2, .int x2), (3, .int x3), (4, .int (f2 f x1)), (5, .int i18_5), (6, .int i18_6), (7, .int i18_7)], [], M_18)) rfl rfl rfl ?_
          have hy9 := hP.y (show tgf f cp pa (f2 f i18_5) = 1 from c_47)
          refine ml_st (S' := (74, [(9, .int (pyf py (f2 f i18_5))), (8, .int (Int64.toInt32 (f4 f (i18_5 + 2)))), (0, .ref m0), (2, .int x2), (3, .int x3), (4, .int (f2 f x1)), (5, .int i18_5), (6, .int i18_6), (7, .int i18_7)], [.int (-1)], M_18)) rfl rfl rfl ?_
          refine ml_st (S' := (76, [(10, .int (-1)), (9, .int (pyf py (f2 f i18_5))), (8, .int (Int64.toInt32 (f4 f (i18_5 + 2)))), (0, .ref m0), (2, .int x2), (3, .int x3), (4, .int (f2 f x1)), (5, .int i18_5), (6, .int i18_6), (7, .int i18_7)], [], M_18)) rfl rfl rfl ?_
          refine ml_st (S' := (77, [(10, .int (-1)), (9, .int (pyf py (f2 f i18_5))), (8, .int (Int64.toInt32 (f4 f (i18_5 + 2)))), (0, .ref m0), (2, .int x2), (3, .int x3), (4, .int (f2 f x1)), (5, .int i18_5), (6, .int i18_6), (7, .int i18_7)], [.int 0], M_18)) rfl rfl rfl ?_
          refine ml_st (S' := (79, [(0, .ref m0), (2, .int x2), (3, .int x3), (4, .int (f2 f x1)), (5, .int i18_5), (6, .int i18_6), (7, .int i18_7), (8, .int (Int64.toInt32 (f4 f (i18_5 + 2)))), (9, .int (pyf py (f2 f i18_5))), (10, .int (-1)), (11, .int 0)], [], M_18)) rfl rfl rfl ?_
          have L_79 : ∀ (n_79 : Nat) (i79_10 : Int32) (i79_11 : Int32), (2147483648 - i79_11.toInt).toNat ≤ n_79 → (0 ≤ i79_11.toInt ∧ (i79_10 < 0 ∨ (0 ≤ i79_10.toInt ∧ i79_10.toInt < 10 ∧ kin i79_10 = x2))) → ml (mT g) d (mb_187 g).2 (79, [(0, .ref m0), (2, .int x2), (3, .int x3), (4, .int (f2 f x1)), (5, .int i18_5), (6, .int i18_6), (7, .int i18_7), (8, .int (Int64.toInt32 (f4 f (i18_5 + 2)))), (9, .int (pyf py (f2 f i18_5))), (10, .int i79_10), (11, .int i79_11)], [], M_18) (fun v M' => ∃ (x : Int32) (I' : rI) (R' : rR), v = some (.int x) ∧ RS g m0 q z I' R' M' ∧ eqI [47, 48, 65, 66, 67, 68, 69, 70, 71, 72] I I' ∧ eqR [] R R' ∧ (x.toInt < 0 ∨ x = e) ∧ NW f n I') := by
            intro n_79
            induction n_79 with
            | zero => intro i79_10 i79_11 hn; exact (loop_zero hn).elim
            | succ n_79 ih_79 =>
              intro i79_10 i79_11 hn_79 hi_79
              obtain ⟨hj0, hjw⟩ := hi_79
              refine ml_blk 2 (S' := (82, [(0, .ref m0), (2, .int x2), (3, .int x3), (4, .int (f2 f x1)), (5, .int i18_5), (6, .int i18_6), (7, .int i18_7), (8, .int (Int64.toInt32 (f4 f (i18_5 + 2)))), (9, .int (pyf py (f2 f i18_5))), (10, .int i79_10), (11, .int i79_11)], [.ref m0, .int i79_11], M_18)) rfl ?_
              refine rg_ref (S' := (85, [(0, .ref m0), (2, .int x2), (3, .int x3), (4, .int (f2 f x1)), (5, .int i18_5), (6, .int i18_6), (7, .int i18_7), (8, .int (Int64.toInt32 (f4 f (i18_5 + 2)))), (9, .int (pyf py (f2 f i18_5))), (10, .int i79_10), (11, .int i79_11)], [.ref (q 62), .int i79_11], M_18)) rfl hR_18 rfl rfl ?_
              refine rl_kn (S' := (86, [(0, .ref m0), (2, .int x2), (3, .int x3), (4, .int (f2 f x1)), (5, .int i18_5), (6, .int i18_6), (7, .int i18_7), (8, .int (Int64.toInt32 (f4 f (i18_5 + 2)))), (9, .int (pyf py (f2 f i18_5))), (10, .int i79_10), (11, .int i79_11)], [.int (nI 10), .int i79_11], M_18)) rfl hR_18 rfl ?_
              refine ml_if2 (S1 := (140, [(0, .ref m0), (2, .int x2), (3, .int x3), (4, .int (f2 f x1)), (5, .int i18_5), (6, .int i18_6), (7, .int i18_7), (8, .int (Int64.toInt32 (f4 f (i18_5 + 2)))), (9, .int (pyf py (f2 f i18_5))), (10, .int i79_10), (11, .int i79_11)], [], M_18)) (S2 := (89, [(0, .ref m0), (2, .int x2), (3, .int x3), (4, .int (f2 f x1)), (5, .int i18_5), (6, .int i18_6), (7, .int i18_7), (8, .int (Int64.toInt32 (f4 f (i18_5 + 2)))), (9, .int (pyf py (f2 f i18_5))), (10, .int i79_10), (11, .int i79_11)], [], M_18)) rfl rfl rfl (fun c_86 => ?_) (fun c_86 => ?_)
              · have c_86 : (nI 10) ≤ i79_11 := of_decide_eq_true c_86
                refine ml_st (S' := (142, [(0, .ref m0), (2, .int x2), (3, .int x3), (4, .int (f2 f x1)), (5, .int i18_5), (6, .int i18_6), (7, .int i18_7), (8, .int (Int64.toInt32 (f4 f (i18_5 + 2)))), (9, .int (pyf py (f2 f i18_5))), (10, .int i79_10), (11, .int i79_11)], [.int i79_10], M_18)) rfl rfl rfl ?_
                refine ml_if (S1 := (268, [(0, .ref m0), (2, .int x2), (3, .int x3), (4, .int (f2 f x1)), (5, .int i18_5), (6, .int i18_6), (7, .int i18_7), (8, .int (Int64.toInt32 (f4 f (i18_5 + 2))))], [], M_18)) (S2 := (145, [(0, .ref m0), (2, .int x2), (3, .int x3), (4, .int (f2 f x1)), (5, .int i18_5), (6, .int i18_6), (7, .int i18_7), (8, .int (Int64.toInt32 (f4 f (i18_5 + 2)))), (9, .int (pyf py (f2 f i18_5))), (10, .int i79_10), (11, .int i79_11)], [], M_18)) rfl rfl rfl (fun c_142 => ?_) (fun c_142 => ?_)
                · have c_142 : i79_10 < 0 := of_decide_eq_true c_142
                  refine ml_blk 3 (S' := (274, [(0, .ref m0), (2, .int x2), (3, .int x3), (4, .int (f2 f x1)), (5, .int i18_5), (6, .int i18_6), (7, .int i18_7), (8, .int (Int64.toInt32 (f4 f (i18_5 + 2))))], [.int (Int64.toInt32 (f4 f (i18_5 + 2))), .int 6, .int i18_5], M_18)) rfl ?_
                  refine ml_blk 2 (S' := (276, [(0, .ref m0), (2, .int x2), (3, .int x3), (4, .int (f2 f x1)), (5, .int i18_5), (6, .int i18_6), (7, .int i18_7), (8, .int (Int64.toInt32 (f4 f (i18_5 + 2))))], [.int (i18_5 + (6 + (Int64.toInt32 (f4 f (i18_5 + 2)))))], M_18)) rfl ?_
                  refine ml_st (S' := (278, [(5, .int (i18_5 + (6 + (Int64.toInt32 (f4 f (i18_5 + 2)))))), (0, .ref m0), (2, .int x2), (3, .int x3), (4, .int (f2 f x1)), (6, .int i18_6), (7, .int i18_7), (8, .int (Int64.toInt32 (f4 f (i18_5 + 2))))], [], M_18)) rfl rfl rfl ?_
                  refine ml_st (S' := (281, [(7, .int (i18_7 + 1)), (5, .int (i18_5 + (6 + (Int64.toInt32 (f4 f (i18_5 + 2)))))), (0, .ref m0), (2, .int x2), (3, .int x3), (4, .int (f2 f x1)), (6, .int i18_6), (8, .int (Int64.toInt32 (f4 f (i18_5 + 2))))], [], M_18)) rfl rfl rfl ?_
                  refine ml_st (S' := (18, [(0, .ref m0), (2, .int x2), (3, .int x3), (4, .int (f2 f x1)), (5, .int (i18_5 + (6 + (Int64.toInt32 (f4 f (i18_5 + 2)))))), (6, .int i18_6), (7, .int (i18_7 + 1))], [], M_18)) rfl rfl rfl ?_
                  exact ih_18 (i18_5 + (6 + (Int64.toInt32 (f4 f (i18_5 + 2))))) i18_6 (i18_7 + 1) _ _ _ (loop_inc (Int32.not_le.mp c_22) hn_18) hR_18 (eqI.rf.tr hI_18 (by decide)) (eqR.rf.tr hV_18 (by decide)) (⟨by rw [inc_lt (Int32.not_le.mp c_22)]; omega, by rw [inc_lt (Int32.not_le.mp c_22)]; have := i_nle c_22; omega, hb1.eq hra ▸ hnx, hnw18⟩)
                · have c_142 : ¬ (i79_10 < 0) := of_decide_eq_false c_142
                  have hwn := hjw.resolve_left c_142
                  refine ml_blk 2 (S' := (147, [(0, .ref m0), (2, .int x2), (3, .int x3), (4, .int (f2 f x1)), (5, .int i18_5), (6, .int i18_6), (7, .int i18_7), (8, .int (Int64.toInt32 (f4 f (i18_5 + 2)))), (9, .int (pyf py (f2 f i18_5))), (10, .int i79_10), (11, .int i79_11)], [.int 1, .int x2], M_18)) rfl ?_
                  refine ml_if2 (S1 := (160, [(0, .ref m0), (2, .int x2), (3, .int x3), (4, .int (f2 f x1)), (5, .int i18_5), (6, .int i18_6), (7, .int i18_7), (8, .int (Int64.toInt32 (f4 f (i18_5 + 2)))), (10, .int i79_10)], [], M_18)) (S2 := (150, [(0, .ref m0), (2, .int x2), (3, .int x3), (4, .int (f2 f x1)), (5, .int i18_5), (6, .int i18_6), (7, .int i18_7), (8, .int (Int64.toInt32 (f4 f (i18_5 + 2)))), (9, .int (pyf py (f2 f i18_5))), (10, .int i79_10), (11, .int i79_11)], [], M_18)) rfl rfl rfl (fun c_147 => ?_) (fun c_147 => ?_)
                  rotate_left
                  · exact absurd ((by rw [hw]; decide : ¬ x2 = 1)) (of_decide_eq_false c_147)
                  refine ml_blk 2 (S' := (162, [(0, .ref m0), (2, .int x2), (3, .int x3), (4, .int (f2 f x1)), (5, .int i18_5), (6, .int i18_6), (7, .int i18_7), (8, .int (Int64.toInt32 (f4 f (i18_5 + 2)))), (10, .int i79_10)], [.int 2, .int x2], M_18)) rfl ?_
                  refine ml_if2 (S1 := (175, [(0, .ref m0), (2, .int x2), (3, .int x3), (4, .int (f2 f x1)), (5, .int i18_5), (6, .int i18_6), (7, .int i18_7), (8, .int (Int64.toInt32 (f4 f (i18_5 + 2)))), (10, .int i79_10)], [], M_18)) (S2 := (165, [(0, .ref m0), (2, .int x2), (3, .int x3), (4, .int (f2 f x1)), (5, .int i18_5), (6, .int i18_6), (7, .int i18_7), (8, .int (Int64.toInt32 (f4 f (i18_5 + 2)))), (10, .int i79_10)], [], M_18)) rfl rfl rfl (fun c_162 => ?_) (fun c_162 => ?_)
                  rotate_left
                  · exact absurd ((by rw [hw]; decide : ¬ x2 = 2)) (of_decide_eq_false c_162)
                  refine ml_blk 2 (S' := (177, [(0, .ref m0), (2, .int x2), (3, .int x3), (4, .int (f2 f x1)), (5, .int i18_5), (6, .int i18_6), (7, .int i18_7), (8, .int (Int64.toInt32 (f4 f (i18_5 + 2)))), (10, .int i79_10)], [.int 4, .int x2], M_18)) rfl ?_
                  refine ml_if2 (S1 := (190, [(0, .ref m0), (2, .int x2), (3, .int x3), (4, .int (f2 f x1)), (5, .int i18_5), (6, .int i18_6), (7, .int i18_7), (8, .int (Int64.toInt32 (f4 f (i18_5 + 2)))), (10, .int i79_10)], [], M_18)) (S2 := (180, [(0, .ref m0), (2, .int x2), (3, .int x3), (4, .int (f2 f x1)), (5, .int i18_5), (6, .int i18_6), (7, .int i18_7), (8, .int (Int64.toInt32 (f4 f (i18_5 + 2)))), (10, .int i79_10)], [], M_18)) rfl rfl rfl (fun c_177 => ?_) (fun c_177 => ?_)
                  · exact absurd (of_decide_eq_true c_177) ((fun h => h hw))
                  obtain ⟨v66, hv66⟩ := hnw18.1 66 (by decide)
                  refine ml_blk 2 (S' := (182, [(0, .ref m0), (2, .int x2), (3, .int x3), (4, .int (f2 f x1)), (5, .int i18_5), (6, .int i18_6), (7, .int i18_7), (8, .int (Int64.toInt32 (f4 f (i18_5 + 2)))), (10, .int i79_10)], [.ref m0, .ref m0], M_18)) rfl ?_
                  refine rg_int (S' := (185, [(0, .ref m0), (2, .int x2), (3, .int x3), (4, .int (f2 f x1)), (5, .int i18_5), (6, .int i18_6), (7, .int i18_7), (8, .int (Int64.toInt32 (f4 f (i18_5 + 2)))), (10, .int i79_10)], [.int v66, .ref m0], M_18)) rfl hR_18 rfl (hv66) rfl ?_
                  refine ml_blk 2 (S' := (187, [(0, .ref m0), (2, .int x2), (3, .int x3), (4, .int (f2 f x1)), (5, .int i18_5), (6, .int i18_6), (7, .int i18_7), (8, .int (Int64.toInt32 (f4 f (i18_5 + 2)))), (10, .int i79_10)], [.int (v66 + 1), .ref m0], M_18)) rfl ?_
                  refine rp_int rfl hR_18 rfl (fun M31 I32 hR33 e34 f35 => ?_)
                  show ml _ _ _ (190, [(0, .ref m0), (2, .int x2), (3, .int x3), (4, .int (f2 f x1)), (5, .int i18_5), (6, .int i18_6), (7, .int i18_7), (8, .int (Int64.toInt32 (f4 f (i18_5 + 2)))), (10, .int i79_10)], [], M31) _
                  refine ml_blk 3 (S' := (195, [(0, .ref m0), (2, .int x2), (3, .int x3), (4, .int (f2 f x1)), (5, .int i18_5), (6, .int i18_6), (7, .int i18_7), (8, .int (Int64.toInt32 (f4 f (i18_5 + 2)))), (10, .int i79_10)], [.int (i18_6 >>> (i79_10 &&& 31))], M31)) rfl ?_
                  refine ml_blk 3 (S' := (198, [(0, .ref m0), (2, .int x2), (3, .int x3), (4, .int (f2 f x1)), (5, .int i18_5), (6, .int i18_6), (7, .int i18_7), (8, .int (Int64.toInt32 (f4 f (i18_5 + 2)))), (10, .int i79_10)], [.int 1, .int ((i18_6 >>> (i79_10 &&& 31)) &&& 1)], M31)) rfl ?_
                  refine ml_if2 (S1 := (212, [(0, .ref m0), (2, .int x2), (3, .int x3), (4, .int (f2 f x1)), (5, .int i18_5), (6, .int i18_6), (7, .int i18_7), (8, .int (Int64.toInt32 (f4 f (i18_5 + 2)))), (10, .int i79_10)], [], M31)) (S2 := (201, [(0, .ref m0), (2, .int x2), (3, .int x3), (4, .int (f2 f x1)), (5, .int i18_5), (6, .int i18_6), (7, .int i18_7), (8, .int (Int64.toInt32 (f4 f (i18_5 + 2)))), (10, .int i79_10)], [], M31)) rfl rfl rfl (fun c_198 => ?_) (fun c_198 => ?_)
                  · have c_198 : ¬ ((i18_6 >>> (i79_10 &&& 31)) &&& 1) = 1 := of_decide_eq_true c_198
                    refine ml_blk 3 (S' := (217, [(0, .ref m0), (2, .int x2), (3, .int x3), (4, .int (f2 f x1)), (5, .int i18_5), (6, .int i18_6), (7, .int i18_7), (8, .int (Int64.toInt32 (f4 f (i18_5 + 2)))), (10, .int i79_10)], [.int i18_5, .int i79_10, .ref m0], M31)) rfl ?_
                    refine ml_blk 3 (S' := (222, [(0, .ref m0), (2, .int x2), (3, .int x3), (4, .int (f2 f x1)), (5, .int i18_5), (6, .int i18_6), (7, .int i18_7), (8, .int (Int64.toInt32 (f4 f (i18_5 + 2)))), (10, .int i79_10)], [.int (i18_5 + 6), .int i18_5, .int i79_10, .ref m0], M31)) rfl ?_
                    refine ml_blk 3 (S' := (227, [(0, .ref m0), (2, .int x2), (3, .int x3), (4, .int (f2 f x1)), (5, .int i18_5), (6, .int i18_6), (7, .int i18_7), (8, .int (Int64.toInt32 (f4 f (i18_5 + 2)))), (10, .int i79_10)], [.int (i18_5 + 6), .int (i18_5 + 6), .int i18_5, .int i79_10, .ref m0], M31)) rfl ?_
                    refine ml_blk 3 (S' := (231, [(0, .ref m0), (2, .int x2), (3, .int x3), (4, .int (f2 f x1)), (5, .int i18_5), (6, .int i18_6), (7, .int i18_7), (8, .int (Int64.toInt32 (f4 f (i18_5 + 2)))), (10, .int i79_10)], [.int x3, .int ((i18_5 + 6) + (Int64.toInt32 (f4 f (i18_5 + 2)))), .int (i18_5 + 6), .int i18_5, .int i79_10, .ref m0], M31)) rfl ?_
                    refine ml_st (S' := (233, [(0, .ref m0), (2, .int x2), (3, .int x3), (4, .int (f2 f x1)), (5, .int i18_5), (6, .int i18_6), (7, .int i18_7), (8, .int (Int64.toInt32 (f4 f (i18_5 + 2)))), (10, .int i79_10)], [.int i18_6, .int x3, .int ((i18_5 + 6) + (Int64.toInt32 (f4 f (i18_5 + 2)))), .int (i18_5 + 6), .int i18_5, .int i79_10, .ref m0], M31)) rfl rfl rfl ?_
                    have hF36 : FK n f I32 R_18 := (hF14.mono (pIx f35 (by decide)) (fun _ _ => rfl))
                    have hY37 : SK S cN sa sl ch I32 R_18 := ((hY.mono (cIx hI_18 (by decide)) (cRx hV_18 (by decide))).mono (pIx f35 (by decide)) (fun _ _ => rfl))
                    have hP38 : PK n f S cp mj pa py I32 R_18 := (hP21.mono (pIx f35 (by decide)) (fun _ _ => rfl))
                    refine ml_call (a := [.ref m0, .int i79_10, .int i18_5, .int (i18_5 + 6), .int ((i18_5 + 6) + (Int64.toInt32 (f4 f (i18_5 + 2)))), .int x3, .int i18_6]) (rest := []) rfl (hR33.okc rfl rfl rfl) rfl rfl (rm_attr4 hR33 ((f35 58 (by decide)).trans ((hI_18 58 (by decide)).trans (hk58))) hF36 hY37 hP38 (kin_4 hwn.1 hwn.2.1 (hwn.2.2.trans hw)) (by omega) (by rw [hle]; omega) (by rw [hle]; omega) ((hnw18.put (by decide) e34 f35)) (by omega)) (fun v39 M40 h41 => ?_)
                    obtain ⟨u47, I42, R43, rfl, hR44, hI45, hV46, w48⟩ := h41
                    show ml _ _ _ (236, [(0, .ref m0), (2, .int x2), (3, .int x3), (4, .int (f2 f x1)), (5, .int i18_5), (6, .int i18_6), (7, .int i18_7), (8, .int (Int64.toInt32 (f4 f (i18_5 + 2)))), (10, .int i79_10)], [.int u47], M40) _
                    refine ml_st (S' := (238, [(11, .int u47), (0, .ref m0), (2, .int x2), (3, .int x3), (4, .int (f2 f x1)), (5, .int i18_5), (6, .int i18_6), (7, .int i18_7), (8, .int (Int64.toInt32 (f4 f (i18_5 + 2)))), (10, .int i79_10)], [], M40)) rfl rfl rfl ?_
                    refine ml_blk 3 (S' := (243, [(11, .int u47), (0, .ref m0), (2, .int x2), (3, .int x3), (4, .int (f2 f x1)), (5, .int i18_5), (6, .int i18_6), (7, .int i18_7), (8, .int (Int64.toInt32 (f4 f (i18_5 + 2)))), (10, .int i79_10)], [.int i79_10, .int 1, .int i18_6], M40)) rfl ?_
                    refine ml_blk 2 (S' := (245, [(11, .int u47), (0, .ref m0), (2, .int x2), (3, .int x3), (4, .int (f2 f x1)), (5, .int i18_5), (6, .int i18_6), (7, .int i18_7), (8, .int (Int64.toInt32 (f4 f (i18_5 + 2)))), (10, .int i79_10)], [.int (i18_6 ||| (1 <<< (i79_10 &&& 31)))], M40)) rfl ?_
                    refine ml_st (S' := (247, [(6, .int (i18_6 ||| (1 <<< (i79_10 &&& 31)))), (11, .int u47), (0, .ref m0), (2, .int x2), (3, .int x3), (4, .int (f2 f x1)), (5, .int i18_5), (7, .int i18_7), (8, .int (Int64.toInt32 (f4 f (i18_5 + 2)))), (10, .int i79_10)], [], M40)) rfl rfl rfl ?_
                    refine ml_st (S' := (249, [(6, .int (i18_6 ||| (1 <<< (i79_10 &&& 31)))), (11, .int u47), (0, .ref m0), (2, .int x2), (3, .int x3), (4, .int (f2 f x1)), (5, .int i18_5), (7, .int i18_7), (8, .int (Int64.toInt32 (f4 f (i18_5 + 2)))), (10, .int i79_10)], [.int u47], M40)) rfl rfl rfl ?_
                    refine ml_if (S1 := (261, [(0, .ref m0), (2, .int x2), (3, .int x3), (4, .int (f2 f x1)), (5, .int i18_5), (6, .int (i18_6 ||| (1 <<< (i79_10 &&& 31)))), (7, .int i18_7), (8, .int (Int64.toInt32 (f4 f (i18_5 + 2)))), (11, .int u47)], [], M40)) (S2 := (252, [(6, .int (i18_6 ||| (1 <<< (i79_10 &&& 31)))), (11, .int u47), (0, .ref m0), (2, .int x2), (3, .int x3), (4, .int (f2 f x1)), (5, .int i18_5), (7, .int i18_7), (8, .int (Int64.toInt32 (f4 f (i18_5 + 2)))), (10, .int i79_10)], [], M40)) rfl rfl rfl (fun c_249 => ?_) (fun c_249 => ?_)
                    · have c_249 : u47 ≤ 0 := of_decide_eq_true c_249
                      refine ml_st (S' := (263, [(0, .ref m0), (2, .int x2), (3, .int x3), (4, .int (f2 f x1)), (5, .int i18_5), (6, .int (i18_6 ||| (1 <<< (i79_10 &&& 31)))), (7, .int i18_7), (8, .int (Int64.toInt32 (f4 f (i18_5 + 2)))), (11, .int u47)], [.int u47], M40)) rfl rfl rfl ?_
                      refine ml_if (S1 := (268, [(0, .ref m0), (2, .int x2), (3, .int x3), (4, .int (f2 f x1)), (5, .int i18_5), (6, .int (i18_6 ||| (1 <<< (i79_10 &&& 31)))), (7, .int i18_7), (8, .int (Int64.toInt32 (f4 f (i18_5 + 2))))], [], M40)) (S2 := (266, [(0, .ref m0), (2, .int x2), (3, .int x3), (4, .int (f2 f x1)), (5, .int i18_5), (6, .int (i18_6 ||| (1 <<< (i79_10 &&& 31)))), (7, .int i18_7), (8, .int (Int64.toInt32 (f4 f (i18_5 + 2)))), (11, .int u47)], [], M40)) rfl rfl rfl (fun c_263 => ?_) (fun c_263 => ?_)
                      · have c_263 : u47 = 0 := of_decide_eq_true c_263
                        refine ml_blk 3 (S' := (274, [(0, .ref m0), (2, .int x2), (3, .int x3), (4, .int (f2 f x1)), (5, .int i18_5), (6, .int (i18_6 ||| (1 <<< (i79_10 &&& 31)))), (7, .int i18_7), (8, .int (Int64.toInt32 (f4 f (i18_5 + 2))))], [.int (Int64.toInt32 (f4 f (i18_5 + 2))), .int 6, .int i18_5], M40)) rfl ?_
                        refine ml_blk 2 (S' := (276, [(0, .ref m0), (2, .int x2), (3, .int x3), (4, .int (f2 f x1)), (5, .int i18_5), (6, .int (i18_6 ||| (1 <<< (i79_10 &&& 31)))), (7, .int i18_7), (8, .int (Int64.toInt32 (f4 f (i18_5 + 2))))], [.int (i18_5 + (6 + (Int64.toInt32 (f4 f (i18_5 + 2)))))], M40)) rfl ?_
                        refine ml_st (S' := (278, [(5, .int (i18_5 + (6 + (Int64.toInt32 (f4 f (i18_5 + 2)))))), (0, .ref m0), (2, .int x2), (3, .int x3), (4, .int (f2 f x1)), (6, .int (i18_6 ||| (1 <<< (i79_10 &&& 31)))), (7, .int i18_7), (8, .int (Int64.toInt32 (f4 f (i18_5 + 2))))], [], M40)) rfl rfl rfl ?_
                        refine ml_st (S' := (281, [(7, .int (i18_7 + 1)), (5, .int (i18_5 + (6 + (Int64.toInt32 (f4 f (i18_5 + 2)))))), (0, .ref m0), (2, .int x2), (3, .int x3), (4, .int (f2 f x1)), (6, .int (i18_6 ||| (1 <<< (i79_10 &&& 31)))), (8, .int (Int64.toInt32 (f4 f (i18_5 + 2))))], [], M40)) rfl rfl rfl ?_
                        refine ml_st (S' := (18, [(0, .ref m0), (2, .int x2), (3, .int x3), (4, .int (f2 f x1)), (5, .int (i18_5 + (6 + (Int64.toInt32 (f4 f (i18_5 + 2)))))), (6, .int (i18_6 ||| (1 <<< (i79_10 &&& 31)))), (7, .int (i18_7 + 1))], [], M40)) rfl rfl rfl ?_
                        exact ih_18 (i18_5 + (6 + (Int64.toInt32 (f4 f (i18_5 + 2))))) (i18_6 ||| (1 <<< (i79_10 &&& 31))) (i18_7 + 1) _ _ _ (loop_inc (Int32.not_le.mp c_22) hn_18) hR44 (((eqI.rf.tr hI_18 (by decide)).put f35 (by decide)).tr hI45 (by decide)) ((eqR.rf.tr hV_18 (by decide)).tr hV46 (by decide)) (⟨by rw [inc_lt (Int32.not_le.mp c_22)]; omega, by rw [inc_lt (Int32.not_le.mp c_22)]; have := i_nle c_22; omega, hb1.eq hra ▸ hnx, w48⟩)
                      · have c_263 : ¬ (u47 = 0) := of_decide_eq_false c_263
                        refine ml_st (S' := (267, [(0, .ref m0), (2, .int x2), (3, .int x3), (4, .int (f2 f x1)), (5, .int i18_5), (6, .int (i18_6 ||| (1 <<< (i79_10 &&& 31)))), (7, .int i18_7), (8, .int (Int64.toInt32 (f4 f (i18_5 + 2)))), (11, .int u47)], [.int (-1)], M40)) rfl rfl rfl ?_
                        exact ml_ret rfl (rfl) (⟨_, _, _, rfl, hR44, (((eqI.rf.tr hI_18 (by decide)).put f35 (by decide)).tr hI45 (by decide)), ((eqR.rf.tr hV_18 (by decide)).tr hV46 (by decide)), ⟨Or.inl (by decide), w48⟩⟩)
                    · have c_249 : ¬ (u47 ≤ 0) := of_decide_eq_false c_249
                      refine ml_blk 3 (S' := (257, [(6, .int (i18_6 ||| (1 <<< (i79_10 &&& 31)))), (11, .int u47), (0, .ref m0), (2, .int x2), (3, .int x3), (4, .int (f2 f x1)), (5, .int i18_5), (7, .int i18_7), (8, .int (Int64.toInt32 (f4 f (i18_5 + 2)))), (10, .int i79_10)], [.int i18_5, .int u47, .ref m0], M40)) rfl ?_
                      refine ml_call (a := [.ref m0, .int u47, .int i18_5]) (rest := []) rfl (hR44.okc rfl rfl rfl) rfl rfl (rm_wrong hR44 (by omega)) (fun v49 M50 h51 => ?_)
                      obtain ⟨u57, I52, R53, rfl, hR54, hI55, hV56, z58, w59⟩ := h51
                      show ml _ _ _ (260, [(6, .int (i18_6 ||| (1 <<< (i79_10 &&& 31)))), (11, .int u47), (0, .ref m0), (2, .int x2), (3, .int x3), (4, .int (f2 f x1)), (5, .int i18_5), (7, .int i18_7), (8, .int (Int64.toInt32 (f4 f (i18_5 + 2)))), (10, .int i79_10)], [.int u57], M50) _
                      refine ml_st (S' := (261, [(0, .ref m0), (2, .int x2), (3, .int x3), (4, .int (f2 f x1)), (5, .int i18_5), (6, .int (i18_6 ||| (1 <<< (i79_10 &&& 31)))), (7, .int i18_7), (8, .int (Int64.toInt32 (f4 f (i18_5 + 2)))), (11, .int u47)], [], M50)) rfl rfl rfl ?_
                      refine ml_st (S' := (263, [(0, .ref m0), (2, .int x2), (3, .int x3), (4, .int (f2 f x1)), (5, .int i18_5), (6, .int (i18_6 ||| (1 <<< (i79_10 &&& 31)))), (7, .int i18_7), (8, .int (Int64.toInt32 (f4 f (i18_5 + 2)))), (11, .int u47)], [.int u47], M50)) rfl rfl rfl ?_
                      refine ml_if (S1 := (268, [(0, .ref m0), (2, .int x2), (3, .int x3), (4, .int (f2 f x1)), (5, .int i18_5), (6, .int (i18_6 ||| (1 <<< (i79_10 &&& 31)))), (7, .int i18_7), (8, .int (Int64.toInt32 (f4 f (i18_5 + 2))))], [], M50)) (S2 := (266, [(0, .ref m0), (2, .int x2), (3, .int x3), (4, .int (f2 f x1)), (5, .int i18_5), (6, .int (i18_6 ||| (1 <<< (i79_10 &&& 31)))), (7, .int i18_7), (8, .int (Int64.toInt32 (f4 f (i18_5 + 2)))), (11, .int u47)], [], M50)) rfl rfl rfl (fun c_263 => ?_) (fun c_263 => ?_)
                      · have c_263 : u47 = 0 := of_decide_eq_true c_263
                        refine ml_blk 3 (S' := (274, [(0, .ref m0), (2, .int x2), (3, .int x3), (4, .int (f2 f x1)), (5, .int i18_5), (6, .int (i18_6 ||| (1 <<< (i79_10 &&& 31)))), (7, .int i18_7), (8, .int (Int64.toInt32 (f4 f (i18_5 + 2))))], [.int (Int64.toInt32 (f4 f (i18_5 + 2))), .int 6, .int i18_5], M50)) rfl ?_
                        refine ml_blk 2 (S' := (276, [(0, .ref m0), (2, .int x2), (3, .int x3), (4, .int (f2 f x1)), (5, .int i18_5), (6, .int (i18_6 ||| (1 <<< (i79_10 &&& 31)))), (7, .int i18_7), (8, .int (Int64.toInt32 (f4 f (i18_5 + 2))))], [.int (i18_5 + (6 + (Int64.toInt32 (f4 f (i18_5 + 2)))))], M50)) rfl ?_
                        refine ml_st (S' := (278, [(5, .int (i18_5 + (6 + (Int64.toInt32 (f4 f (i18_5 + 2)))))), (0, .ref m0), (2, .int x2), (3, .int x3), (4, .int (f2 f x1)), (6, .int (i18_6 ||| (1 <<< (i79_10 &&& 31)))), (7, .int i18_7), (8, .int (Int64.toInt32 (f4 f (i18_5 + 2))))], [], M50)) rfl rfl rfl ?_
                        refine ml_st (S' := (281, [(7, .int (i18_7 + 1)), (5, .int (i18_5 + (6 + (Int64.toInt32 (f4 f (i18_5 + 2)))))), (0, .ref m0), (2, .int x2), (3, .int x3), (4, .int (f2 f x1)), (6, .int (i18_6 ||| (1 <<< (i79_10 &&& 31)))), (8, .int (Int64.toInt32 (f4 f (i18_5 + 2))))], [], M50)) rfl rfl rfl ?_
                        refine ml_st (S' := (18, [(0, .ref m0), (2, .int x2), (3, .int x3), (4, .int (f2 f x1)), (5, .int (i18_5 + (6 + (Int64.toInt32 (f4 f (i18_5 + 2)))))), (6, .int (i18_6 ||| (1 <<< (i79_10 &&& 31)))), (7, .int (i18_7 + 1))], [], M50)) rfl rfl rfl ?_
                        exact ih_18 (i18_5 + (6 + (Int64.toInt32 (f4 f (i18_5 + 2))))) (i18_6 ||| (1 <<< (i79_10 &&& 31))) (i18_7 + 1) _ _ _ (loop_inc (Int32.not_le.mp c_22) hn_18) hR54 ((((eqI.rf.tr hI_18 (by decide)).put f35 (by decide)).tr hI45 (by decide)).tr hI55 (by decide)) (((eqR.rf.tr hV_18 (by decide)).tr hV46 (by decide)).tr hV56 (by decide)) (⟨by rw [inc_lt (Int32.not_le.mp c_22)]; omega, by rw [inc_lt (Int32.not_le.mp c_22)]; have := i_nle c_22; omega, hb1.eq hra ▸ hnx, (w48.fr (cIx hI55 (by decide)))⟩)
                      · have c_263 : ¬ (u47 = 0) := of_decide_eq_false c_263
                        refine ml_st (S' := (267, [(0, .ref m0), (2, .int x2), (3, .int x3), (4, .int (f2 f x1)), (5, .int i18_5), (6, .int (i18_6 ||| (1 <<< (i79_10 &&& 31)))), (7, .int i18_7), (8, .int (Int64.toInt32 (f4 f (i18_5 + 2)))), (11, .int u47)], [.int (-1)], M50)) rfl rfl rfl ?_
                        exact ml_ret rfl (rfl) (⟨_, _, _, rfl, hR54, ((((eqI.rf.tr hI_18 (by decide)).put f35 (by decide)).tr hI45 (by decide)).tr hI55 (by decide)), (((eqR.rf.tr hV_18 (by decide)).tr hV46 (by decide)).tr hV56 (by decide)), ⟨Or.inl (by decide), (w48.fr (cIx hI55 (by decide)))⟩⟩)
                  · have c_198 : ¬ (¬ ((i18_6 >>> (i79_10 &&& 31)) &&& 1) = 1) := of_decide_eq_false c_198
                    refine ml_blk 3 (S' := (206, [(0, .ref m0), (2, .int x2), (3, .int x3), (4, .int (f2 f x1)), (5, .int i18_5), (6, .int i18_6), (7, .int i18_7), (8, .int (Int64.toInt32 (f4 f (i18_5 + 2)))), (10, .int i79_10)], [.int i18_5, .int 29, .ref m0], M31)) rfl ?_
                    refine ml_call (a := [.ref m0, .int 29, .int i18_5]) (rest := []) rfl (hR33.okc rfl rfl rfl) rfl rfl (rm_wrong hR33 (by omega)) (fun v60 M61 h62 => ?_)
                    obtain ⟨u68, I63, R64, rfl, hR65, hI66, hV67, z69, w70⟩ := h62
                    show ml _ _ _ (209, [(0, .ref m0), (2, .int x2), (3, .int x3), (4, .int (f2 f x1)), (5, .int i18_5), (6, .int i18_6), (7, .int i18_7), (8, .int (Int64.toInt32 (f4 f (i18_5 + 2)))), (10, .int i79_10)], [.int u68], M61) _
                    refine ml_blk 2 (S' := (211, [(0, .ref m0), (2, .int x2), (3, .int x3), (4, .int (f2 f x1)), (5, .int i18_5), (6, .int i18_6), (7, .int i18_7), (8, .int (Int64.toInt32 (f4 f (i18_5 + 2)))), (10, .int i79_10)], [.int (-1)], M61)) rfl ?_
                    exact ml_ret rfl (rfl) (⟨_, _, _, rfl, hR65, (((eqI.rf.tr hI_18 (by decide)).put f35 (by decide)).tr hI66 (by decide)), ((eqR.rf.tr hV_18 (by decide)).tr hV67 (by decide)), ⟨Or.inl (by decide), ((hnw18.put (by decide) e34 f35).fr (cIx hI66 (by decide)))⟩⟩)
              · have c_86 : ¬ ((nI 10) ≤ i79_11) := of_decide_eq_false c_86
                have hjl : i79_11.toInt < 10 := by have q := i_nle c_86; rw [nI_val (by decide)] at q; omega
                refine ml_st (S' := (90, [(0, .ref m0), (2, .int x2), (3, .int x3), (4, .int (f2 f x1)), (5, .int i18_5), (6, .int i18_6), (7, .int i18_7), (8, .int (Int64.toInt32 (f4 f (i18_5 + 2)))), (9, .int (pyf py (f2 f i18_5))), (10, .int i79_10), (11, .int i79_11)], [.ref m0], M_18)) rfl rfl rfl ?_
                refine rg_ref (S' := (93, [(0, .ref m0), (2, .int x2), (3, .int x3), (4, .int (f2 f x1)), (5, .int i18_5), (6, .int i18_6), (7, .int i18_7), (8, .int (Int64.toInt32 (f4 f (i18_5 + 2)))), (9, .int (pyf py (f2 f i18_5))), (10, .int i79_10), (11, .int i79_11)], [.ref (q 63)], M_18)) rfl hR_18 rfl rfl ?_
                refine ml_st (S' := (95, [(0, .ref m0), (2, .int x2), (3, .int x3), (4, .int (f2 f x1)), (5, .int i18_5), (6, .int i18_6), (7, .int i18_7), (8, .int (Int64.toInt32 (f4 f (i18_5 + 2)))), (9, .int (pyf py (f2 f i18_5))), (10, .int i79_10), (11, .int i79_11)], [.int i79_11, .ref (q 63)], M_18)) rfl rfl rfl ?_
                have hK71 : KW I_18 R_18 := (hK.mono (cIx hI_18 (by decide)) (cRx hV_18 (by decide)))
                refine ra_ld (k := 63) (S' := (96, [(0, .ref m0), (2, .int x2), (3, .int x3), (4, .int (f2 f x1)), (5, .int i18_5), (6, .int i18_6), (7, .int i18_7), (8, .int (Int64.toInt32 (f4 f (i18_5 + 2)))), (9, .int (pyf py (f2 f i18_5))), (10, .int i79_10), (11, .int i79_11)], [.int (kin i79_11)], M_18)) rfl hR_18 rfl (vin_lt hj0 (by omega)) (hK71.1 i79_11 hj0 hjl) rfl ?_
                refine ml_st (S' := (97, [(0, .ref m0), (2, .int x2), (3, .int x3), (4, .int (f2 f x1)), (5, .int i18_5), (6, .int i18_6), (7, .int i18_7), (8, .int (Int64.toInt32 (f4 f (i18_5 + 2)))), (9, .int (pyf py (f2 f i18_5))), (10, .int i79_10), (11, .int i79_11)], [.int x2, .int (kin i79_11)], M_18)) rfl rfl rfl ?_
                refine ml_if2 (S1 := (134, [(0, .ref m0), (2, .int x2), (3, .int x3), (4, .int (f2 f x1)), (5, .int i18_5), (6, .int i18_6), (7, .int i18_7), (8, .int (Int64.toInt32 (f4 f (i18_5 + 2)))), (9, .int (pyf py (f2 f i18_5))), (10, .int i79_10), (11, .int i79_11)], [], M_18)) (S2 := (100, [(0, .ref m0), (2, .int x2), (3, .int x3), (4, .int (f2 f x1)), (5, .int i18_5), (6, .int i18_6), (7, .int i18_7), (8, .int (Int64.toInt32 (f4 f (i18_5 + 2)))), (9, .int (pyf py (f2 f i18_5))), (10, .int i79_10), (11, .int i79_11)], [], M_18)) rfl rfl rfl (fun c_97 => ?_) (fun c_97 => ?_)
                · have c_97 : ¬ (kin i79_11) = x2 := of_decide_eq_true c_97
                  refine ml_st (S' := (137, [(11, .int (i79_11 + 1)), (0, .ref m0), (2, .int x2), (3, .int x3), (4, .int (f2 f x1)), (5, .int i18_5), (6, .int i18_6), (7, .int i18_7), (8, .int (Int64.toInt32 (f4 f (i18_5 + 2)))), (9, .int (pyf py (f2 f i18_5))), (10, .int i79_10)], [], M_18)) rfl rfl rfl ?_
                  refine ml_st (S' := (79, [(0, .ref m0), (2, .int x2), (3, .int x3), (4, .int (f2 f x1)), (5, .int i18_5), (6, .int i18_6), (7, .int i18_7), (8, .int (Int64.toInt32 (f4 f (i18_5 + 2)))), (9, .int (pyf py (f2 f i18_5))), (10, .int i79_10), (11, .int (i79_11 + 1))], [], M_18)) rfl rfl rfl ?_
                  exact ih_79 i79_10 (i79_11 + 1) (loop_inc (Int32.not_le.mp c_86) hn_79) (⟨by rw [inc_lt (Int32.not_le.mp c_86)]; omega, hjw⟩)
                · have c_97 : ¬ (¬ (kin i79_11) = x2) := of_decide_eq_false c_97
                  refine ml_st (S' := (101, [(0, .ref m0), (2, .int x2), (3, .int x3), (4, .int (f2 f x1)), (5, .int i18_5), (6, .int i18_6), (7, .int i18_7), (8, .int (Int64.toInt32 (f4 f (i18_5 + 2)))), (9, .int (pyf py (f2 f i18_5))), (10, .int i79_10), (11, .int i79_11)], [.ref m0], M_18)) rfl rfl rfl ?_
                  refine rg_int (S' := (104, [(0, .ref m0), (2, .int x2), (3, .int x3), (4, .int (f2 f x1)), (5, .int i18_5), (6, .int i18_6), (7, .int i18_7), (8, .int (Int64.toInt32 (f4 f (i18_5 + 2)))), (9, .int (pyf py (f2 f i18_5))), (10, .int i79_10), (11, .int i79_11)], [.int mj], M_18)) rfl hR_18 rfl ((hI_18 53 (by decide)).trans (hP.2.2.1)) rfl ?_
                  refine ml_st (S' := (105, [(0, .ref m0), (2, .int x2), (3, .int x3), (4, .int (f2 f x1)), (5, .int i18_5), (6, .int i18_6), (7, .int i18_7), (8, .int (Int64.toInt32 (f4 f (i18_5 + 2)))), (9, .int (pyf py (f2 f i18_5))), (10, .int i79_10), (11, .int i79_11)], [.ref m0, .int mj], M_18)) rfl rfl rfl ?_
                  refine rg_ref (S' := (108, [(0, .ref m0), (2, .int x2), (3, .int x3), (4, .int (f2 f x1)), (5, .int i18_5), (6, .int i18_6), (7, .int i18_7), (8, .int (Int64.toInt32 (f4 f (i18_5 + 2)))), (9, .int (pyf py (f2 f i18_5))), (10, .int i79_10), (11, .int i79_11)], [.ref (q 64), .int mj], M_18)) rfl hR_18 rfl rfl ?_
                  refine ml_st (S' := (110, [(0, .ref m0), (2, .int x2), (3, .int x3), (4, .int (f2 f x1)), (5, .int i18_5), (6, .int i18_6), (7, .int i18_7), (8, .int (Int64.toInt32 (f4 f (i18_5 + 2)))), (9, .int (pyf py (f2 f i18_5))), (10, .int i79_10), (11, .int i79_11)], [.int i79_11, .ref (q 64), .int mj], M_18)) rfl rfl rfl ?_
                  obtain ⟨v110, hv110⟩ := hK71.2 i79_11 hj0 hjl
                  refine ra_ld (k := 64) (S' := (111, [(0, .ref m0), (2, .int x2), (3, .int x3), (4, .int (f2 f x1)), (5, .int i18_5), (6, .int i18_6), (7, .int i18_7), (8, .int (Int64.toInt32 (f4 f (i18_5 + 2)))), (9, .int (pyf py (f2 f i18_5))), (10, .int i79_10), (11, .int i79_11)], [.int v110, .int mj], M_18)) rfl hR_18 rfl (vin_lt hj0 (by omega)) (hv110) rfl ?_
                  refine ml_if2 (S1 := (134, [(0, .ref m0), (2, .int x2), (3, .int x3), (4, .int (f2 f x1)), (5, .int i18_5), (6, .int i18_6), (7, .int i18_7), (8, .int (Int64.toInt32 (f4 f (i18_5 + 2)))), (9, .int (pyf py (f2 f i18_5))), (10, .int i79_10), (11, .int i79_11)], [], M_18)) (S2 := (114, [(0, .ref m0), (2, .int x2), (3, .int x3), (4, .int (f2 f x1)), (5, .int i18_5), (6, .int i18_6), (7, .int i18_7), (8, .int (Int64.toInt32 (f4 f (i18_5 + 2)))), (9, .int (pyf py (f2 f i18_5))), (10, .int i79_10), (11, .int i79_11)], [], M_18)) rfl rfl rfl (fun c_111 => ?_) (fun c_111 => ?_)
                  · have c_111 : mj < v110 := of_decide_eq_true c_111
                    refine ml_st (S' := (137, [(11, .int (i79_11 + 1)), (0, .ref m0), (2, .int x2), (3, .int x3), (4, .int (f2 f x1)), (5, .int i18_5), (6, .int i18_6), (7, .int i18_7), (8, .int (Int64.toInt32 (f4 f (i18_5 + 2)))), (9, .int (pyf py (f2 f i18_5))), (10, .int i79_10)], [], M_18)) rfl rfl rfl ?_
                    refine ml_st (S' := (79, [(0, .ref m0), (2, .int x2), (3, .int x3), (4, .int (f2 f x1)), (5, .int i18_5), (6, .int i18_6), (7, .int i18_7), (8, .int (Int64.toInt32 (f4 f (i18_5 + 2)))), (9, .int (pyf py (f2 f i18_5))), (10, .int i79_10), (11, .int (i79_11 + 1))], [], M_18)) rfl rfl rfl ?_
                    exact ih_79 i79_10 (i79_11 + 1) (loop_inc (Int32.not_le.mp c_86) hn_79) (⟨by rw [inc_lt (Int32.not_le.mp c_86)]; omega, hjw⟩)
                  · have c_111 : ¬ (mj < v110) := of_decide_eq_false c_111
                    refine ml_blk 3 (S' := (118, [(0, .ref m0), (2, .int x2), (3, .int x3), (4, .int (f2 f x1)), (5, .int i18_5), (6, .int i18_6), (7, .int i18_7), (8, .int (Int64.toInt32 (f4 f (i18_5 + 2)))), (9, .int (pyf py (f2 f i18_5))), (10, .int i79_10), (11, .int i79_11)], [.ref m0, .int (pyf py (f2 f i18_5)), .ref m0], M_18)) rfl ?_
                    refine rg_ref (S' := (121, [(0, .ref m0), (2, .int x2), (3, .int x3), (4, .int (f2 f x1)), (5, .int i18_5), (6, .int i18_6), (7, .int i18_7), (8, .int (Int64.toInt32 (f4 f (i18_5 + 2)))), (9, .int (pyf py (f2 f i18_5))), (10, .int i79_10), (11, .int i79_11)], [.ref (q 62), .int (pyf py (f2 f i18_5)), .ref m0], M_18)) rfl hR_18 rfl rfl ?_
                    refine ml_st (S' := (123, [(0, .ref m0), (2, .int x2), (3, .int x3), (4, .int (f2 f x1)), (5, .int i18_5), (6, .int i18_6), (7, .int i18_7), (8, .int (Int64.toInt32 (f4 f (i18_5 + 2)))), (9, .int (pyf py (f2 f i18_5))), (10, .int i79_10), (11, .int i79_11)], [.int i79_11, .ref (q 62), .int (pyf py (f2 f i18_5)), .ref m0], M_18)) rfl rfl rfl ?_
                    refine ra_kn (S' := (124, [(0, .ref m0), (2, .int x2), (3, .int x3), (4, .int (f2 f x1)), (5, .int i18_5), (6, .int i18_6), (7, .int i18_7), (8, .int (Int64.toInt32 (f4 f (i18_5 + 2)))), (9, .int (pyf py (f2 f i18_5))), (10, .int i79_10), (11, .int i79_11)], [.ref (g.2.1 (15 + Int32.toNatClampNeg i79_11)), .int (pyf py (f2 f i18_5)), .ref m0], M_18)) rfl hR_18 hj0 hjl rfl ?_
                    have hY72 : SK S cN sa sl ch I_18 R_18 := (hY.mono (cIx hI_18 (by decide)) (cRx hV_18 (by decide)))
                    refine ml_call (a := [.ref m0, .int (pyf py (f2 f i18_5)), .ref (g.2.1 (15 + Int32.toNatClampNeg i79_11))]) (rest := []) rfl (hR_18.okc rfl rfl rfl) rfl rfl (rm_is hR_18 hY72 (hy9.2.2.1) (hy9.2.2.2) (by show 15 ≤ 15 + i79_11.toInt.toNat ∧ 15 + i79_11.toInt.toNat < 30; omega) (by omega)) (fun v73 M74 h75 => ?_)
                    obtain ⟨⟨u76, rfl, z77⟩, h75⟩ := h75
                    rw [h75]
                    show ml _ _ _ (127, [(0, .ref m0), (2, .int x2), (3, .int x3), (4, .int (f2 f x1)), (5, .int i18_5), (6, .int i18_6), (7, .int i18_7), (8, .int (Int64.toInt32 (f4 f (i18_5 + 2)))), (9, .int (pyf py (f2 f i18_5))), (10, .int i79_10), (11, .int i79_11)], [.int u76], M_18) _
                    refine ml_if (S1 := (134, [(0, .ref m0), (2, .int x2), (3, .int x3), (4, .int (f2 f x1)), (5, .int i18_5), (6, .int i18_6), (7, .int i18_7), (8, .int (Int64.toInt32 (f4 f (i18_5 + 2)))), (9, .int (pyf py (f2 f i18_5))), (10, .int i79_10), (11, .int i79_11)], [], M_18)) (S2 := (130, [(0, .ref m0), (2, .int x2), (3, .int x3), (4, .int (f2 f x1)), (5, .int i18_5), (6, .int i18_6), (7, .int i18_7), (8, .int (Int64.toInt32 (f4 f (i18_5 + 2)))), (9, .int (pyf py (f2 f i18_5))), (10, .int i79_10), (11, .int i79_11)], [], M_18)) rfl rfl rfl (fun c_127 => ?_) (fun c_127 => ?_)
                    · have c_127 : u76 = 0 := of_decide_eq_true c_127
                      refine ml_st (S' := (137, [(11, .int (i79_11 + 1)), (0, .ref m0), (2, .int x2), (3, .int x3), (4, .int (f2 f x1)), (5, .int i18_5), (6, .int i18_6), (7, .int i18_7), (8, .int (Int64.toInt32 (f4 f (i18_5 + 2)))), (9, .int (pyf py (f2 f i18_5))), (10, .int i79_10)], [], M_18)) rfl rfl rfl ?_
                      refine ml_st (S' := (79, [(0, .ref m0), (2, .int x2), (3, .int x3), (4, .int (f2 f x1)), (5, .int i18_5), (6, .int i18_6), (7, .int i18_7), (8, .int (Int64.toInt32 (f4 f (i18_5 + 2)))), (9, .int (pyf py (f2 f i18_5))), (10, .int i79_10), (11, .int (i79_11 + 1))], [], M_18)) rfl rfl rfl ?_
                      exact ih_79 i79_10 (i79_11 + 1) (loop_inc (Int32.not_le.mp c_86) hn_79) (⟨by rw [inc_lt (Int32.not_le.mp c_86)]; omega, hjw⟩)
                    · have c_127 : ¬ (u76 = 0) := of_decide_eq_false c_127
                      refine ml_st (S' := (132, [(0, .ref m0), (2, .int x2), (3, .int x3), (4, .int (f2 f x1)), (5, .int i18_5), (6, .int i18_6), (7, .int i18_7), (8, .int (Int64.toInt32 (f4 f (i18_5 + 2)))), (9, .int (pyf py (f2 f i18_5))), (10, .int i79_10), (11, .int i79_11)], [.int i79_11], M_18)) rfl rfl rfl ?_
                      refine ml_st (S' := (134, [(0, .ref m0), (2, .int x2), (3, .int x3), (4, .int (f2 f x1)), (5, .int i18_5), (6, .int i18_6), (7, .int i18_7), (8, .int (Int64.toInt32 (f4 f (i18_5 + 2)))), (9, .int (pyf py (f2 f i18_5))), (10, .int i79_11), (11, .int i79_11)], [], M_18)) rfl rfl rfl ?_
                      refine ml_st (S' := (137, [(11, .int (i79_11 + 1)), (0, .ref m0), (2, .int x2), (3, .int x3), (4, .int (f2 f x1)), (5, .int i18_5), (6, .int i18_6), (7, .int i18_7), (8, .int (Int64.toInt32 (f4 f (i18_5 + 2)))), (9, .int (pyf py (f2 f i18_5))), (10, .int i79_11)], [], M_18)) rfl rfl rfl ?_
                      refine ml_st (S' := (79, [(0, .ref m0), (2, .int x2), (3, .int x3), (4, .int (f2 f x1)), (5, .int i18_5), (6, .int i18_6), (7, .int i18_7), (8, .int (Int64.toInt32 (f4 f (i18_5 + 2)))), (9, .int (pyf py (f2 f i18_5))), (10, .int i79_11), (11, .int (i79_11 + 1))], [], M_18)) rfl rfl rfl ?_
                      exact ih_79 i79_11 (i79_11 + 1) (loop_inc (Int32.not_le.mp c_86) hn_79) (⟨by rw [inc_lt (Int32.not_le.mp c_86)]; omega, Or.inr ⟨hj0, hjl, Decidable.not_not.mp c_97⟩⟩)
          exact L_79 _ (-1) 0 (Nat.le_refl _) (⟨by decide, Or.inl (by decide)⟩)
        · have c_47 : ¬ ((tgf f cp pa (f2 f i18_5)) = 1) := of_decide_eq_false c_47
          refine ml_blk 3 (S' := (55, [(8, .int (Int64.toInt32 (f4 f (i18_5 + 2)))), (0, .ref m0), (2, .int x2), (3, .int x3), (4, .int (f2 f x1)), (5, .int i18_5), (6, .int i18_6), (7, .int i18_7)], [.int i18_5, .int 28, .ref m0], M_18)) rfl ?_
          refine ml_call (a := [.ref m0, .int 28, .int i18_5]) (rest := []) rfl (hR_18.okc rfl rfl rfl) rfl rfl (rm_wrong hR_18 (by omega)) (fun v78 M79 h80 => ?_)
          obtain ⟨u86, I81, R82, rfl, hR83, hI84, hV85, z87, w88⟩ := h80
          show ml _ _ _ (58, [(8, .int (Int64.toInt32 (f4 f (i18_5 + 2)))), (0, .ref m0), (2, .int x2), (3, .int x3), (4, .int (f2 f x1)), (5, .int i18_5), (6, .int i18_6), (7, .int i18_7)], [.int u86], M79) _
          refine ml_blk 2 (S' := (60, [(8, .int (Int64.toInt32 (f4 f (i18_5 + 2)))), (0, .ref m0), (2, .int x2), (3, .int x3), (4, .int (f2 f x1)), (5, .int i18_5), (6, .int i18_6), (7, .int i18_7)], [.int (-1)], M79)) rfl ?_
          exact ml_ret rfl (rfl) (⟨_, _, _, rfl, hR83, ((eqI.rf.tr hI_18 (by decide)).tr hI84 (by decide)), ((eqR.rf.tr hV_18 (by decide)).tr hV85 (by decide)), ⟨Or.inl (by decide), (hnw18.fr (cIx hI84 (by decide)))⟩⟩)
  exact L_18 _ (x1 + 2) 0 0 _ _ _ (Nat.le_refl _) hR eqI.rf eqR.rf (⟨by decide, by show (0 : Int) ≤ _; exact f2_pos, by rw [show ((f2 f x1).toInt - (0 : Int32).toInt).toNat = (f2 f x1).toInt.toNat by have : (0 : Int32).toInt = 0 := rfl; omega]; exact hat.2.2.1, hN⟩)
end
section
/-! the reference: members (my own text) -/
section MIE
def KFR : List Nat := [27, 28, 29, 30, 31, 32, 33]
def FKN (k : Nat) (R : rR) : Prop := ∀ x, x < k → kn [27, 28, 29, 30, 31, 32, 33] x R
theorem FKN.step {k : Nat} {R R' : rR} (h : FKN k R) (hp : pw k R R') (hk : kn [27, 28, 29, 30, 31, 32, 33] k R') : FKN (k + 1) R' := by
  intro x hx
  by_cases e : x = k
  · subst e
    exact hk
  · intro a ha
    rw [hp a x e]
    exact h x (by omega) a ha
theorem FKN.eq {k : Nat} {V : List Nat} {R R' : rR} (h : FKN k R) (h' : eqR V R R') (hd : ∀ a, a ∈ [27, 28, 29, 30, 31, 32, 33] → a ∉ V) : FKN k R' := fun x hx => (h x hx).eq h' hd
variable {f : Nat → Int32} {n S : Nat} {sa sl ch : Nat → Int32}
def MK1 (f : Nat → Int32) (n S : Nat) (sa sl ch : Nat → Int32) (x : Nat) (R : rR) : Prop := kn [34, 35, 37, 38, 39, 40, 42, 43, 44, 45, 46] x R ∧ MCD f n x R ∧ ∃ ds : Int32, R 36 x = some ds ∧ 0 ≤ ds.toInt ∧ ds.toInt < S ∧ MTX sa sl ch ds
def MKN (f : Nat → Int32) (n S : Nat) (sa sl ch : Nat → Int32) (k : Nat) (R : rR) : Prop := ∀ x, x < k → MK1 f n S sa sl ch x R
theorem MK1.fr {x : Nat} {R R' : rR} (h : MK1 f n S sa sl ch x R) (h' : ∀ k, R' k x = R k x) : MK1 f n S sa sl ch x R' := by
  obtain ⟨h1, h2, ds, h3, h4⟩ := h
  refine ⟨fun k hk => by rw [h' k]; exact h1 k hk, h2.fr (fun k _ => h' k), ds, by rw [h' 36]; exact h3, h4⟩
theorem MKN.step {k : Nat} {R R' : rR} (h : MKN f n S sa sl ch k R) (hp : pw k R R') (hk : MK1 f n S sa sl ch k R') : MKN f n S sa sl ch (k + 1) R' := by
  intro x hx
  by_cases e : x = k
  · subst e
    exact hk
  · exact (h x (by omega)).fr (fun a => hp a x e)
theorem MKN.eq {k : Nat} {R R' : rR} (h : MKN f n S sa sl ch k R) (h' : eqR [] R R') : MKN f n S sa sl ch k R' := fun x hx => (h x hx).fr (fun a => congrFun (h' a (by simp)) x)
end MIE
end
section
/-! the reference: members (laid by wip/p2/c70.py) -/
set_option maxHeartbeats 2000000 in
theorem rm_several {g : xe_G}  {m0 : Nat} {q : Nat → Nat} {z : Nat × Nat} {I : rI} {R : rR} {M : mi_H} {x1 x2 x3 x4 : Int32}  (hR : RS g m0 q z I R M) {d : Nat} (hd : 1 ≤ d) : mt (mT g) d 242 [.int x1, .int x2, .int x3, .int x4] M (fun v M' => (∃ x : Int32, v = some (.int x) ∧ (x = 0 ∨ x = 1)) ∧ M' = M) := by
  obtain ⟨d, rfl⟩ : ∃ e, d = e + 1 := ⟨d - 1, by omega⟩
  refine mt_in (b := mb_242 g) rfl rfl ?_
  show ml (mT g) d (mb_242 g).2 (0, [(0, .int x1), (1, .int x2), (2, .int x3), (3, .int x4)], [], M) _
  refine ml_blk 3 (S' := (3, [(0, .int x1), (1, .int x2), (2, .int x3), (3, .int x4)], [.int (x1 &&& x2)], M)) rfl ?_
  refine ml_if (S1 := (10, [(0, .int x1), (1, .int x2), (2, .int x3), (3, .int x4)], [], M)) (S2 := (6, [(0, .int x1), (1, .int x2), (2, .int x3), (3, .int x4)], [], M)) rfl rfl rfl (fun c_3 => ?_) (fun c_3 => ?_)
  · have c_3 : (x1 &&& x2) = 0 := of_decide_eq_true c_3
    refine ml_st (S' := (11, [(0, .int x1), (2, .int x3), (3, .int x4)], [.int 0], M)) rfl rfl rfl ?_
    refine ml_blk 3 (S' := (14, [(0, .int x1), (2, .int x3), (3, .int x4)], [.int (x1 &&& x3), .int 0], M)) rfl ?_
    refine ml_if (S1 := (21, [(0, .int x1), (2, .int x3), (3, .int x4)], [.int 0], M)) (S2 := (17, [(0, .int x1), (2, .int x3), (3, .int x4)], [.int 0], M)) rfl rfl rfl (fun c_14 => ?_) (fun c_14 => ?_)
    · have c_14 : (x1 &&& x3) = 0 := of_decide_eq_true c_14
      refine ml_st (S' := (22, [(0, .int x1), (3, .int x4)], [.int 0, .int 0], M)) rfl rfl rfl ?_
      refine ml_blk 3 (S' := (25, [(0, .int x1), (3, .int x4)], [.int x4, .int x1, .int (0 + 0)], M)) rfl ?_
      refine ml_st (S' := (26, [(0, .int x1), (3, .int x4)], [.int (x1 &&& x4), .int (0 + 0)], M)) rfl rfl rfl ?_
      refine ml_if (S1 := (33, [(0, .int x1), (3, .int x4)], [.int (0 + 0)], M)) (S2 := (29, [(0, .int x1), (3, .int x4)], [.int (0 + 0)], M)) rfl rfl rfl (fun c_26 => ?_) (fun c_26 => ?_)
      · have c_26 : (x1 &&& x4) = 0 := of_decide_eq_true c_26
        refine ml_st (S' := (34, [], [.int 0, .int (0 + 0)], M)) rfl rfl rfl ?_
        refine ml_blk 2 (S' := (36, [], [.int 1, .int ((0 + 0) + 0)], M)) rfl ?_
        refine ml_if2 (S1 := (43, [], [], M)) (S2 := (39, [], [], M)) rfl rfl rfl (fun c_36 => ?_) (fun c_36 => ?_)
        · have c_36 : ((0 + 0) + 0) ≤ 1 := of_decide_eq_true c_36
          refine ml_st (S' := (44, [], [.int 0], M)) rfl rfl rfl ?_
          exact ml_ret rfl (r_z (Or.inl rfl)) (⟨⟨_, rfl, Or.inl rfl⟩, rfl⟩)
        · have c_36 : ¬ (((0 + 0) + 0) ≤ 1) := of_decide_eq_false c_36
          refine ml_st (S' := (40, [], [.int 1], M)) rfl rfl rfl ?_
          refine ml_st (S' := (44, [], [.int 1], M)) rfl rfl rfl ?_
          exact ml_ret rfl (r_z (Or.inr rfl)) (⟨⟨_, rfl, Or.inr rfl⟩, rfl⟩)
      · have c_26 : ¬ ((x1 &&& x4) = 0) := of_decide_eq_false c_26
        refine ml_st (S' := (30, [(0, .int x1), (3, .int x4)], [.int 1, .int (0 + 0)], M)) rfl rfl rfl ?_
        refine ml_st (S' := (34, [], [.int 1, .int (0 + 0)], M)) rfl rfl rfl ?_
        refine ml_blk 2 (S' := (36, [], [.int 1, .int ((0 + 0) + 1)], M)) rfl ?_
        refine ml_if2 (S1 := (43, [], [], M)) (S2 := (39, [], [], M)) rfl rfl rfl (fun c_36 => ?_) (fun c_36 => ?_)
        · have c_36 : ((0 + 0) + 1) ≤ 1 := of_decide_eq_true c_36
          refine ml_st (S' := (44, [], [.int 0], M)) rfl rfl rfl ?_
          exact ml_ret rfl (r_z (Or.inl rfl)) (⟨⟨_, rfl, Or.inl rfl⟩, rfl⟩)
        · have c_36 : ¬ (((0 + 0) + 1) ≤ 1) := of_decide_eq_false c_36
          refine ml_st (S' := (40, [], [.int 1], M)) rfl rfl rfl ?_
          refine ml_st (S' := (44, [], [.int 1], M)) rfl rfl rfl ?_
          exact ml_ret rfl (r_z (Or.inr rfl)) (⟨⟨_, rfl, Or.inr rfl⟩, rfl⟩)
    · have c_14 : ¬ ((x1 &&& x3) = 0) := of_decide_eq_false c_14
      refine ml_st (S' := (18, [(0, .int x1), (2, .int x3), (3, .int x4)], [.int 1, .int 0], M)) rfl rfl rfl ?_
      refine ml_st (S' := (22, [(0, .int x1), (3, .int x4)], [.int 1, .int 0], M)) rfl rfl rfl ?_
      refine ml_blk 3 (S' := (25, [(0, .int x1), (3, .int x4)], [.int x4, .int x1, .int (0 + 1)], M)) rfl ?_
      refine ml_st (S' := (26, [(0, .int x1), (3, .int x4)], [.int (x1 &&& x4), .int (0 + 1)], M)) rfl rfl rfl ?_
      refine ml_if (S1 := (33, [(0, .int x1), (3, .int x4)], [.int (0 + 1)], M)) (S2 := (29, [(0, .int x1), (3, .int x4)], [.int (0 + 1)], M)) rfl rfl rfl (fun c_26 => ?_) (fun c_26 => ?_)
      · have c_26 : (x1 &&& x4) = 0 := of_decide_eq_true c_26
        refine ml_st (S' := (34, [], [.int 0, .int (0 + 1)], M)) rfl rfl rfl ?_
        refine ml_blk 2 (S' := (36, [], [.int 1, .int ((0 + 1) + 0)], M)) rfl ?_
        refine ml_if2 (S1 := (43, [], [], M)) (S2 := (39, [], [], M)) rfl rfl rfl (fun c_36 => ?_) (fun c_36 => ?_)
        · have c_36 : ((0 + 1) + 0) ≤ 1 := of_decide_eq_true c_36
          refine ml_st (S' := (44, [], [.int 0], M)) rfl rfl rfl ?_
          exact ml_ret rfl (r_z (Or.inl rfl)) (⟨⟨_, rfl, Or.inl rfl⟩, rfl⟩)
        · have c_36 : ¬ (((0 + 1) + 0) ≤ 1) := of_decide_eq_false c_36
          refine ml_st (S' := (40, [], [.int 1], M)) rfl rfl rfl ?_
          refine ml_st (S' := (44, [], [.int 1], M)) rfl rfl rfl ?_
          exact ml_ret rfl (r_z (Or.inr rfl)) (⟨⟨_, rfl, Or.inr rfl⟩, rfl⟩)
      · have c_26 : ¬ ((x1 &&& x4) = 0) := of_decide_eq_false c_26
        refine ml_st (S' := (30, [(0, .int x1), (3, .int x4)], [.int 1, .int (0 + 1)], M)) rfl rfl rfl ?_
        refine ml_st (S' := (34, [], [.int 1, .int (0 + 1)], M)) rfl rfl rfl ?_
        refine ml_blk 2 (S' := (36, [], [.int 1, .int ((0 + 1) + 1)], M)) rfl ?_
        refine ml_if2 (S1 := (43, [], [], M)) (S2 := (39, [], [], M)) rfl rfl rfl (fun c_36 => ?_) (fun c_36 => ?_)
        · have c_36 : ((0 + 1) + 1) ≤ 1 := of_decide_eq_true c_36
          refine ml_st (S' := (44, [], [.int 0], M)) rfl rfl rfl ?_
          exact ml_ret rfl (r_z (Or.inl rfl)) (⟨⟨_, rfl, Or.inl rfl⟩, rfl⟩)
        · have c_36 : ¬ (((0 + 1) + 1) ≤ 1) := of_decide_eq_false c_36
          refine ml_st (S' := (40, [], [.int 1], M)) rfl rfl rfl ?_
          refine ml_st (S' := (44, [], [.int 1], M)) rfl rfl rfl ?_
          exact ml_ret rfl (r_z (Or.inr rfl)) (⟨⟨_, rfl, Or.inr rfl⟩, rfl⟩)
  · have c_3 : ¬ ((x1 &&& x2) = 0) := of_decide_eq_false c_3
    refine ml_st (S' := (7, [(0, .int x1), (1, .int x2), (2, .int x3), (3, .int x4)], [.int 1], M)) rfl rfl rfl ?_
    refine ml_st (S' := (11, [(0, .int x1), (2, .int x3), (3, .int x4)], [.int 1], M)) rfl rfl rfl ?_
    refine ml_blk 3 (S' := (14, [(0, .int x1), (2, .int x3), (3, .int x4)], [.int (x1 &&& x3), .int 1], M)) rfl ?_
    refine ml_if (S1 := (21, [(0, .int x1), (2, .int x3), (3, .int x4)], [.int 1], M)) (S2 := (17, [(0, .int x1), (2, .int x3), (3, .int x4)], [.int 1], M)) rfl rfl rfl (fun c_14 => ?_) (fun c_14 => ?_)
    · have c_14 : (x1 &&& x3) = 0 := of_decide_eq_true c_14
      refine ml_st (S' := (22, [(0, .int x1), (3, .int x4)], [.int 0, .int 1], M)) rfl rfl rfl ?_
      refine ml_blk 3 (S' := (25, [(0, .int x1), (3, .int x4)], [.int x4, .int x1, .int (1 + 0)], M)) rfl ?_
      refine ml_st (S' := (26, [(0, .int x1), (3, .int x4)], [.int (x1 &&& x4), .int (1 + 0)], M)) rfl rfl rfl ?_
      refine ml_if (S1 := (33, [(0, .int x1), (3, .int x4)], [.int (1 + 0)], M)) (S2 := (29, [(0, .int x1), (3, .int x4)], [.int (1 + 0)], M)) rfl rfl rfl (fun c_26 => ?_) (fun c_26 => ?_)
      · have c_26 : (x1 &&& x4) = 0 := of_decide_eq_true c_26
        refine ml_st (S' := (34, [], [.int 0, .int (1 + 0)], M)) rfl rfl rfl ?_
        refine ml_blk 2 (S' := (36, [], [.int 1, .int ((1 + 0) + 0)], M)) rfl ?_
        refine ml_if2 (S1 := (43, [], [], M)) (S2 := (39, [], [], M)) rfl rfl rfl (fun c_36 => ?_) (fun c_36 => ?_)
        · have c_36 : ((1 + 0) + 0) ≤ 1 := of_decide_eq_true c_36
          refine ml_st (S' := (44, [], [.int 0], M)) rfl rfl rfl ?_
          exact ml_ret rfl (r_z (Or.inl rfl)) (⟨⟨_, rfl, Or.inl rfl⟩, rfl⟩)
        · have c_36 : ¬ (((1 + 0) + 0) ≤ 1) := of_decide_eq_false c_36
          refine ml_st (S' := (40, [], [.int 1], M)) rfl rfl rfl ?_
          refine ml_st (S' := (44, [], [.int 1], M)) rfl rfl rfl ?_
          exact ml_ret rfl (r_z (Or.inr rfl)) (⟨⟨_, rfl, Or.inr rfl⟩, rfl⟩)
      · have c_26 : ¬ ((x1 &&& x4) = 0) := of_decide_eq_false c_26
        refine ml_st (S' := (30, [(0, .int x1), (3, .int x4)], [.int 1, .int (1 + 0)], M)) rfl rfl rfl ?_
        refine ml_st (S' := (34, [], [.int 1, .int (1 + 0)], M)) rfl rfl rfl ?_
        refine ml_blk 2 (S' := (36, [], [.int 1, .int ((1 + 0) + 1)], M)) rfl ?_
        refine ml_if2 (S1 := (43, [], [], M)) (S2 := (39, [], [], M)) rfl rfl rfl (fun c_36 => ?_) (fun c_36 => ?_)
        · have c_36 : ((1 + 0) + 1) ≤ 1 := of_decide_eq_true c_36
          refine ml_st (S' := (44, [], [.int 0], M)) rfl rfl rfl ?_
          exact ml_ret rfl (r_z (Or.inl rfl)) (⟨⟨_, rfl, Or.inl rfl⟩, rfl⟩)
        · have c_36 : ¬ (((1 + 0) + 1) ≤ 1) := of_decide_eq_false c_36
          refine ml_st (S' := (40, [], [.int 1], M)) rfl rfl rfl ?_
          refine ml_st (S' := (44, [], [.int 1], M)) rfl rfl rfl ?_
          exact ml_ret rfl (r_z (Or.inr rfl)) (⟨⟨_, rfl, Or.inr rfl⟩, rfl⟩)
    · have c_14 : ¬ ((x1 &&& x3) = 0) := of_decide_eq_false c_14
      refine ml_st (S' := (18, [(0, .int x1), (2, .int x3), (3, .int x4)], [.int 1, .int 1], M)) rfl rfl rfl ?_
      refine ml_st (S' := (22, [(0, .int x1), (3, .int x4)], [.int 1, .int 1], M)) rfl rfl rfl ?_
      refine ml_blk 3 (S' := (25, [(0, .int x1), (3, .int x4)], [.int x4, .int x1, .int (1 + 1)], M)) rfl ?_
      refine ml_st (S' := (26, [(0, .int x1), (3, .int x4)], [.int (x1 &&& x4), .int (1 + 1)], M)) rfl rfl rfl ?_
      refine ml_if (S1 := (33, [(0, .int x1), (3, .int x4)], [.int (1 + 1)], M)) (S2 := (29, [(0, .int x1), (3, .int x4)], [.int (1 + 1)], M)) rfl rfl rfl (fun c_26 => ?_) (fun c_26 => ?_)
      · have c_26 : (x1 &&& x4) = 0 := of_decide_eq_true c_26
        refine ml_st (S' := (34, [], [.int 0, .int (1 + 1)], M)) rfl rfl rfl ?_
        refine ml_blk 2 (S' := (36, [], [.int 1, .int ((1 + 1) + 0)], M)) rfl ?_
        refine ml_if2 (S1 := (43, [], [], M)) (S2 := (39, [], [], M)) rfl rfl rfl (fun c_36 => ?_) (fun c_36 => ?_)
        · have c_36 : ((1 + 1) + 0) ≤ 1 := of_decide_eq_true c_36
          refine ml_st (S' := (44, [], [.int 0], M)) rfl rfl rfl ?_
          exact ml_ret rfl (r_z (Or.inl rfl)) (⟨⟨_, rfl, Or.inl rfl⟩, rfl⟩)
        · have c_36 : ¬ (((1 + 1) + 0) ≤ 1) := of_decide_eq_false c_36
          refine ml_st (S' := (40, [], [.int 1], M)) rfl rfl rfl ?_
          refine ml_st (S' := (44, [], [.int 1], M)) rfl rfl rfl ?_
          exact ml_ret rfl (r_z (Or.inr rfl)) (⟨⟨_, rfl, Or.inr rfl⟩, rfl⟩)
      · have c_26 : ¬ ((x1 &&& x4) = 0) := of_decide_eq_false c_26
        refine ml_st (S' := (30, [(0, .int x1), (3, .int x4)], [.int 1, .int (1 + 1)], M)) rfl rfl rfl ?_
        refine ml_st (S' := (34, [], [.int 1, .int (1 + 1)], M)) rfl rfl rfl ?_
        refine ml_blk 2 (S' := (36, [], [.int 1, .int ((1 + 1) + 1)], M)) rfl ?_
        refine ml_if2 (S1 := (43, [], [], M)) (S2 := (39, [], [], M)) rfl rfl rfl (fun c_36 => ?_) (fun c_36 => ?_)
        · have c_36 : ((1 + 1) + 1) ≤ 1 := of_decide_eq_true c_36
          refine ml_st (S' := (44, [], [.int 0], M)) rfl rfl rfl ?_
          exact ml_ret rfl (r_z (Or.inl rfl)) (⟨⟨_, rfl, Or.inl rfl⟩, rfl⟩)
        · have c_36 : ¬ (((1 + 1) + 1) ≤ 1) := of_decide_eq_false c_36
          refine ml_st (S' := (40, [], [.int 1], M)) rfl rfl rfl ?_
          refine ml_st (S' := (44, [], [.int 1], M)) rfl rfl rfl ?_
          exact ml_ret rfl (r_z (Or.inr rfl)) (⟨⟨_, rfl, Or.inr rfl⟩, rfl⟩)
set_option maxHeartbeats 2000000 in
theorem rm_flagsFit {g : xe_G}  {m0 : Nat} {q : Nat → Nat} {z : Nat × Nat} {I : rI} {R : rR} {M : mi_H} {x1 x2 x3 mj : Int32}  (hR : RS g m0 q z I R M) (hk53 : I 53 = some mj) {d : Nat} (hd : 2 ≤ d) : mt (mT g) d 209 [.ref m0, .int x1, .int x2, .int x3] M (fun v M' => (∃ x : Int32, v = some (.int x) ∧ (x = 0 ∨ x = 1)) ∧ M' = M) := by
  obtain ⟨d, rfl⟩ : ∃ e, d = e + 1 := ⟨d - 1, by omega⟩
  refine mt_in (b := mb_209 g) rfl rfl ?_
  show ml (mT g) d (mb_209 g).2 (0, [(0, .ref m0), (1, .int x1), (2, .int x2), (3, .int x3)], [], M) _
  refine ml_st (S' := (1, [(0, .ref m0), (1, .int x1), (2, .int x2), (3, .int x3)], [.int x2], M)) rfl rfl rfl ?_
  refine ml_if (S1 := (28, [(0, .ref m0), (1, .int x1), (2, .int x2), (3, .int x3)], [], M)) (S2 := (4, [(0, .ref m0), (1, .int x1), (2, .int x2), (3, .int x3)], [], M)) rfl rfl rfl (fun c_1 => ?_) (fun c_1 => ?_)
  · have c_1 : x2 = 0 := of_decide_eq_true c_1
    refine ml_blk 3 (S' := (33, [(0, .ref m0), (1, .int x1), (2, .int x2), (3, .int x3)], [.int (x1 &&& 1024)], M)) rfl ?_
    have J_75 : ∀ (s75_0 : Int32), ml (mT g) d (mb_209 g).2 (75, [(0, .ref m0), (1, .int x1), (3, .int x3)], [.int s75_0], M) (fun v M' => (∃ x : Int32, v = some (.int x) ∧ (x = 0 ∨ x = 1)) ∧ M' = M) := by
      intro s75_0
      refine ml_st (S' := (77, [(4, .int s75_0), (0, .ref m0), (1, .int x1), (3, .int x3)], [], M)) rfl rfl rfl ?_
      refine ml_st (S' := (78, [(4, .int s75_0), (0, .ref m0), (1, .int x1), (3, .int x3)], [.int x3], M)) rfl rfl rfl ?_
      refine ml_if (S1 := (102, [(4, .int s75_0), (0, .ref m0), (1, .int x1), (3, .int x3)], [], M)) (S2 := (81, [(4, .int s75_0), (0, .ref m0), (1, .int x1), (3, .int x3)], [], M)) rfl rfl rfl (fun c_78 => ?_) (fun c_78 => ?_)
      · have c_78 : ¬ x3 = 0 := of_decide_eq_true c_78
        refine ml_blk 3 (S' := (107, [(4, .int s75_0), (0, .ref m0), (1, .int x1), (3, .int x3)], [.int (x1 &&& 308)], M)) rfl ?_
        refine ml_if (S1 := (112, [(4, .int s75_0), (0, .ref m0), (1, .int x1), (3, .int x3)], [], M)) (S2 := (110, [(4, .int s75_0), (0, .ref m0), (1, .int x1), (3, .int x3)], [], M)) rfl rfl rfl (fun c_107 => ?_) (fun c_107 => ?_)
        · have c_107 : (x1 &&& 308) = 0 := of_decide_eq_true c_107
          refine ml_st (S' := (113, [(4, .int s75_0), (0, .ref m0), (1, .int x1), (3, .int x3)], [.ref m0], M)) rfl rfl rfl ?_
          refine rg_int (S' := (116, [(4, .int s75_0), (0, .ref m0), (1, .int x1), (3, .int x3)], [.int mj], M)) rfl hR rfl (hk53) rfl ?_
          refine ml_st (S' := (118, [(4, .int s75_0), (0, .ref m0), (1, .int x1), (3, .int x3)], [.int 52, .int mj], M)) rfl rfl rfl ?_
          have J_172 : ml (mT g) d (mb_209 g).2 (172, [(4, .int s75_0)], [], M) (fun v M' => (∃ x : Int32, v = some (.int x) ∧ (x = 0 ∨ x = 1)) ∧ M' = M) := by
            refine ml_st (S' := (174, [(4, .int s75_0)], [.int s75_0], M)) rfl rfl rfl ?_
            refine ml_if (S1 := (181, [(4, .int s75_0)], [], M)) (S2 := (177, [(4, .int s75_0)], [], M)) rfl rfl rfl (fun c_174 => ?_) (fun c_174 => ?_)
            · have c_174 : ¬ s75_0 = 0 := of_decide_eq_true c_174
              refine ml_st (S' := (182, [], [.int 0], M)) rfl rfl rfl ?_
              exact ml_ret rfl (r_z (Or.inl rfl)) (⟨⟨_, rfl, Or.inl rfl⟩, rfl⟩)
            · have c_174 : ¬ (¬ s75_0 = 0) := of_decide_eq_false c_174
              refine ml_st (S' := (178, [(4, .int s75_0)], [.int 1], M)) rfl rfl rfl ?_
              refine ml_st (S' := (182, [], [.int 1], M)) rfl rfl rfl ?_
              exact ml_ret rfl (r_z (Or.inr rfl)) (⟨⟨_, rfl, Or.inr rfl⟩, rfl⟩)
          have J_170 : ml (mT g) d (mb_209 g).2 (170, [], [], M) (fun v M' => (∃ x : Int32, v = some (.int x) ∧ (x = 0 ∨ x = 1)) ∧ M' = M) := by
            refine ml_st (S' := (171, [], [.int 0], M)) rfl rfl rfl ?_
            exact ml_ret rfl (r_z (Or.inl rfl)) (⟨⟨_, rfl, Or.inl rfl⟩, rfl⟩)
          refine ml_if2 (S1 := (145, [(4, .int s75_0), (0, .ref m0), (1, .int x1), (3, .int x3)], [], M)) (S2 := (121, [(4, .int s75_0), (0, .ref m0), (1, .int x1), (3, .int x3)], [], M)) rfl rfl rfl (fun c_118 => ?_) (fun c_118 => ?_)
          · have c_118 : 52 ≤ mj := of_decide_eq_true c_118
            refine ml_blk 3 (S' := (148, [(4, .int s75_0), (0, .ref m0), (1, .int x1), (3, .int x3)], [.int (x1 &&& 1)], M)) rfl ?_
            have J_156 : ∀ (s156_0 : Int32), ml (mT g) d (mb_209 g).2 (156, [(1, .int x1), (4, .int s75_0)], [.int s156_0], M) (fun v M' => (∃ x : Int32, v = some (.int x) ∧ (x = 0 ∨ x = 1)) ∧ M' = M) := by
              intro s156_0
              refine ml_blk 3 (S' := (159, [(1, .int x1), (4, .int s75_0)], [.int (x1 &&& 2), .int s156_0], M)) rfl ?_
              have J_167 : ∀ (s167_0 : Int32), ml (mT g) d (mb_209 g).2 (167, [(4, .int s75_0)], [.int s167_0, .int s156_0], M) (fun v M' => (∃ x : Int32, v = some (.int x) ∧ (x = 0 ∨ x = 1)) ∧ M' = M) := by
                intro s167_0
                refine ml_if2 (S1 := (172, [(4, .int s75_0)], [], M)) (S2 := (170, [], [], M)) rfl rfl rfl (fun c_167 => ?_) (fun c_167 => ?_)
                · have c_167 : ¬ s156_0 = s167_0 := of_decide_eq_true c_167
                  exact J_172 
                · have c_167 : ¬ (¬ s156_0 = s167_0) := of_decide_eq_false c_167
                  exact J_170 
              refine ml_if (S1 := (166, [(1, .int x1), (4, .int s75_0)], [.int s156_0], M)) (S2 := (162, [(1, .int x1), (4, .int s75_0)], [.int s156_0], M)) rfl rfl rfl (fun c_159 => ?_) (fun c_159 => ?_)
              · have c_159 : (x1 &&& 2) = 0 := of_decide_eq_true c_159
                refine ml_st (S' := (167, [(4, .int s75_0)], [.int 0, .int s156_0], M)) rfl rfl rfl ?_
                exact J_167 0
              · have c_159 : ¬ ((x1 &&& 2) = 0) := of_decide_eq_false c_159
                refine ml_st (S' := (163, [(1, .int x1), (4, .int s75_0)], [.int 1, .int s156_0], M)) rfl rfl rfl ?_
                refine ml_st (S' := (167, [(4, .int s75_0)], [.int 1, .int s156_0], M)) rfl rfl rfl ?_
                exact J_167 1
            refine ml_if (S1 := (155, [(4, .int s75_0), (0, .ref m0), (1, .int x1), (3, .int x3)], [], M)) (S2 := (151, [(4, .int s75_0), (0, .ref m0), (1, .int x1), (3, .int x3)], [], M)) rfl rfl rfl (fun c_148 => ?_) (fun c_148 => ?_)
            · have c_148 : (x1 &&& 1) = 0 := of_decide_eq_true c_148
              refine ml_st (S' := (156, [(1, .int x1), (4, .int s75_0)], [.int 0], M)) rfl rfl rfl ?_
              exact J_156 0
            · have c_148 : ¬ ((x1 &&& 1) = 0) := of_decide_eq_false c_148
              refine ml_st (S' := (152, [(4, .int s75_0), (0, .ref m0), (1, .int x1), (3, .int x3)], [.int 1], M)) rfl rfl rfl ?_
              refine ml_st (S' := (156, [(1, .int x1), (4, .int s75_0)], [.int 1], M)) rfl rfl rfl ?_
              exact J_156 1
          · have c_118 : ¬ (52 ≤ mj) := of_decide_eq_false c_118
            refine ml_blk 3 (S' := (124, [(4, .int s75_0), (0, .ref m0), (1, .int x1), (3, .int x3)], [.int (x1 &&& 1)], M)) rfl ?_
            refine ml_if (S1 := (170, [], [], M)) (S2 := (127, [(4, .int s75_0), (0, .ref m0), (1, .int x1), (3, .int x3)], [], M)) rfl rfl rfl (fun c_124 => ?_) (fun c_124 => ?_)
            · have c_124 : (x1 &&& 1) = 0 := of_decide_eq_true c_124
              exact J_170 
            · have c_124 : ¬ ((x1 &&& 1) = 0) := of_decide_eq_false c_124
              refine ml_blk 3 (S' := (132, [(4, .int s75_0), (0, .ref m0), (1, .int x1), (3, .int x3)], [.int (x1 &&& 1024)], M)) rfl ?_
              refine ml_if (S1 := (170, [], [], M)) (S2 := (135, [(4, .int s75_0), (0, .ref m0), (1, .int x1), (3, .int x3)], [], M)) rfl rfl rfl (fun c_132 => ?_) (fun c_132 => ?_)
              · have c_132 : (x1 &&& 1024) = 0 := of_decide_eq_true c_132
                exact J_170 
              · have c_132 : ¬ ((x1 &&& 1024) = 0) := of_decide_eq_false c_132
                refine ml_blk 3 (S' := (139, [(4, .int s75_0), (0, .ref m0), (1, .int x1), (3, .int x3)], [.int (x1 &&& 8)], M)) rfl ?_
                refine ml_if (S1 := (172, [(4, .int s75_0)], [], M)) (S2 := (142, [(4, .int s75_0), (0, .ref m0), (1, .int x1), (3, .int x3)], [], M)) rfl rfl rfl (fun c_139 => ?_) (fun c_139 => ?_)
                · have c_139 : (x1 &&& 8) = 0 := of_decide_eq_true c_139
                  exact J_172 
                · have c_139 : ¬ ((x1 &&& 8) = 0) := of_decide_eq_false c_139
                  refine ml_st (S' := (170, [], [], M)) rfl rfl rfl ?_
                  exact J_170 
        · have c_107 : ¬ ((x1 &&& 308) = 0) := of_decide_eq_false c_107
          refine ml_st (S' := (111, [(4, .int s75_0), (0, .ref m0), (1, .int x1), (3, .int x3)], [.int 0], M)) rfl rfl rfl ?_
          exact ml_ret rfl (r_z (Or.inl rfl)) (⟨⟨_, rfl, Or.inl rfl⟩, rfl⟩)
      · have c_78 : ¬ (¬ x3 = 0) := of_decide_eq_false c_78
        refine ml_blk 3 (S' := (84, [(4, .int s75_0), (0, .ref m0), (1, .int x1), (3, .int x3)], [.int 2, .int 1, .int x1], M)) rfl ?_
        refine ml_st (S' := (85, [(4, .int s75_0), (0, .ref m0), (1, .int x1), (3, .int x3)], [.int 4, .int 2, .int 1, .int x1], M)) rfl rfl rfl ?_
        refine ml_call (a := [.int x1, .int 1, .int 2, .int 4]) (rest := []) rfl (rfl) rfl rfl (rm_several hR (by omega)) (fun v11 M12 h13 => ?_)
        obtain ⟨⟨u14, rfl, z15⟩, h13⟩ := h13
        rw [h13]
        show ml _ _ _ (88, [(4, .int s75_0), (0, .ref m0), (1, .int x1), (3, .int x3)], [.int u14], M) _
        refine ml_if (S1 := (100, [], [], M)) (S2 := (91, [(4, .int s75_0), (0, .ref m0), (1, .int x1), (3, .int x3)], [], M)) rfl rfl rfl (fun c_88 => ?_) (fun c_88 => ?_)
        · have c_88 : ¬ u14 = 0 := of_decide_eq_true c_88
          refine ml_st (S' := (101, [], [.int 0], M)) rfl rfl rfl ?_
          exact ml_ret rfl (r_z (Or.inl rfl)) (⟨⟨_, rfl, Or.inl rfl⟩, rfl⟩)
        · have c_88 : ¬ (¬ u14 = 0) := of_decide_eq_false c_88
          refine ml_st (S' := (93, [(4, .int s75_0), (0, .ref m0), (1, .int x1), (3, .int x3)], [.int s75_0], M)) rfl rfl rfl ?_
          refine ml_if (S1 := (100, [], [], M)) (S2 := (96, [(4, .int s75_0), (0, .ref m0), (1, .int x1), (3, .int x3)], [], M)) rfl rfl rfl (fun c_93 => ?_) (fun c_93 => ?_)
          · have c_93 : ¬ s75_0 = 0 := of_decide_eq_true c_93
            refine ml_st (S' := (101, [], [.int 0], M)) rfl rfl rfl ?_
            exact ml_ret rfl (r_z (Or.inl rfl)) (⟨⟨_, rfl, Or.inl rfl⟩, rfl⟩)
          · have c_93 : ¬ (¬ s75_0 = 0) := of_decide_eq_false c_93
            refine ml_st (S' := (97, [(4, .int s75_0), (0, .ref m0), (1, .int x1), (3, .int x3)], [.int 1], M)) rfl rfl rfl ?_
            refine ml_st (S' := (101, [], [.int 1], M)) rfl rfl rfl ?_
            exact ml_ret rfl (r_z (Or.inr rfl)) (⟨⟨_, rfl, Or.inr rfl⟩, rfl⟩)
    refine ml_if (S1 := (74, [(0, .ref m0), (1, .int x1), (3, .int x3)], [], M)) (S2 := (36, [(0, .ref m0), (1, .int x1), (2, .int x2), (3, .int x3)], [], M)) rfl rfl rfl (fun c_33 => ?_) (fun c_33 => ?_)
    · have c_33 : (x1 &&& 1024) = 0 := of_decide_eq_true c_33
      refine ml_st (S' := (75, [(0, .ref m0), (1, .int x1), (3, .int x3)], [.int 0], M)) rfl rfl rfl ?_
      exact J_75 0
    · have c_33 : ¬ ((x1 &&& 1024) = 0) := of_decide_eq_false c_33
      refine ml_blk 3 (S' := (41, [(0, .ref m0), (1, .int x1), (2, .int x2), (3, .int x3)], [.int (x1 &&& 314)], M)) rfl ?_
      refine ml_if (S1 := (70, [(0, .ref m0), (1, .int x1), (3, .int x3)], [], M)) (S2 := (44, [(0, .ref m0), (1, .int x1), (2, .int x2), (3, .int x3)], [], M)) rfl rfl rfl (fun c_41 => ?_) (fun c_41 => ?_)
      · have c_41 : ¬ (x1 &&& 314) = 0 := of_decide_eq_true c_41
        refine ml_st (S' := (71, [(0, .ref m0), (1, .int x1), (3, .int x3)], [.int 1], M)) rfl rfl rfl ?_
        refine ml_st (S' := (75, [(0, .ref m0), (1, .int x1), (3, .int x3)], [.int 1], M)) rfl rfl rfl ?_
        exact J_75 1
      · have c_41 : ¬ (¬ (x1 &&& 314) = 0) := of_decide_eq_false c_41
        refine ml_st (S' := (45, [(0, .ref m0), (1, .int x1), (2, .int x2), (3, .int x3)], [.ref m0], M)) rfl rfl rfl ?_
        refine rg_int (S' := (48, [(0, .ref m0), (1, .int x1), (2, .int x2), (3, .int x3)], [.int mj], M)) rfl hR rfl (hk53) rfl ?_
        refine ml_st (S' := (50, [(0, .ref m0), (1, .int x1), (2, .int x2), (3, .int x3)], [.int 46, .int mj], M)) rfl rfl rfl ?_
        refine ml_if2 (S1 := (74, [(0, .ref m0), (1, .int x1), (3, .int x3)], [], M)) (S2 := (53, [(0, .ref m0), (1, .int x1), (2, .int x2), (3, .int x3)], [], M)) rfl rfl rfl (fun c_50 => ?_) (fun c_50 => ?_)
        · have c_50 : mj < 46 := of_decide_eq_true c_50
          refine ml_st (S' := (75, [(0, .ref m0), (1, .int x1), (3, .int x3)], [.int 0], M)) rfl rfl rfl ?_
          exact J_75 0
        · have c_50 : ¬ (mj < 46) := of_decide_eq_false c_50
          refine ml_st (S' := (54, [(0, .ref m0), (1, .int x1), (2, .int x2), (3, .int x3)], [.ref m0], M)) rfl rfl rfl ?_
          refine rg_int (S' := (57, [(0, .ref m0), (1, .int x1), (2, .int x2), (3, .int x3)], [.int mj], M)) rfl hR rfl (hk53) rfl ?_
          refine ml_st (S' := (59, [(0, .ref m0), (1, .int x1), (2, .int x2), (3, .int x3)], [.int 60, .int mj], M)) rfl rfl rfl ?_
          refine ml_if2 (S1 := (74, [(0, .ref m0), (1, .int x1), (3, .int x3)], [], M)) (S2 := (62, [(0, .ref m0), (1, .int x1), (2, .int x2), (3, .int x3)], [], M)) rfl rfl rfl (fun c_59 => ?_) (fun c_59 => ?_)
          · have c_59 : 60 < mj := of_decide_eq_true c_59
            refine ml_st (S' := (75, [(0, .ref m0), (1, .int x1), (3, .int x3)], [.int 0], M)) rfl rfl rfl ?_
            exact J_75 0
          · have c_59 : ¬ (60 < mj) := of_decide_eq_false c_59
            refine ml_blk 3 (S' := (67, [(0, .ref m0), (1, .int x1), (2, .int x2), (3, .int x3)], [.int (x1 &&& 2048)], M)) rfl ?_
            refine ml_if (S1 := (74, [(0, .ref m0), (1, .int x1), (3, .int x3)], [], M)) (S2 := (70, [(0, .ref m0), (1, .int x1), (3, .int x3)], [], M)) rfl rfl rfl (fun c_67 => ?_) (fun c_67 => ?_)
            · have c_67 : (x1 &&& 2048) = 0 := of_decide_eq_true c_67
              refine ml_st (S' := (75, [(0, .ref m0), (1, .int x1), (3, .int x3)], [.int 0], M)) rfl rfl rfl ?_
              exact J_75 0
            · have c_67 : ¬ ((x1 &&& 2048) = 0) := of_decide_eq_false c_67
              refine ml_st (S' := (71, [(0, .ref m0), (1, .int x1), (3, .int x3)], [.int 1], M)) rfl rfl rfl ?_
              refine ml_st (S' := (75, [(0, .ref m0), (1, .int x1), (3, .int x3)], [.int 1], M)) rfl rfl rfl ?_
              exact J_75 1
  · have c_1 : ¬ (x2 = 0) := of_decide_eq_false c_1
    refine ml_blk 3 (S' := (7, [(0, .ref m0), (1, .int x1), (2, .int x2), (3, .int x3)], [.int 2, .int 1, .int x1], M)) rfl ?_
    refine ml_st (S' := (8, [(0, .ref m0), (1, .int x1), (2, .int x2), (3, .int x3)], [.int 4, .int 2, .int 1, .int x1], M)) rfl rfl rfl ?_
    refine ml_call (a := [.int x1, .int 1, .int 2, .int 4]) (rest := []) rfl (rfl) rfl rfl (rm_several hR (by omega)) (fun v16 M17 h18 => ?_)
    obtain ⟨⟨u19, rfl, z20⟩, h18⟩ := h18
    rw [h18]
    show ml _ _ _ (11, [(0, .ref m0), (1, .int x1), (2, .int x2), (3, .int x3)], [.int u19], M) _
    refine ml_if (S1 := (26, [], [], M)) (S2 := (14, [(0, .ref m0), (1, .int x1), (2, .int x2), (3, .int x3)], [], M)) rfl rfl rfl (fun c_11 => ?_) (fun c_11 => ?_)
    · have c_11 : ¬ u19 = 0 := of_decide_eq_true c_11
      refine ml_st (S' := (27, [], [.int 0], M)) rfl rfl rfl ?_
      exact ml_ret rfl (r_z (Or.inl rfl)) (⟨⟨_, rfl, Or.inl rfl⟩, rfl⟩)
    · have c_11 : ¬ (¬ u19 = 0) := of_decide_eq_false c_11
      refine ml_blk 3 (S' := (19, [(0, .ref m0), (1, .int x1), (2, .int x2), (3, .int x3)], [.int (x1 &&& 1400)], M)) rfl ?_
      refine ml_if (S1 := (26, [], [], M)) (S2 := (22, [(0, .ref m0), (1, .int x1), (2, .int x2), (3, .int x3)], [], M)) rfl rfl rfl (fun c_19 => ?_) (fun c_19 => ?_)
      · have c_19 : ¬ (x1 &&& 1400) = 0 := of_decide_eq_true c_19
        refine ml_st (S' := (27, [], [.int 0], M)) rfl rfl rfl ?_
        exact ml_ret rfl (r_z (Or.inl rfl)) (⟨⟨_, rfl, Or.inl rfl⟩, rfl⟩)
      · have c_19 : ¬ (¬ (x1 &&& 1400) = 0) := of_decide_eq_false c_19
        refine ml_st (S' := (23, [(0, .ref m0), (1, .int x1), (2, .int x2), (3, .int x3)], [.int 1], M)) rfl rfl rfl ?_
        refine ml_st (S' := (27, [], [.int 1], M)) rfl rfl rfl ?_
        exact ml_ret rfl (r_z (Or.inr rfl)) (⟨⟨_, rfl, Or.inr rfl⟩, rfl⟩)
theorem nI_back {k : Int32} (h : 0 ≤ k.toInt) (h1 : k.toInt ≤ 65535) : nI k.toInt.toNat = k := by
  apply Int32.toInt_inj.mp
  rw [nI_val (by omega)]
  omega
end
