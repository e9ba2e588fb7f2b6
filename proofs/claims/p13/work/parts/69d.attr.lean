set_option maxHeartbeats 2000000 in
theorem rm_attr0 {g : xe_G}  {m0 : Nat} {q : Nat → Nat} {z : Nat × Nat} {I : rI} {R : rR} {M : mi_H} {x1 x2 x3 x4 x5 x6 : Int32} {n : Nat} {f : Nat → Int32} {S cN : Nat} {sa sl ch : Nat → Int32} {cp mj : Int32} {pa py : Nat → Int32} {fl ds : Int32}  (hR : RS g m0 q z I R M) (hF : FK n f I R) (hY : SK S cN sa sl ch I R) (hP : PK n f S cp mj pa py I R) (hw : x1 = 0) (h0 : 0 ≤ x3.toInt) (h1 : x3.toInt ≤ x4.toInt) (h2 : x4.toInt ≤ n) (ho0 : 0 ≤ x5.toInt) (ho1 : x5.toInt < 8300) (hfl : R 27 x5.toNatClampNeg = some fl) (hds : R 29 x5.toNatClampNeg = some ds) (hd0 : 0 ≤ ds.toInt) (hd1 : ds.toInt < S) (hln : 0 < (sL sl ds).toInt) (hkn : kn [30, 31] x5.toNatClampNeg R) {d : Nat} (hd : 6 ≤ d) : mt (mT g) d 177 [.ref m0, .int x1, .int x2, .int x3, .int x4, .int x5, .int x6] M (fun v M' => ∃ (x : Int32) (I' : rI) (R' : rR), v = some (.int x) ∧ RS g m0 q z I' R' M' ∧ eqI [] I I' ∧ eqR [30] R R' ∧ pw x5.toNatClampNeg R R' ∧ kn [30, 31] x5.toNatClampNeg R') := by
  obtain ⟨d, rfl⟩ : ∃ e, d = e + 1 := ⟨d - 1, by omega⟩
  refine mt_in (b := mb_177 g) rfl rfl ?_
  show ml (mT g) d (mb_177 g).2 (0, [(0, .ref m0), (1, .int x1), (2, .int x2), (3, .int x3), (4, .int x4), (5, .int x5), (6, .int x6)], [], M) _
  have hn := hF.1
  refine ml_st (S' := (1, [(0, .ref m0), (1, .int x1), (2, .int x2), (3, .int x3), (4, .int x4), (5, .int x5), (6, .int x6)], [.int x1], M)) rfl rfl rfl ?_
  refine ml_sw rfl (fun t_1 ht_1 => ?_)
  have kt_1 := ht_1
  have ht_1 : t_1 ∈ [56, 208, 219, 398, 400, 542, 550, 600] := mi_sw_sub ht_1 (by decide)
  simp only [List.mem_cons, List.not_mem_nil, or_false] at ht_1
  rcases ht_1 with rfl | rfl | rfl | rfl | rfl | rfl | rfl | rfl
  · show ml _ _ _ (56, [(0, .ref m0), (1, .int x1), (2, .int x2), (3, .int x3), (4, .int x4), (5, .int x5), (6, .int x6)], [], M) _
    refine ml_blk 3 (S' := (60, [(0, .ref m0), (1, .int x1), (2, .int x2), (3, .int x3), (4, .int x4), (5, .int x5), (6, .int x6)], [.int (x4 - x3)], M)) rfl ?_
    refine ml_st (S' := (61, [(0, .ref m0), (1, .int x1), (2, .int x2), (3, .int x3), (4, .int x4), (5, .int x5), (6, .int x6)], [.int 2, .int (x4 - x3)], M)) rfl rfl rfl ?_
    refine ml_if2 (S1 := (67, [(0, .ref m0), (1, .int x1), (2, .int x2), (3, .int x3), (4, .int x4), (5, .int x5), (6, .int x6)], [], M)) (S2 := (64, [(0, .ref m0), (1, .int x1), (2, .int x2), (3, .int x3), (4, .int x4), (5, .int x5), (6, .int x6)], [], M)) rfl rfl rfl (fun c_61 => ?_) (fun c_61 => ?_)
    · have c_61 : (x4 - x3) = 2 := of_decide_eq_true c_61
      have hd2 : (x4 - x3).toInt = 2 := by rw [c_61]; rfl
      rw [i_sub (by omega) (by omega)] at hd2
      refine ml_st (S' := (68, [(0, .ref m0), (1, .int x1), (2, .int x2), (3, .int x3), (4, .int x4), (5, .int x5), (6, .int x6)], [.ref m0], M)) rfl rfl rfl ?_
      refine rg_ref (S' := (71, [(0, .ref m0), (1, .int x1), (2, .int x2), (3, .int x3), (4, .int x4), (5, .int x5), (6, .int x6)], [.ref (q 27)], M)) rfl hR rfl rfl ?_
      refine ml_st (S' := (73, [(0, .ref m0), (1, .int x1), (2, .int x2), (3, .int x3), (4, .int x4), (5, .int x5), (6, .int x6)], [.int x5, .ref (q 27)], M)) rfl rfl rfl ?_
      refine ra_ld (k := 27) (S' := (74, [(0, .ref m0), (1, .int x1), (2, .int x2), (3, .int x3), (4, .int x4), (5, .int x5), (6, .int x6)], [.int fl], M)) rfl hR rfl (vin_lt ho0 (by omega)) (hfl) rfl ?_
      refine ml_blk 2 (S' := (77, [(0, .ref m0), (1, .int x1), (2, .int x2), (3, .int x3), (4, .int x4), (5, .int x5), (6, .int x6)], [.int (fl &&& 8)], M)) rfl ?_
      refine ml_if (S1 := (82, [(0, .ref m0), (1, .int x1), (2, .int x2), (3, .int x3), (4, .int x4), (5, .int x5), (6, .int x6)], [], M)) (S2 := (80, [(0, .ref m0), (1, .int x1), (2, .int x2), (3, .int x3), (4, .int x4), (5, .int x5), (6, .int x6)], [], M)) rfl rfl rfl (fun c_77 => ?_) (fun c_77 => ?_)
      · have c_77 : ¬ (fl &&& 8) = 0 := of_decide_eq_true c_77
        refine ml_blk 2 (S' := (84, [(0, .ref m0), (1, .int x1), (2, .int x2), (3, .int x3), (4, .int x4), (5, .int x5), (6, .int x6)], [.ref m0, .ref m0], M)) rfl ?_
        refine rg_ref (S' := (87, [(0, .ref m0), (1, .int x1), (2, .int x2), (3, .int x3), (4, .int x4), (5, .int x5), (6, .int x6)], [.ref (q 29), .ref m0], M)) rfl hR rfl rfl ?_
        refine ml_st (S' := (89, [(0, .ref m0), (1, .int x1), (2, .int x2), (3, .int x3), (4, .int x4), (5, .int x5), (6, .int x6)], [.int x5, .ref (q 29), .ref m0], M)) rfl rfl rfl ?_
        refine ra_ld (k := 29) (S' := (90, [(0, .ref m0), (1, .int x1), (2, .int x2), (3, .int x3), (4, .int x4), (5, .int x5), (6, .int x6)], [.int ds, .ref m0], M)) rfl hR rfl (vin_lt ho0 (by omega)) (hds) rfl ?_
        refine ml_st (S' := (91, [(0, .ref m0), (1, .int x1), (2, .int x2), (3, .int x3), (4, .int x4), (5, .int x5), (6, .int x6)], [.int 0, .int ds, .ref m0], M)) rfl rfl rfl ?_
        refine ml_call (a := [.ref m0, .int ds, .int 0]) (rest := []) rfl (hR.okc rfl rfl rfl) rfl rfl (rm_at hR hY (hd0) (hd1) (by decide) (by have : (0 : Int32).toInt = 0 := rfl; omega) (by omega)) (fun v11 M12 h13 => ?_)
        obtain ⟨rfl, h13⟩ := h13
        rw [h13]
        show ml _ _ _ (94, [(0, .ref m0), (1, .int x1), (2, .int x2), (3, .int x3), (4, .int x4), (5, .int x5), (6, .int x6)], [.int (tx sa ch ds 0)], M) _
        refine ml_st (S' := (96, [(7, .int (tx sa ch ds 0)), (0, .ref m0), (1, .int x1), (2, .int x2), (3, .int x3), (4, .int x4), (5, .int x5), (6, .int x6)], [], M)) rfl rfl rfl ?_
        refine ml_blk 2 (S' := (100, [(7, .int (tx sa ch ds 0)), (0, .ref m0), (1, .int x1), (2, .int x2), (3, .int x3), (4, .int x4), (5, .int x5), (6, .int x6)], [.int 74, .int (tx sa ch ds 0)], M)) rfl ?_
        have J_175 : ∀ (s175_0 : Int32), ml (mT g) d (mb_177 g).2 (175, [(0, .ref m0), (3, .int x3), (5, .int x5)], [.int s175_0], M) (fun v M' => ∃ (x : Int32) (I' : rI) (R' : rR), v = some (.int x) ∧ RS g m0 q z I' R' M' ∧ eqI [] I I' ∧ eqR [30] R R' ∧ pw x5.toNatClampNeg R R' ∧ kn [30, 31] x5.toNatClampNeg R') := by
          intro s175_0
          refine ml_st (S' := (177, [(8, .int s175_0), (0, .ref m0), (3, .int x3), (5, .int x5)], [], M)) rfl rfl rfl ?_
          refine ml_blk 3 (S' := (180, [(8, .int s175_0), (0, .ref m0), (3, .int x3), (5, .int x5)], [.int x3, .ref m0, .ref m0], M)) rfl ?_
          refine ml_call (a := [.ref m0, .int x3]) (rest := [.ref m0]) rfl (hR.okc rfl rfl rfl) rfl rfl (rm_u2 hR hF (h0) (by omega) (by omega)) (fun v14 M15 h16 => ?_)
          obtain ⟨rfl, h16⟩ := h16
          rw [h16]
          show ml _ _ _ (183, [(8, .int s175_0), (0, .ref m0), (3, .int x3), (5, .int x5)], [.int (f2 f x3), .ref m0], M) _
          refine ml_call (a := [.ref m0, .int (f2 f x3)]) (rest := []) rfl (hR.okc rfl rfl rfl) rfl rfl (rm_tag hR hF hP (by omega)) (fun v17 M18 h19 => ?_)
          obtain ⟨rfl, h19⟩ := h19
          rw [h19]
          show ml _ _ _ (186, [(8, .int s175_0), (0, .ref m0), (3, .int x3), (5, .int x5)], [.int (tgf f cp pa (f2 f x3))], M) _
          refine ml_st (S' := (188, [(8, .int s175_0), (0, .ref m0), (3, .int x3), (5, .int x5)], [.int s175_0, .int (tgf f cp pa (f2 f x3))], M)) rfl rfl rfl ?_
          refine ml_if2 (S1 := (194, [(8, .int s175_0), (0, .ref m0), (3, .int x3), (5, .int x5)], [], M)) (S2 := (191, [(8, .int s175_0), (0, .ref m0), (3, .int x3), (5, .int x5)], [], M)) rfl rfl rfl (fun c_188 => ?_) (fun c_188 => ?_)
          · have c_188 : (tgf f cp pa (f2 f x3)) = s175_0 := of_decide_eq_true c_188
            refine ml_st (S' := (195, [(8, .int s175_0), (0, .ref m0), (3, .int x3), (5, .int x5)], [.ref m0], M)) rfl rfl rfl ?_
            refine rg_ref (S' := (198, [(8, .int s175_0), (0, .ref m0), (3, .int x3), (5, .int x5)], [.ref (q 30)], M)) rfl hR rfl rfl ?_
            refine ml_blk 3 (S' := (202, [(8, .int s175_0), (0, .ref m0), (3, .int x3), (5, .int x5)], [.int x3, .ref m0, .int x5, .ref (q 30)], M)) rfl ?_
            refine ml_call (a := [.ref m0, .int x3]) (rest := [.int x5, .ref (q 30)]) rfl (hR.okc rfl rfl rfl) rfl rfl (rm_u2 hR hF (h0) (by omega) (by omega)) (fun v20 M21 h22 => ?_)
            obtain ⟨rfl, h22⟩ := h22
            rw [h22]
            show ml _ _ _ (205, [(8, .int s175_0), (0, .ref m0), (3, .int x3), (5, .int x5)], [.int (f2 f x3), .int x5, .ref (q 30)], M) _
            refine ra_st (k := 30) rfl hR rfl (vin_lt ho0 (by omega)) (fun M23 R24 hR25 e26 g27 f28 => ?_)
            show ml _ _ _ (206, [(8, .int s175_0), (0, .ref m0), (3, .int x3), (5, .int x5)], [], M23) _
            refine ml_st (S' := (207, [(8, .int s175_0), (0, .ref m0), (3, .int x3), (5, .int x5)], [.int 0], M23)) rfl rfl rfl ?_
            exact ml_ret rfl (rfl) (⟨_, _, _, rfl, hR25, eqI.rf, (eqR.rf.put f28 (by decide)), ⟨(pw.rf.st g27 f28 rfl), (kn.st hkn e26 g27 f28)⟩⟩)
          · have c_188 : ¬ ((tgf f cp pa (f2 f x3)) = s175_0) := of_decide_eq_false c_188
            refine ml_st (S' := (193, [(8, .int s175_0), (0, .ref m0), (3, .int x3), (5, .int x5)], [.int 31], M)) rfl rfl rfl ?_
            exact ml_ret rfl (rfl) (⟨_, _, _, rfl, hR, eqI.rf, eqR.rf, ⟨pw.rf, hkn⟩⟩)
        refine ml_if2 (S1 := (107, [(7, .int (tx sa ch ds 0)), (0, .ref m0), (1, .int x1), (2, .int x2), (3, .int x3), (4, .int x4), (5, .int x5), (6, .int x6)], [], M)) (S2 := (103, [(7, .int (tx sa ch ds 0)), (0, .ref m0), (1, .int x1), (2, .int x2), (3, .int x3), (4, .int x4), (5, .int x5), (6, .int x6)], [], M)) rfl rfl rfl (fun c_100 => ?_) (fun c_100 => ?_)
        · have c_100 : ¬ (tx sa ch ds 0) = 74 := of_decide_eq_true c_100
          refine ml_blk 2 (S' := (111, [(7, .int (tx sa ch ds 0)), (0, .ref m0), (1, .int x1), (2, .int x2), (3, .int x3), (4, .int x4), (5, .int x5), (6, .int x6)], [.int 70, .int (tx sa ch ds 0)], M)) rfl ?_
          refine ml_if2 (S1 := (118, [(7, .int (tx sa ch ds 0)), (0, .ref m0), (1, .int x1), (2, .int x2), (3, .int x3), (4, .int x4), (5, .int x5), (6, .int x6)], [], M)) (S2 := (114, [(7, .int (tx sa ch ds 0)), (0, .ref m0), (1, .int x1), (2, .int x2), (3, .int x3), (4, .int x4), (5, .int x5), (6, .int x6)], [], M)) rfl rfl rfl (fun c_111 => ?_) (fun c_111 => ?_)
          · have c_111 : ¬ (tx sa ch ds 0) = 70 := of_decide_eq_true c_111
            refine ml_blk 2 (S' := (122, [(7, .int (tx sa ch ds 0)), (0, .ref m0), (1, .int x1), (2, .int x2), (3, .int x3), (4, .int x4), (5, .int x5), (6, .int x6)], [.int 68, .int (tx sa ch ds 0)], M)) rfl ?_
            refine ml_if2 (S1 := (130, [(7, .int (tx sa ch ds 0)), (0, .ref m0), (1, .int x1), (2, .int x2), (3, .int x3), (4, .int x4), (5, .int x5), (6, .int x6)], [], M)) (S2 := (125, [(7, .int (tx sa ch ds 0)), (0, .ref m0), (1, .int x1), (2, .int x2), (3, .int x3), (4, .int x4), (5, .int x5), (6, .int x6)], [], M)) rfl rfl rfl (fun c_122 => ?_) (fun c_122 => ?_)
            · have c_122 : ¬ (tx sa ch ds 0) = 68 := of_decide_eq_true c_122
              refine ml_blk 2 (S' := (134, [(7, .int (tx sa ch ds 0)), (0, .ref m0), (1, .int x1), (2, .int x2), (3, .int x3), (4, .int x4), (5, .int x5), (6, .int x6)], [.int 76, .int (tx sa ch ds 0)], M)) rfl ?_
              refine ml_if2 (S1 := (163, [(7, .int (tx sa ch ds 0)), (0, .ref m0), (1, .int x1), (2, .int x2), (3, .int x3), (4, .int x4), (5, .int x5), (6, .int x6)], [], M)) (S2 := (137, [(7, .int (tx sa ch ds 0)), (0, .ref m0), (1, .int x1), (2, .int x2), (3, .int x3), (4, .int x4), (5, .int x5), (6, .int x6)], [], M)) rfl rfl rfl (fun c_134 => ?_) (fun c_134 => ?_)
              · have c_134 : ¬ (tx sa ch ds 0) = 76 := of_decide_eq_true c_134
                refine ml_blk 2 (S' := (167, [(7, .int (tx sa ch ds 0)), (0, .ref m0), (1, .int x1), (2, .int x2), (3, .int x3), (4, .int x4), (5, .int x5), (6, .int x6)], [.int 91, .int (tx sa ch ds 0)], M)) rfl ?_
                refine ml_if2 (S1 := (174, [(7, .int (tx sa ch ds 0)), (0, .ref m0), (1, .int x1), (2, .int x2), (3, .int x3), (4, .int x4), (5, .int x5), (6, .int x6)], [], M)) (S2 := (170, [(7, .int (tx sa ch ds 0)), (0, .ref m0), (1, .int x1), (2, .int x2), (3, .int x3), (4, .int x4), (5, .int x5), (6, .int x6)], [], M)) rfl rfl rfl (fun c_167 => ?_) (fun c_167 => ?_)
                · have c_167 : ¬ (tx sa ch ds 0) = 91 := of_decide_eq_true c_167
                  refine ml_st (S' := (175, [(0, .ref m0), (3, .int x3), (5, .int x5)], [.int 3], M)) rfl rfl rfl ?_
                  exact J_175 3
                · have c_167 : ¬ (¬ (tx sa ch ds 0) = 91) := of_decide_eq_false c_167
                  refine ml_st (S' := (171, [(7, .int (tx sa ch ds 0)), (0, .ref m0), (1, .int x1), (2, .int x2), (3, .int x3), (4, .int x4), (5, .int x5), (6, .int x6)], [.int (-1)], M)) rfl rfl rfl ?_
                  refine ml_st (S' := (175, [(0, .ref m0), (3, .int x3), (5, .int x5)], [.int (-1)], M)) rfl rfl rfl ?_
                  exact J_175 (-1)
              · have c_134 : ¬ (¬ (tx sa ch ds 0) = 76) := of_decide_eq_false c_134
                refine ml_blk 2 (S' := (139, [(7, .int (tx sa ch ds 0)), (0, .ref m0), (1, .int x1), (2, .int x2), (3, .int x3), (4, .int x4), (5, .int x5), (6, .int x6)], [.ref m0, .ref m0], M)) rfl ?_
                refine rg_ref (S' := (142, [(7, .int (tx sa ch ds 0)), (0, .ref m0), (1, .int x1), (2, .int x2), (3, .int x3), (4, .int x4), (5, .int x5), (6, .int x6)], [.ref (q 29), .ref m0], M)) rfl hR rfl rfl ?_
                refine ml_st (S' := (144, [(7, .int (tx sa ch ds 0)), (0, .ref m0), (1, .int x1), (2, .int x2), (3, .int x3), (4, .int x4), (5, .int x5), (6, .int x6)], [.int x5, .ref (q 29), .ref m0], M)) rfl rfl rfl ?_
                refine ra_ld (k := 29) (S' := (145, [(7, .int (tx sa ch ds 0)), (0, .ref m0), (1, .int x1), (2, .int x2), (3, .int x3), (4, .int x4), (5, .int x5), (6, .int x6)], [.int ds, .ref m0], M)) rfl hR rfl (vin_lt ho0 (by omega)) (hds) rfl ?_
                refine ml_st (S' := (148, [(7, .int (tx sa ch ds 0)), (0, .ref m0), (1, .int x1), (2, .int x2), (3, .int x3), (4, .int x4), (5, .int x5), (6, .int x6)], [.ref (g.2.1 28), .int ds, .ref m0], M)) rfl rfl rfl ?_
                refine ml_call (a := [.ref m0, .int ds, .ref (g.2.1 28)]) (rest := []) rfl (hR.okc rfl rfl rfl) rfl rfl (rm_is hR hY (hd0) (hd1) (by decide) (by omega)) (fun v29 M30 h31 => ?_)
                obtain ⟨⟨u32, rfl, z33⟩, h31⟩ := h31
                rw [h31]
                show ml _ _ _ (151, [(7, .int (tx sa ch ds 0)), (0, .ref m0), (1, .int x1), (2, .int x2), (3, .int x3), (4, .int x4), (5, .int x5), (6, .int x6)], [.int u32], M) _
                refine ml_if (S1 := (159, [(7, .int (tx sa ch ds 0)), (0, .ref m0), (1, .int x1), (2, .int x2), (3, .int x3), (4, .int x4), (5, .int x5), (6, .int x6)], [], M)) (S2 := (154, [(7, .int (tx sa ch ds 0)), (0, .ref m0), (1, .int x1), (2, .int x2), (3, .int x3), (4, .int x4), (5, .int x5), (6, .int x6)], [], M)) rfl rfl rfl (fun c_151 => ?_) (fun c_151 => ?_)
                · have c_151 : u32 = 0 := of_decide_eq_true c_151
                  refine ml_st (S' := (160, [(7, .int (tx sa ch ds 0)), (0, .ref m0), (1, .int x1), (2, .int x2), (3, .int x3), (4, .int x4), (5, .int x5), (6, .int x6)], [.int (-1)], M)) rfl rfl rfl ?_
                  refine ml_st (S' := (175, [(0, .ref m0), (3, .int x3), (5, .int x5)], [.int (-1)], M)) rfl rfl rfl ?_
                  exact J_175 (-1)
                · have c_151 : ¬ (u32 = 0) := of_decide_eq_false c_151
                  refine ml_st (S' := (156, [(7, .int (tx sa ch ds 0)), (0, .ref m0), (1, .int x1), (2, .int x2), (3, .int x3), (4, .int x4), (5, .int x5), (6, .int x6)], [.int 8], M)) rfl rfl rfl ?_
                  refine ml_st (S' := (175, [(0, .ref m0), (3, .int x3), (5, .int x5)], [.int 8], M)) rfl rfl rfl ?_
                  exact J_175 8
            · have c_122 : ¬ (¬ (tx sa ch ds 0) = 68) := of_decide_eq_false c_122
              refine ml_st (S' := (127, [(7, .int (tx sa ch ds 0)), (0, .ref m0), (1, .int x1), (2, .int x2), (3, .int x3), (4, .int x4), (5, .int x5), (6, .int x6)], [.int 6], M)) rfl rfl rfl ?_
              refine ml_st (S' := (175, [(0, .ref m0), (3, .int x3), (5, .int x5)], [.int 6], M)) rfl rfl rfl ?_
              exact J_175 6
          · have c_111 : ¬ (¬ (tx sa ch ds 0) = 70) := of_decide_eq_false c_111
            refine ml_st (S' := (115, [(7, .int (tx sa ch ds 0)), (0, .ref m0), (1, .int x1), (2, .int x2), (3, .int x3), (4, .int x4), (5, .int x5), (6, .int x6)], [.int 4], M)) rfl rfl rfl ?_
            refine ml_st (S' := (175, [(0, .ref m0), (3, .int x3), (5, .int x5)], [.int 4], M)) rfl rfl rfl ?_
            exact J_175 4
        · have c_100 : ¬ (¬ (tx sa ch ds 0) = 74) := of_decide_eq_false c_100
          refine ml_st (S' := (104, [(7, .int (tx sa ch ds 0)), (0, .ref m0), (1, .int x1), (2, .int x2), (3, .int x3), (4, .int x4), (5, .int x5), (6, .int x6)], [.int 5], M)) rfl rfl rfl ?_
          refine ml_st (S' := (175, [(0, .ref m0), (3, .int x3), (5, .int x5)], [.int 5], M)) rfl rfl rfl ?_
          exact J_175 5
      · have c_77 : ¬ (¬ (fl &&& 8) = 0) := of_decide_eq_false c_77
        refine ml_st (S' := (81, [(0, .ref m0), (1, .int x1), (2, .int x2), (3, .int x3), (4, .int x4), (5, .int x5), (6, .int x6)], [.int 0], M)) rfl rfl rfl ?_
        exact ml_ret rfl (rfl) (⟨_, _, _, rfl, hR, eqI.rf, eqR.rf, ⟨pw.rf, hkn⟩⟩)
    · have c_61 : ¬ ((x4 - x3) = 2) := of_decide_eq_false c_61
      refine ml_st (S' := (66, [(0, .ref m0), (1, .int x1), (2, .int x2), (3, .int x3), (4, .int x4), (5, .int x5), (6, .int x6)], [.int 30], M)) rfl rfl rfl ?_
      exact ml_ret rfl (rfl) (⟨_, _, _, rfl, hR, eqI.rf, eqR.rf, ⟨pw.rf, hkn⟩⟩)
  · show ml _ _ _ (208, [(0, .ref m0), (1, .int x1), (2, .int x2), (3, .int x3), (4, .int x4), (5, .int x5), (6, .int x6)], [], M) _
    exfalso
    rw [hw] at kt_1
    exact absurd kt_1 (by decide)
  · show ml _ _ _ (219, [(0, .ref m0), (1, .int x1), (2, .int x2), (3, .int x3), (4, .int x4), (5, .int x5), (6, .int x6)], [], M) _
    exfalso
    rw [hw] at kt_1
    exact absurd kt_1 (by decide)
  · show ml _ _ _ (398, [(0, .ref m0), (1, .int x1), (2, .int x2), (3, .int x3), (4, .int x4), (5, .int x5), (6, .int x6)], [], M) _
    exfalso
    rw [hw] at kt_1
    exact absurd kt_1 (by decide)
  · show ml _ _ _ (400, [(0, .ref m0), (1, .int x1), (2, .int x2), (3, .int x3), (4, .int x4), (5, .int x5), (6, .int x6)], [], M) _
    exfalso
    rw [hw] at kt_1
    exact absurd kt_1 (by decide)
  · show ml _ _ _ (542, [(0, .ref m0), (1, .int x1), (2, .int x2), (3, .int x3), (4, .int x4), (5, .int x5), (6, .int x6)], [], M) _
    exfalso
    rw [hw] at kt_1
    exact absurd kt_1 (by decide)
  · show ml _ _ _ (550, [(0, .ref m0), (1, .int x1), (2, .int x2), (3, .int x3), (4, .int x4), (5, .int x5), (6, .int x6)], [], M) _
    exfalso
    rw [hw] at kt_1
    exact absurd kt_1 (by decide)
  · show ml _ _ _ (600, [(0, .ref m0), (1, .int x1), (2, .int x2), (3, .int x3), (4, .int x4), (5, .int x5), (6, .int x6)], [], M) _
    exfalso
    rw [hw] at kt_1
    exact absurd kt_1 (by decide)
set_option maxHeartbeats 2000000 in
theorem rm_checkAttributes1 {g : xe_G}  {m0 : Nat} {q : Nat → Nat} {z : Nat × Nat} {I : rI} {R : rR} {M : mi_H} {x1 x2 x3 : Int32} {n : Nat} {f : Nat → Int32} {S cN : Nat} {sa sl ch : Nat → Int32} {cp mj : Int32} {pa py : Nat → Int32} {e : Int32} {fl ds : Int32}  (hR : RS g m0 q z I R M) (hF : FK n f I R) (hY : SK S cN sa sl ch I R) (hP : PK n f S cp mj pa py I R) (hK : KW I R) (hw : x2 = 1) (hat : AT f n x1 e) (ho0 : 0 ≤ x3.toInt) (ho1 : x3.toInt < 8300) (hfl : R 27 x3.toNatClampNeg = some fl) (hds : R 29 x3.toNatClampNeg = some ds) (hd0 : 0 ≤ ds.toInt) (hd1 : ds.toInt < S) (hln : 0 < (sL sl ds).toInt) (hkn : kn [30, 31] x3.toNatClampNeg R) {d : Nat} (hd : 7 ≤ d) : mt (mT g) d 187 [.ref m0, .int x1, .int x2, .int x3] M (fun v M' => ∃ (x : Int32) (I' : rI) (R' : rR), v = some (.int x) ∧ RS g m0 q z I' R' M' ∧ eqI [47, 48] I I' ∧ eqR [30, 31] R R' ∧ (x.toInt < 0 ∨ x = e) ∧ pw x3.toNatClampNeg R R' ∧ kn [30, 31] x3.toNatClampNeg R') := by
  obtain ⟨d, rfl⟩ : ∃ e, d = e + 1 := ⟨d - 1, by omega⟩
  refine mt_in (b := mb_187 g) rfl rfl ?_
  show ml (mT g) d (mb_187 g).2 (0, [(0, .ref m0), (1, .int x1), (2, .int x2), (3, .int x3)], [], M) _
  have hn := hF.1
  refine ml_blk 2 (S' := (2, [(0, .ref m0), (1, .int x1), (2, .int x2), (3, .int x3)], [.int x1, .ref m0], M)) rfl ?_
  refine ml_call (a := [.ref m0, .int x1]) (rest := []) rfl (hR.okc rfl rfl rfl) rfl rfl (rm_u2 hR hF (hat.1) (hat.2.1) (by omega)) (fun v11 M12 h13 => ?_)
  obtain ⟨rfl, h13⟩ := h13
  rw [h13]
  show ml _ _ _ (5, [(0, .ref m0), (1, .int x1), (2, .int x2), (3, .int x3)], [.int (f2 f x1)], M) _
  refine ml_st (S' := (7, [(4, .int (f2 f x1)), (0, .ref m0), (1, .int x1), (2, .int x2), (3, .int x3)], [], M)) rfl rfl rfl ?_
  refine ml_blk 3 (S' := (10, [(4, .int (f2 f x1)), (0, .ref m0), (1, .int x1), (2, .int x2), (3, .int x3)], [.int (x1 + 2)], M)) rfl ?_
  refine ml_st (S' := (12, [(5, .int (x1 + 2)), (4, .int (f2 f x1)), (0, .ref m0), (1, .int x1), (2, .int x2), (3, .int x3)], [], M)) rfl rfl rfl ?_
  refine ml_st (S' := (13, [(5, .int (x1 + 2)), (4, .int (f2 f x1)), (0, .ref m0), (1, .int x1), (2, .int x2), (3, .int x3)], [.int 0], M)) rfl rfl rfl ?_
  refine ml_st (S' := (15, [(6, .int 0), (5, .int (x1 + 2)), (4, .int (f2 f x1)), (0, .ref m0), (1, .int x1), (2, .int x2), (3, .int x3)], [], M)) rfl rfl rfl ?_
  refine ml_st (S' := (16, [(6, .int 0), (5, .int (x1 + 2)), (4, .int (f2 f x1)), (0, .ref m0), (1, .int x1), (2, .int x2), (3, .int x3)], [.int 0], M)) rfl rfl rfl ?_
  refine ml_st (S' := (18, [(0, .ref m0), (2, .int x2), (3, .int x3), (4, .int (f2 f x1)), (5, .int (x1 + 2)), (6, .int 0), (7, .int 0)], [], M)) rfl rfl rfl ?_
  have L_18 : ∀ (n_18 : Nat) (i18_5 : Int32) (i18_6 : Int32) (i18_7 : Int32) (M_18 : mi_H) (I_18 : rI) (R_18 : rR), (2147483648 - i18_7.toInt).toNat ≤ n_18 → RS g m0 q z I_18 R_18 M_18 → eqI [47, 48] I I_18 → eqR [30, 31] R R_18 → (0 ≤ i18_7.toInt ∧ i18_7.toInt ≤ (f2 f x1).toInt ∧ itr (RA1 f n) ((f2 f x1).toInt - i18_7.toInt).toNat i18_5 e ∧ pw x3.toNatClampNeg R R_18 ∧ kn [30, 31] x3.toNatClampNeg R_18) → ml (mT g) d (mb_187 g).2 (18, [(0, .ref m0), (2, .int x2), (3, .int x3), (4, .int (f2 f x1)), (5, .int i18_5), (6, .int i18_6), (7, .int i18_7)], [], M_18) (fun v M' => ∃ (x : Int32) (I' : rI) (R' : rR), v = some (.int x) ∧ RS g m0 q z I' R' M' ∧ eqI [47, 48] I I' ∧ eqR [30, 31] R R' ∧ (x.toInt < 0 ∨ x = e) ∧ pw x3.toNatClampNeg R R' ∧ kn [30, 31] x3.toNatClampNeg R') := by
    intro n_18
    induction n_18 with
    | zero => intro i18_5 i18_6 i18_7 M_18 I_18 R_18 hn; exact (loop_zero hn).elim
    | succ n_18 ih_18 =>
      intro i18_5 i18_6 i18_7 M_18 I_18 R_18 hn_18 hR_18 hI_18 hV_18 hi_18
      obtain ⟨hk0, hk1, hit, hqw18, hkn18⟩ := hi_18
      refine ml_blk 2 (S' := (22, [(0, .ref m0), (2, .int x2), (3, .int x3), (4, .int (f2 f x1)), (5, .int i18_5), (6, .int i18_6), (7, .int i18_7)], [.int (f2 f x1), .int i18_7], M_18)) rfl ?_
      refine ml_if2 (S1 := (284, [(0, .ref m0), (2, .int x2), (3, .int x3), (4, .int (f2 f x1)), (5, .int i18_5), (6, .int i18_6), (7, .int i18_7)], [], M_18)) (S2 := (25, [(0, .ref m0), (2, .int x2), (3, .int x3), (4, .int (f2 f x1)), (5, .int i18_5), (6, .int i18_6), (7, .int i18_7)], [], M_18)) rfl rfl rfl (fun c_22 => ?_) (fun c_22 => ?_)
      · have c_22 : (f2 f x1) ≤ i18_7 := of_decide_eq_true c_22
        refine ml_st (S' := (286, [(0, .ref m0), (2, .int x2), (3, .int x3), (4, .int (f2 f x1)), (5, .int i18_5), (6, .int i18_6), (7, .int i18_7)], [.int i18_5], M_18)) rfl rfl rfl ?_
        exact ml_ret rfl (rfl) (⟨_, _, _, rfl, hR_18, (eqI.rf.tr hI_18 (by decide)), (eqR.rf.tr hV_18 (by decide)), ⟨Or.inr (itr_one hit (by have := i_le c_22; omega)).symm, (pw.rf.tr hqw18), hkn18⟩⟩)
      · have c_22 : ¬ ((f2 f x1) ≤ i18_7) := of_decide_eq_false c_22
        obtain ⟨b1, hb1, hnx⟩ := itr_next hit c_22
        have hb2 := hb1
        obtain ⟨g0, g1, g2, g3⟩ := hb2
        have ep2 : (i18_5 + 2).toInt = i18_5.toInt + 2 := i_add (by have : (2 : Int32).toInt = 2 := rfl; omega) (by have : (2 : Int32).toInt = 2 := rfl; omega)
        have ep6 : (i18_5 + 6).toInt = i18_5.toInt + 6 := i_add (by have : (6 : Int32).toInt = 6 := rfl; omega) (by have : (6 : Int32).toInt = 6 := rfl; omega)
        have hra := ra_of (f := f) hn g0 g2
        have hl0 := f4_pos (f := f) (x := i18_5 + 2)
        have hle : (i18_5 + 6 + Int64.toInt32 (f4 f (i18_5 + 2))).toInt = i18_5.toInt + 6 + (f4 f (i18_5 + 2)).toInt := by have di : (Int64.toInt32 (f4 f (i18_5 + 2))).toInt = (f4 f (i18_5 + 2)).toInt := i_of (by omega) (by omega); rw [i_add (by omega) (by omega), di, ep6]
        refine ml_blk 3 (S' := (29, [(0, .ref m0), (2, .int x2), (3, .int x3), (4, .int (f2 f x1)), (5, .int i18_5), (6, .int i18_6), (7, .int i18_7)], [.int 2, .int i18_5, .ref m0], M_18)) rfl ?_
        refine ml_st (S' := (30, [(0, .ref m0), (2, .int x2), (3, .int x3), (4, .int (f2 f x1)), (5, .int i18_5), (6, .int i18_6), (7, .int i18_7)], [.int (i18_5 + 2), .ref m0], M_18)) rfl rfl rfl ?_
        have hF14 : FK n f I_18 R_18 := (hF.mono (cIx hI_18 (by decide)) (cRx hV_18 (by decide)))
        refine ml_call (a := [.ref m0, .int (i18_5 + 2)]) (rest := []) rfl (hR_18.okc rfl rfl rfl) rfl rfl (rm_u4 hR_18 hF14 (by omega) (by omega) (by omega)) (fun v15 M16 h17 => ?_)
        obtain ⟨rfl, h17⟩ := h17
        rw [h17]
        show ml _ _ _ (33, [(0, .ref m0), (2, .int x2), (3, .int x3), (4, .int (f2 f x1)), (5, .int i18_5), (6, .int i18_6), (7, .int i18_7)], [.long (f4 f (i18_5 + 2))], M_18) _
        refine ml_st (S' := (34, [(0, .ref m0), (2, .int x2), (3, .int x3), (4, .int (f2 f x1)), (5, .int i18_5), (6, .int i18_6), (7, .int i18_7)], [.int (Int64.toInt32 (f4 f (i18_5 + 2)))], M_18)) rfl rfl rfl ?_
        refine ml_st (S' := (36, [(8, .int (Int64.toInt32 (f4 f (i18_5 + 2)))), (0, .ref m0), (2, .int x2), (3, .int x3), (4, .int (f2 f x1)), (5, .int i18_5), (6, .int i18_6), (7, .int i18_7)], [], M_18)) rfl rfl rfl ?_
        refine ml_blk 3 (S' := (40, [(8, .int (Int64.toInt32 (f4 f (i18_5 + 2)))), (0, .ref m0), (2, .int x2), (3, .int x3), (4, .int (f2 f x1)), (5, .int i18_5), (6, .int i18_6), (7, .int i18_7)], [.int i18_5, .ref m0, .ref m0], M_18)) rfl ?_
        refine ml_call (a := [.ref m0, .int i18_5]) (rest := [.ref m0]) rfl (hR_18.okc rfl rfl rfl) rfl rfl (rm_u2 hR_18 hF14 (g0) (by omega) (by omega)) (fun v18 M19 h20 => ?_)
        obtain ⟨rfl, h20⟩ := h20
        rw [h20]
        show ml _ _ _ (43, [(8, .int (Int64.toInt32 (f4 f (i18_5 + 2)))), (0, .ref m0), (2, .int x2), (3, .int x3), (4, .int (f2 f x1)), (5, .int i18_5), (6, .int i18_6), (7, .int i18_7)], [.int (f2 f i18_5), .ref m0], M_18) _
        have hP21 : PK n f S cp mj pa py I_18 R_18 := (hP.mono (cIx hI_18 (by decide)) (cRx hV_18 (by decide)))
        refine ml_call (a := [.ref m0, .int (f2 f i18_5)]) (rest := []) rfl (hR_18.okc rfl rfl rfl) rfl rfl (rm_tag hR_18 hF14 hP21 (by omega)) (fun v22 M23 h24 => ?_)
        obtain ⟨rfl, h24⟩ := h24
        rw [h24]
        show ml _ _ _ (46, [(8, .int (Int64.toInt32 (f4 f (i18_5 + 2)))), (0, .ref m0), (2, .int x2), (3, .int x3), (4, .int (f2 f x1)), (5, .int i18_5), (6, .int i18_6), (7, .int i18_7)], [.int (tgf f cp pa (f2 f i18_5))], M_18) _
        refine ml_st (S' := (47, [(8, .int (Int64.toInt32 (f4 f (i18_5 + 2)))), (0, .ref m0), (2, .int x2), (3, .int x3), (4, .int (f2 f x1)), (5, .int i18_5), (6, .int i18_6), (7, .int i18_7)], [.int 1, .int (tgf f cp pa (f2 f i18_5))], M_18)) rfl rfl rfl ?_
        refine ml_if2 (S1 := (61, [(8, .int (Int64.toInt32 (f4 f (i18_5 + 2)))), (0, .ref m0), (2, .int x2), (3, .int x3), (4, .int (f2 f x1)), (5, .int i18_5), (6, .int i18_6), (7, .int i18_7)], [], M_18)) (S2 := (50, [(8, .int (Int64.toInt32 (f4 f (i18_5 + 2)))), (0, .ref m0), (2, .int x2), (3, .int x3), (4, .int (f2 f x1)), (5, .int i18_5), (6, .int i18_6), (7, .int i18_7)], [], M_18)) rfl rfl rfl (fun c_47 => ?_) (fun c_47 => ?_)
        · have c_47 : (tgf f cp pa (f2 f i18_5)) = 1 := of_decide_eq_true c_47
          refine ml_blk 3 (S' := (65, [(8, .int (Int64.toInt32 (f4 f (i18_5 + 2)))), (0, .ref m0), (2, .int x2), (3, .int x3), (4, .int (f2 f x1)), (5, .int i18_5), (6, .int i18_6), (7, .int i18_7)], [.int i18_5, .ref m0, .ref m0], M_18)) rfl ?_
          refine ml_call (a := [.ref m0, .int i18_5]) (rest := [.ref m0]) rfl (hR_18.okc rfl rfl rfl) rfl rfl (rm_u2 hR_18 hF14 (g0) (by omega) (by omega)) (fun v25 M26 h27 => ?_)
          obtain ⟨rfl, h27⟩ := h27
          rw [h27]
          show ml _ _ _ (68, [(8, .int (Int64.toInt32 (f4 f (i18_5 + 2)))), (0, .ref m0), (2, .int x2), (3, .int x3), (4, .int (f2 f x1)), (5, .int i18_5), (6, .int i18_6), (7, .int i18_7)], [.int (f2 f i18_5), .ref m0], M_18) _
          refine ml_call (a := [.ref m0, .int (f2 f i18_5)]) (rest := []) rfl (hR_18.okc rfl rfl rfl) rfl rfl (rm_symOf hR_18 hP21 (c_47) (by omega)) (fun v28 M29 h30 => ?_)
          obtain ⟨rfl, h30⟩ := h30
          rw [h30]
          show ml _ _ _ (71, [(8, .int (Int64.toInt32 (f4 f (i18_5 + 2)))), (0, .ref m0), (2, .int x2), (3, .int x3), (4, .int (f2 f x1)), (5, .int i18_5), (6, .int i18_6), (7, .int i18_7)], [.int (pyf py (f2 f i18_5))], M_18) _
          refine ml_st (S' := (73, [(9, .int (pyf py (f2 f i18_5))), (8, .int (Int64.toInt32 (f4 f (i18_5 + 2)))), (0, .ref m0), (2, .int x2), (3, .int x3), (4, .int (f2 f x1)), (5, .int i18_5), (6, .int i18_6), (7, .int i18_7)], [], M_18)) rfl rfl rfl ?_
          have hy9 := hP.y (show tgf f cp pa (f2 f i18_5) = 1 from c_47)
          refine ml_st (S' := (74, [(9, .int (pyf py (f2 f i18_5))), (8, .int (Int64.toInt32 (f4 f (i18_5 + 2)))), (0, .ref m0), (2, .int x2), (3, .int x3), (4, .int (f2 f x1)), (5, .int i18_5), (6, .int i18_6), (7, .int i18_7)], [.int (-1)], M_18)) rfl rfl rfl ?_
          refine ml_st (S' := (76, [(10, .int (-1)), (9, .int (pyf py (f2 f i18_5))), (8, .int (Int64.toInt32 (f4 f (i18_5 + 2)))), (0, .ref m0), (2, .int x2), (3, .int x3), (4, .int (f2 f x1)), (5, .int i18_5), (6, .int i18_6), (7, .int i18_7)], [], M_18)) rfl rfl rfl ?_
          refine ml_st (S' := (77, [(10, .int (-1)), (9, .int (pyf py (f2 f i18_5))), (8, .int (Int64.toInt32 (f4 f (i18_5 + 2)))), (0, .ref m0), (2, .int x2), (3, .int x3), (4, .int (f2 f x1)), (5, .int i18_5), (6, .int i18_6), (7, .int i18_7)], [.int 0], M_18)) rfl rfl rfl ?_
          refine ml_st (S' := (79, [(0, .ref m0), (2, .int x2), (3, .int x3), (4, .int (f2 f x1)), (5, .int i18_5), (6, .int i18_6), (7, .int i18_7), (8, .int (Int64.toInt32 (f4 f (i18_5 + 2)))), (9, .int (pyf py (f2 f i18_5))), (10, .int (-1)), (11, .int 0)], [], M_18)) rfl rfl rfl ?_
          have L_79 : ∀ (n_79 : Nat) (i79_10 : Int32) (i79_11 : Int32), (2147483648 - i79_11.toInt).toNat ≤ n_79 → (0 ≤ i79_11.toInt ∧ (i79_10 < 0 ∨ (0 ≤ i79_10.toInt ∧ i79_10.toInt < 10 ∧ kin i79_10 = x2))) → ml (mT g) d (mb_187 g).2 (79, [(0, .ref m0), (2, .int x2), (3, .int x3), (4, .int (f2 f x1)), (5, .int i18_5), (6, .int i18_6), (7, .int i18_7), (8, .int (Int64.toInt32 (f4 f (i18_5 + 2)))), (9, .int (pyf py (f2 f i18_5))), (10, .int i79_10), (11, .int i79_11)], [], M_18) (fun v M' => ∃ (x : Int32) (I' : rI) (R' : rR), v = some (.int x) ∧ RS g m0 q z I' R' M' ∧ eqI [47, 48] I I' ∧ eqR [30, 31] R R' ∧ (x.toInt < 0 ∨ x = e) ∧ pw x3.toNatClampNeg R R' ∧ kn [30, 31] x3.toNatClampNeg R') := by
            intro n_79
            induction n_79 with
            | zero => intro i79_10 i79_11 hn; exact (loop_zero hn).elim
            | succ n_79 ih_79 =>
              intro i79_10 i79_11 hn_79 hi_79
              obtain ⟨hj0, hjw⟩ := hi_79
              refine ml_blk 2 (S' := (82, [(0, .ref m0), (2, .int x2), (3, .int x3), (4, .int (f2 f x1)), (5, .int i18_5), (6, .int i18_6), (7, .int i18_7), (8, .int (Int64.toInt32 (f4 f (i18_5 + 2)))), (9, .int (pyf py (f2 f i18_5))), (10, .int i79_10), (11, .int i79_11)], [.ref m0, .int i79_11], M_18)) rfl ?_
              refine rg_ref (S' := (85, [(0, .ref m0), (2, .int x2), (3, .int x3), (4, .int (f2 f x1)), (5, .int i18_5), (6, .int i18_6), (7, .int i18_7), (8, .int (Int64.toInt32 (f4 f (i18_5 + 2)))), (9, .int (pyf py (f2 f i18_5))), (10, .int i79_10), (11, .int i79_11)], [.ref (q 62), .int i79_11], M_18)) rfl hR_18 rfl rfl ?_
              refine rl_kn (S' := (86, [(0, .ref m0), (2, .int x2), (3, .int x3), (4, .int (f2 f x1)), (5, .int i18_5), (6, .int i18_6), (7, .int i18_7), (8, .int (Int64.toInt32 (f4 f (i18_5 + 2)))), (9, .int (pyf py (f2 f i18_5))), (10, .int i79_10), (11, .int i79_11)], [.int (nI 10), .int i79_11], M_18)) rfl hR_18 rfl ?_
              refine ml_if2 (S1 := (140, [(0, .ref m0), (2, .int x2), (3, .int x3), (4, .int (f2 f x1)), (5, .int i18_5), (6, .int i18_6), (7, .int i18_7), (8, .int (Int64.toInt32 (f4 f (i18_5 + 2)))), (9, .int (pyf py (f2 f i18_5))), (10, .int i79_10), (11, .int i79_11)], [], M_18)) (S2 := (89, [(0, .ref m0), (2, .int x2), (3, .int x3), (4, .int (f2 f x1)), (5, .int i18_5), (6, .int i18_6), (7, .int i18_7), (8, .int (Int64.toInt32 (f4 f (i18_5 + 2)))), (9, .int (pyf py (f2 f i18_5))), (10, .int i79_10), (11, .int i79_11)], [], M_18)) rfl rfl rfl (fun c_86 => ?_) (fun c_86 => ?_)
              · have c_86 : (nI 10) ≤ i79_11 := of_decide_eq_true c_86
                refine ml_st (S' := (142, [(0, .ref m0), (2, .int x2), (3, .int x3), (4, .int (f2 f x1)), (5, .int i18_5), (6, .int i18_6), (7, .int i18_7), (8, .int (Int64.toInt32 (f4 f (i18_5 + 2)))), (9, .int (pyf py (f2 f i18_5))), (10, .int i79_10), (11, .int i79_11)], [.int i79_10], M_18)) rfl rfl rfl ?_
                refine ml_if (S1 := (268, [(0, .ref m0), (2, .int x2), (3, .int x3), (4, .int (f2 f x1)), (5, .int i18_5), (6, .int i18_6), (7, .int i18_7), (8, .int (Int64.toInt32 (f4 f (i18_5 + 2))))], [], M_18)) (S2 := (145, [(0, .ref m0), (2, .int x2), (3, .int x3), (4, .int (f2 f x1)), (5, .int i18_5), (6, .int i18_6), (7, .int i18_7), (8, .int (Int64.toInt32 (f4 f (i18_5 + 2)))), (9, .int (pyf py (f2 f i18_5))), (10, .int i79_10), (11, .int i79_11)], [], M_18)) rfl rfl rfl (fun c_142 => ?_) (fun c_142 => ?_)
                · have c_142 : i79_10 < 0 := of_decide_eq_true c_142
                  refine ml_blk 3 (S' := (274, [(0, .ref m0), (2, .int x2), (3, .int x3), (4, .int (f2 f x1)), (5, .int i18_5), (6, .int i18_6), (7, .int i18_7), (8, .int (Int64.toInt32 (f4 f (i18_5 + 2))))], [.int (Int64.toInt32 (f4 f (i18_5 + 2))), .int 6, .int i18_5], M_18)) rfl ?_
                  refine ml_blk 2 (S' := (276, [(0, .ref m0), (2, .int x2), (3, .int x3), (4, .int (f2 f x1)), (5, .int i18_5), (6, .int i18_6), (7, .int i18_7), (8, .int (Int64.toInt32 (f4 f (i18_5 + 2))))], [.int (i18_5 + (6 + (Int64.toInt32 (f4 f (i18_5 + 2)))))], M_18)) rfl ?_
                  refine ml_st (S' := (278, [(5, .int (i18_5 + (6 + (Int64.toInt32 (f4 f (i18_5 + 2)))))), (0, .ref m0), (2, .int x2), (3, .int x3), (4, .int (f2 f x1)), (6, .int i18_6), (7, .int i18_7), (8, .int (Int64.toInt32 (f4 f (i18_5 + 2))))], [], M_18)) rfl rfl rfl ?_
                  refine ml_st (S' := (281, [(7, .int (i18_7 + 1)), (5, .int (i18_5 + (6 + (Int64.toInt32 (f4 f (i18_5 + 2)))))), (0, .ref m0), (2, .int x2), (3, .int x3), (4, .int (f2 f x1)), (6, .int i18_6), (8, .int (Int64.toInt32 (f4 f (i18_5 + 2))))], [], M_18)) rfl rfl rfl ?_
                  refine ml_st (S' := (18, [(0, .ref m0), (2, .int x2), (3, .int x3), (4, .int (f2 f x1)), (5, .int (i18_5 + (6 + (Int64.toInt32 (f4 f (i18_5 + 2)))))), (6, .int i18_6), (7, .int (i18_7 + 1))], [], M_18)) rfl rfl rfl ?_
                  exact ih_18 (i18_5 + (6 + (Int64.toInt32 (f4 f (i18_5 + 2))))) i18_6 (i18_7 + 1) _ _ _ (loop_inc (Int32.not_le.mp c_22) hn_18) hR_18 (eqI.rf.tr hI_18 (by decide)) (eqR.rf.tr hV_18 (by decide)) (⟨by rw [inc_lt (Int32.not_le.mp c_22)]; omega, by rw [inc_lt (Int32.not_le.mp c_22)]; have := i_nle c_22; omega, hb1.eq hra ▸ hnx, (pw.rf.tr hqw18), hkn18⟩)
                · have c_142 : ¬ (i79_10 < 0) := of_decide_eq_false c_142
                  have hwn := hjw.resolve_left c_142
                  refine ml_blk 2 (S' := (147, [(0, .ref m0), (2, .int x2), (3, .int x3), (4, .int (f2 f x1)), (5, .int i18_5), (6, .int i18_6), (7, .int i18_7), (8, .int (Int64.toInt32 (f4 f (i18_5 + 2)))), (9, .int (pyf py (f2 f i18_5))), (10, .int i79_10), (11, .int i79_11)], [.int 1, .int x2], M_18)) rfl ?_
                  refine ml_if2 (S1 := (160, [(0, .ref m0), (2, .int x2), (3, .int x3), (4, .int (f2 f x1)), (5, .int i18_5), (6, .int i18_6), (7, .int i18_7), (8, .int (Int64.toInt32 (f4 f (i18_5 + 2)))), (10, .int i79_10)], [], M_18)) (S2 := (150, [(0, .ref m0), (2, .int x2), (3, .int x3), (4, .int (f2 f x1)), (5, .int i18_5), (6, .int i18_6), (7, .int i18_7), (8, .int (Int64.toInt32 (f4 f (i18_5 + 2)))), (9, .int (pyf py (f2 f i18_5))), (10, .int i79_10), (11, .int i79_11)], [], M_18)) rfl rfl rfl (fun c_147 => ?_) (fun c_147 => ?_)
                  · exact absurd (of_decide_eq_true c_147) ((fun h => h hw))
                  refine ml_st (S' := (151, [(0, .ref m0), (2, .int x2), (3, .int x3), (4, .int (f2 f x1)), (5, .int i18_5), (6, .int i18_6), (7, .int i18_7), (8, .int (Int64.toInt32 (f4 f (i18_5 + 2)))), (9, .int (pyf py (f2 f i18_5))), (10, .int i79_10), (11, .int i79_11)], [.ref m0], M_18)) rfl rfl rfl ?_
                  refine rg_ref (S' := (154, [(0, .ref m0), (2, .int x2), (3, .int x3), (4, .int (f2 f x1)), (5, .int i18_5), (6, .int i18_6), (7, .int i18_7), (8, .int (Int64.toInt32 (f4 f (i18_5 + 2)))), (9, .int (pyf py (f2 f i18_5))), (10, .int i79_10), (11, .int i79_11)], [.ref (q 31)], M_18)) rfl hR_18 rfl rfl ?_
                  refine ml_blk 2 (S' := (156, [(0, .ref m0), (2, .int x2), (3, .int x3), (4, .int (f2 f x1)), (5, .int i18_5), (6, .int i18_6), (7, .int i18_7), (8, .int (Int64.toInt32 (f4 f (i18_5 + 2)))), (9, .int (pyf py (f2 f i18_5))), (10, .int i79_10), (11, .int i79_11)], [.int x3, .ref (q 31), .int x3, .ref (q 31)], M_18)) rfl ?_
                  obtain ⟨v156, hv156⟩ := hkn18 31 (by decide)
                  refine ra_ld (k := 31) (S' := (157, [(0, .ref m0), (2, .int x2), (3, .int x3), (4, .int (f2 f x1)), (5, .int i18_5), (6, .int i18_6), (7, .int i18_7), (8, .int (Int64.toInt32 (f4 f (i18_5 + 2)))), (9, .int (pyf py (f2 f i18_5))), (10, .int i79_10), (11, .int i79_11)], [.int v156, .int x3, .ref (q 31)], M_18)) rfl hR_18 rfl (vin_lt ho0 (by omega)) (hv156) rfl ?_
                  refine ml_blk 2 (S' := (159, [(0, .ref m0), (2, .int x2), (3, .int x3), (4, .int (f2 f x1)), (5, .int i18_5), (6, .int i18_6), (7, .int i18_7), (8, .int (Int64.toInt32 (f4 f (i18_5 + 2)))), (9, .int (pyf py (f2 f i18_5))), (10, .int i79_10), (11, .int i79_11)], [.int (v156 + 1), .int x3, .ref (q 31)], M_18)) rfl ?_
                  refine ra_st (k := 31) rfl hR_18 rfl (vin_lt ho0 (by omega)) (fun M31 R32 hR33 e34 g35 f36 => ?_)
                  show ml _ _ _ (160, [(0, .ref m0), (2, .int x2), (3, .int x3), (4, .int (f2 f x1)), (5, .int i18_5), (6, .int i18_6), (7, .int i18_7), (8, .int (Int64.toInt32 (f4 f (i18_5 + 2)))), (10, .int i79_10)], [], M31) _
                  refine ml_blk 2 (S' := (162, [(0, .ref m0), (2, .int x2), (3, .int x3), (4, .int (f2 f x1)), (5, .int i18_5), (6, .int i18_6), (7, .int i18_7), (8, .int (Int64.toInt32 (f4 f (i18_5 + 2)))), (10, .int i79_10)], [.int 2, .int x2], M31)) rfl ?_
                  refine ml_if2 (S1 := (175, [(0, .ref m0), (2, .int x2), (3, .int x3), (4, .int (f2 f x1)), (5, .int i18_5), (6, .int i18_6), (7, .int i18_7), (8, .int (Int64.toInt32 (f4 f (i18_5 + 2)))), (10, .int i79_10)], [], M31)) (S2 := (165, [(0, .ref m0), (2, .int x2), (3, .int x3), (4, .int (f2 f x1)), (5, .int i18_5), (6, .int i18_6), (7, .int i18_7), (8, .int (Int64.toInt32 (f4 f (i18_5 + 2)))), (10, .int i79_10)], [], M31)) rfl rfl rfl (fun c_162 => ?_) (fun c_162 => ?_)
                  rotate_left
                  · exact absurd ((by rw [hw]; decide : ¬ x2 = 2)) (of_decide_eq_false c_162)
                  refine ml_blk 2 (S' := (177, [(0, .ref m0), (2, .int x2), (3, .int x3), (4, .int (f2 f x1)), (5, .int i18_5), (6, .int i18_6), (7, .int i18_7), (8, .int (Int64.toInt32 (f4 f (i18_5 + 2)))), (10, .int i79_10)], [.int 4, .int x2], M31)) rfl ?_
                  refine ml_if2 (S1 := (190, [(0, .ref m0), (2, .int x2), (3, .int x3), (4, .int (f2 f x1)), (5, .int i18_5), (6, .int i18_6), (7, .int i18_7), (8, .int (Int64.toInt32 (f4 f (i18_5 + 2)))), (10, .int i79_10)], [], M31)) (S2 := (180, [(0, .ref m0), (2, .int x2), (3, .int x3), (4, .int (f2 f x1)), (5, .int i18_5), (6, .int i18_6), (7, .int i18_7), (8, .int (Int64.toInt32 (f4 f (i18_5 + 2)))), (10, .int i79_10)], [], M31)) rfl rfl rfl (fun c_177 => ?_) (fun c_177 => ?_)
                  rotate_left
                  · exact absurd ((by rw [hw]; decide : ¬ x2 = 4)) (of_decide_eq_false c_177)
                  refine ml_blk 3 (S' := (195, [(0, .ref m0), (2, .int x2), (3, .int x3), (4, .int (f2 f x1)), (5, .int i18_5), (6, .int i18_6), (7, .int i18_7), (8, .int (Int64.toInt32 (f4 f (i18_5 + 2)))), (10, .int i79_10)], [.int (i18_6 >>> (i79_10 &&& 31))], M31)) rfl ?_
                  refine ml_blk 3 (S' := (198, [(0, .ref m0), (2, .int x2), (3, .int x3), (4, .int (f2 f x1)), (5, .int i18_5), (6, .int i18_6), (7, .int i18_7), (8, .int (Int64.toInt32 (f4 f (i18_5 + 2)))), (10, .int i79_10)], [.int 1, .int ((i18_6 >>> (i79_10 &&& 31)) &&& 1)], M31)) rfl ?_
                  refine ml_if2 (S1 := (212, [(0, .ref m0), (2, .int x2), (3, .int x3), (4, .int (f2 f x1)), (5, .int i18_5), (6, .int i18_6), (7, .int i18_7), (8, .int (Int64.toInt32 (f4 f (i18_5 + 2)))), (10, .int i79_10)], [], M31)) (S2 := (201, [(0, .ref m0), (2, .int x2), (3, .int x3), (4, .int (f2 f x1)), (5, .int i18_5), (6, .int i18_6), (7, .int i18_7), (8, .int (Int64.toInt32 (f4 f (i18_5 + 2)))), (10, .int i79_10)], [], M31)) rfl rfl rfl (fun c_198 => ?_) (fun c_198 => ?_)
                  · have c_198 : ¬ ((i18_6 >>> (i79_10 &&& 31)) &&& 1) = 1 := of_decide_eq_true c_198
                    refine ml_blk 3 (S' := (217, [(0, .ref m0), (2, .int x2), (3, .int x3), (4, .int (f2 f x1)), (5, .int i18_5), (6, .int i18_6), (7, .int i18_7), (8, .int (Int64.toInt32 (f4 f (i18_5 + 2)))), (10, .int i79_10)], [.int i18_5, .int i79_10, .ref m0], M31)) rfl ?_
                    refine ml_blk 3 (S' := (222, [(0, .ref m0), (2, .int x2), (3, .int x3), (4, .int (f2 f x1)), (5, .int i18_5), (6, .int i18_6), (7, .int i18_7), (8, .int (Int64.toInt32 (f4 f (i18_5 + 2)))), (10, .int i79_10)], [.int (i18_5 + 6), .int i18_5, .int i79_10, .ref m0], M31)) rfl ?_
                    refine ml_blk 3 (S' := (227, [(0, .ref m0), (2, .int x2), (3, .int x3), (4, .int (f2 f x1)), (5, .int i18_5), (6, .int i18_6), (7, .int i18_7), (8, .int (Int64.toInt32 (f4 f (i18_5 + 2)))), (10, .int i79_10)], [.int (i18_5 + 6), .int (i18_5 + 6), .int i18_5, .int i79_10, .ref m0], M31)) rfl ?_
                    refine ml_blk 3 (S' := (231, [(0, .ref m0), (2, .int x2), (3, .int x3), (4, .int (f2 f x1)), (5, .int i18_5), (6, .int i18_6), (7, .int i18_7), (8, .int (Int64.toInt32 (f4 f (i18_5 + 2)))), (10, .int i79_10)], [.int x3, .int ((i18_5 + 6) + (Int64.toInt32 (f4 f (i18_5 + 2)))), .int (i18_5 + 6), .int i18_5, .int i79_10, .ref m0], M31)) rfl ?_
                    refine ml_st (S' := (233, [(0, .ref m0), (2, .int x2), (3, .int x3), (4, .int (f2 f x1)), (5, .int i18_5), (6, .int i18_6), (7, .int i18_7), (8, .int (Int64.toInt32 (f4 f (i18_5 + 2)))), (10, .int i79_10)], [.int i18_6, .int x3, .int ((i18_5 + 6) + (Int64.toInt32 (f4 f (i18_5 + 2)))), .int (i18_5 + 6), .int i18_5, .int i79_10, .ref m0], M31)) rfl rfl rfl ?_
                    have hF37 : FK n f I_18 R32 := (hF14.mono (fun _ _ => rfl) (pRx f36 (by decide)))
                    have hY38 : SK S cN sa sl ch I_18 R32 := ((hY.mono (cIx hI_18 (by decide)) (cRx hV_18 (by decide))).mono (fun _ _ => rfl) (pRx f36 (by decide)))
                    have hP39 : PK n f S cp mj pa py I_18 R32 := (hP21.mono (fun _ _ => rfl) (pRx f36 (by decide)))
                    refine ml_call (a := [.ref m0, .int i79_10, .int i18_5, .int (i18_5 + 6), .int ((i18_5 + 6) + (Int64.toInt32 (f4 f (i18_5 + 2)))), .int x3, .int i18_6]) (rest := []) rfl (hR33.okc rfl rfl rfl) rfl rfl (rm_attr0 hR33 hF37 hY38 hP39 (kin_1 (hwn.2.2.trans hw)) (by omega) (by rw [hle]; omega) (by rw [hle]; omega) (ho0) (ho1) ((congrFun ((f36 27 (by decide)).trans ((hV_18 27 (by decide)))) _).trans hfl) ((congrFun ((f36 29 (by decide)).trans ((hV_18 29 (by decide)))) _).trans hds) (hd0) (hd1) (hln) ((kn.st hkn18 e34 g35 f36)) (by omega)) (fun v40 M41 h42 => ?_)
                    obtain ⟨u48, I43, R44, rfl, hR45, hI46, hV47, w49⟩ := h42
                    show ml _ _ _ (236, [(0, .ref m0), (2, .int x2), (3, .int x3), (4, .int (f2 f x1)), (5, .int i18_5), (6, .int i18_6), (7, .int i18_7), (8, .int (Int64.toInt32 (f4 f (i18_5 + 2)))), (10, .int i79_10)], [.int u48], M41) _
                    obtain ⟨hp50, hk51⟩ := w49
                    refine ml_st (S' := (238, [(11, .int u48), (0, .ref m0), (2, .int x2), (3, .int x3), (4, .int (f2 f x1)), (5, .int i18_5), (6, .int i18_6), (7, .int i18_7), (8, .int (Int64.toInt32 (f4 f (i18_5 + 2)))), (10, .int i79_10)], [], M41)) rfl rfl rfl ?_
                    refine ml_blk 3 (S' := (243, [(11, .int u48), (0, .ref m0), (2, .int x2), (3, .int x3), (4, .int (f2 f x1)), (5, .int i18_5), (6, .int i18_6), (7, .int i18_7), (8, .int (Int64.toInt32 (f4 f (i18_5 + 2)))), (10, .int i79_10)], [.int i79_10, .int 1, .int i18_6], M41)) rfl ?_
                    refine ml_blk 2 (S' := (245, [(11, .int u48), (0, .ref m0), (2, .int x2), (3, .int x3), (4, .int (f2 f x1)), (5, .int i18_5), (6, .int i18_6), (7, .int i18_7), (8, .int (Int64.toInt32 (f4 f (i18_5 + 2)))), (10, .int i79_10)], [.int (i18_6 ||| (1 <<< (i79_10 &&& 31)))], M41)) rfl ?_
                    refine ml_st (S' := (247, [(6, .int (i18_6 ||| (1 <<< (i79_10 &&& 31)))), (11, .int u48), (0, .ref m0), (2, .int x2), (3, .int x3), (4, .int (f2 f x1)), (5, .int i18_5), (7, .int i18_7), (8, .int (Int64.toInt32 (f4 f (i18_5 + 2)))), (10, .int i79_10)], [], M41)) rfl rfl rfl ?_
                    refine ml_st (S' := (249, [(6, .int (i18_6 ||| (1 <<< (i79_10 &&& 31)))), (11, .int u48), (0, .ref m0), (2, .int x2), (3, .int x3), (4, .int (f2 f x1)), (5, .int i18_5), (7, .int i18_7), (8, .int (Int64.toInt32 (f4 f (i18_5 + 2)))), (10, .int i79_10)], [.int u48], M41)) rfl rfl rfl ?_
                    refine ml_if (S1 := (261, [(0, .ref m0), (2, .int x2), (3, .int x3), (4, .int (f2 f x1)), (5, .int i18_5), (6, .int (i18_6 ||| (1 <<< (i79_10 &&& 31)))), (7, .int i18_7), (8, .int (Int64.toInt32 (f4 f (i18_5 + 2)))), (11, .int u48)], [], M41)) (S2 := (252, [(6, .int (i18_6 ||| (1 <<< (i79_10 &&& 31)))), (11, .int u48), (0, .ref m0), (2, .int x2), (3, .int x3), (4, .int (f2 f x1)), (5, .int i18_5), (7, .int i18_7), (8, .int (Int64.toInt32 (f4 f (i18_5 + 2)))), (10, .int i79_10)], [], M41)) rfl rfl rfl (fun c_249 => ?_) (fun c_249 => ?_)
                    · have c_249 : u48 ≤ 0 := of_decide_eq_true c_249
                      refine ml_st (S' := (263, [(0, .ref m0), (2, .int x2), (3, .int x3), (4, .int (f2 f x1)), (5, .int i18_5), (6, .int (i18_6 ||| (1 <<< (i79_10 &&& 31)))), (7, .int i18_7), (8, .int (Int64.toInt32 (f4 f (i18_5 + 2)))), (11, .int u48)], [.int u48], M41)) rfl rfl rfl ?_
                      refine ml_if (S1 := (268, [(0, .ref m0), (2, .int x2), (3, .int x3), (4, .int (f2 f x1)), (5, .int i18_5), (6, .int (i18_6 ||| (1 <<< (i79_10 &&& 31)))), (7, .int i18_7), (8, .int (Int64.toInt32 (f4 f (i18_5 + 2))))], [], M41)) (S2 := (266, [(0, .ref m0), (2, .int x2), (3, .int x3), (4, .int (f2 f x1)), (5, .int i18_5), (6, .int (i18_6 ||| (1 <<< (i79_10 &&& 31)))), (7, .int i18_7), (8, .int (Int64.toInt32 (f4 f (i18_5 + 2)))), (11, .int u48)], [], M41)) rfl rfl rfl (fun c_263 => ?_) (fun c_263 => ?_)
                      · have c_263 : u48 = 0 := of_decide_eq_true c_263
                        refine ml_blk 3 (S' := (274, [(0, .ref m0), (2, .int x2), (3, .int x3), (4, .int (f2 f x1)), (5, .int i18_5), (6, .int (i18_6 ||| (1 <<< (i79_10 &&& 31)))), (7, .int i18_7), (8, .int (Int64.toInt32 (f4 f (i18_5 + 2))))], [.int (Int64.toInt32 (f4 f (i18_5 + 2))), .int 6, .int i18_5], M41)) rfl ?_
                        refine ml_blk 2 (S' := (276, [(0, .ref m0), (2, .int x2), (3, .int x3), (4, .int (f2 f x1)), (5, .int i18_5), (6, .int (i18_6 ||| (1 <<< (i79_10 &&& 31)))), (7, .int i18_7), (8, .int (Int64.toInt32 (f4 f (i18_5 + 2))))], [.int (i18_5 + (6 + (Int64.toInt32 (f4 f (i18_5 + 2)))))], M41)) rfl ?_
                        refine ml_st (S' := (278, [(5, .int (i18_5 + (6 + (Int64.toInt32 (f4 f (i18_5 + 2)))))), (0, .ref m0), (2, .int x2), (3, .int x3), (4, .int (f2 f x1)), (6, .int (i18_6 ||| (1 <<< (i79_10 &&& 31)))), (7, .int i18_7), (8, .int (Int64.toInt32 (f4 f (i18_5 + 2))))], [], M41)) rfl rfl rfl ?_
                        refine ml_st (S' := (281, [(7, .int (i18_7 + 1)), (5, .int (i18_5 + (6 + (Int64.toInt32 (f4 f (i18_5 + 2)))))), (0, .ref m0), (2, .int x2), (3, .int x3), (4, .int (f2 f x1)), (6, .int (i18_6 ||| (1 <<< (i79_10 &&& 31)))), (8, .int (Int64.toInt32 (f4 f (i18_5 + 2))))], [], M41)) rfl rfl rfl ?_
                        refine ml_st (S' := (18, [(0, .ref m0), (2, .int x2), (3, .int x3), (4, .int (f2 f x1)), (5, .int (i18_5 + (6 + (Int64.toInt32 (f4 f (i18_5 + 2)))))), (6, .int (i18_6 ||| (1 <<< (i79_10 &&& 31)))), (7, .int (i18_7 + 1))], [], M41)) rfl rfl rfl ?_
                        exact ih_18 (i18_5 + (6 + (Int64.toInt32 (f4 f (i18_5 + 2))))) (i18_6 ||| (1 <<< (i79_10 &&& 31))) (i18_7 + 1) _ _ _ (loop_inc (Int32.not_le.mp c_22) hn_18) hR45 ((eqI.rf.tr hI_18 (by decide)).tr hI46 (by decide)) (((eqR.rf.tr hV_18 (by decide)).put f36 (by decide)).tr hV47 (by decide)) (⟨by rw [inc_lt (Int32.not_le.mp c_22)]; omega, by rw [inc_lt (Int32.not_le.mp c_22)]; have := i_nle c_22; omega, hb1.eq hra ▸ hnx, (((pw.rf.tr hqw18).st g35 f36 rfl).tr hp50), hk51⟩)
                      · have c_263 : ¬ (u48 = 0) := of_decide_eq_false c_263
                        refine ml_st (S' := (267, [(0, .ref m0), (2, .int x2), (3, .int x3), (4, .int (f2 f x1)), (5, .int i18_5), (6, .int (i18_6 ||| (1 <<< (i79_10 &&& 31)))), (7, .int i18_7), (8, .int (Int64.toInt32 (f4 f (i18_5 + 2)))), (11, .int u48)], [.int (-1)], M41)) rfl rfl rfl ?_
                        exact ml_ret rfl (rfl) (⟨_, _, _, rfl, hR45, ((eqI.rf.tr hI_18 (by decide)).tr hI46 (by decide)), (((eqR.rf.tr hV_18 (by decide)).put f36 (by decide)).tr hV47 (by decide)), ⟨Or.inl (by decide), (((pw.rf.tr hqw18).st g35 f36 rfl).tr hp50), hk51⟩⟩)
                    · have c_249 : ¬ (u48 ≤ 0) := of_decide_eq_false c_249
                      refine ml_blk 3 (S' := (257, [(6, .int (i18_6 ||| (1 <<< (i79_10 &&& 31)))), (11, .int u48), (0, .ref m0), (2, .int x2), (3, .int x3), (4, .int (f2 f x1)), (5, .int i18_5), (7, .int i18_7), (8, .int (Int64.toInt32 (f4 f (i18_5 + 2)))), (10, .int i79_10)], [.int i18_5, .int u48, .ref m0], M41)) rfl ?_
                      refine ml_call (a := [.ref m0, .int u48, .int i18_5]) (rest := []) rfl (hR45.okc rfl rfl rfl) rfl rfl (rm_wrong hR45 (by omega)) (fun v52 M53 h54 => ?_)
                      obtain ⟨u60, I55, R56, rfl, hR57, hI58, hV59, z61, w62⟩ := h54
                      show ml _ _ _ (260, [(6, .int (i18_6 ||| (1 <<< (i79_10 &&& 31)))), (11, .int u48), (0, .ref m0), (2, .int x2), (3, .int x3), (4, .int (f2 f x1)), (5, .int i18_5), (7, .int i18_7), (8, .int (Int64.toInt32 (f4 f (i18_5 + 2)))), (10, .int i79_10)], [.int u60], M53) _
                      refine ml_st (S' := (261, [(0, .ref m0), (2, .int x2), (3, .int x3), (4, .int (f2 f x1)), (5, .int i18_5), (6, .int (i18_6 ||| (1 <<< (i79_10 &&& 31)))), (7, .int i18_7), (8, .int (Int64.toInt32 (f4 f (i18_5 + 2)))), (11, .int u48)], [], M53)) rfl rfl rfl ?_
                      refine ml_st (S' := (263, [(0, .ref m0), (2, .int x2), (3, .int x3), (4, .int (f2 f x1)), (5, .int i18_5), (6, .int (i18_6 ||| (1 <<< (i79_10 &&& 31)))), (7, .int i18_7), (8, .int (Int64.toInt32 (f4 f (i18_5 + 2)))), (11, .int u48)], [.int u48], M53)) rfl rfl rfl ?_
                      refine ml_if (S1 := (268, [(0, .ref m0), (2, .int x2), (3, .int x3), (4, .int (f2 f x1)), (5, .int i18_5), (6, .int (i18_6 ||| (1 <<< (i79_10 &&& 31)))), (7, .int i18_7), (8, .int (Int64.toInt32 (f4 f (i18_5 + 2))))], [], M53)) (S2 := (266, [(0, .ref m0), (2, .int x2), (3, .int x3), (4, .int (f2 f x1)), (5, .int i18_5), (6, .int (i18_6 ||| (1 <<< (i79_10 &&& 31)))), (7, .int i18_7), (8, .int (Int64.toInt32 (f4 f (i18_5 + 2)))), (11, .int u48)], [], M53)) rfl rfl rfl (fun c_263 => ?_) (fun c_263 => ?_)
                      · have c_263 : u48 = 0 := of_decide_eq_true c_263
                        refine ml_blk 3 (S' := (274, [(0, .ref m0), (2, .int x2), (3, .int x3), (4, .int (f2 f x1)), (5, .int i18_5), (6, .int (i18_6 ||| (1 <<< (i79_10 &&& 31)))), (7, .int i18_7), (8, .int (Int64.toInt32 (f4 f (i18_5 + 2))))], [.int (Int64.toInt32 (f4 f (i18_5 + 2))), .int 6, .int i18_5], M53)) rfl ?_
                        refine ml_blk 2 (S' := (276, [(0, .ref m0), (2, .int x2), (3, .int x3), (4, .int (f2 f x1)), (5, .int i18_5), (6, .int (i18_6 ||| (1 <<< (i79_10 &&& 31)))), (7, .int i18_7), (8, .int (Int64.toInt32 (f4 f (i18_5 + 2))))], [.int (i18_5 + (6 + (Int64.toInt32 (f4 f (i18_5 + 2)))))], M53)) rfl ?_
                        refine ml_st (S' := (278, [(5, .int (i18_5 + (6 + (Int64.toInt32 (f4 f (i18_5 + 2)))))), (0, .ref m0), (2, .int x2), (3, .int x3), (4, .int (f2 f x1)), (6, .int (i18_6 ||| (1 <<< (i79_10 &&& 31)))), (7, .int i18_7), (8, .int (Int64.toInt32 (f4 f (i18_5 + 2))))], [], M53)) rfl rfl rfl ?_
                        refine ml_st (S' := (281, [(7, .int (i18_7 + 1)), (5, .int (i18_5 + (6 + (Int64.toInt32 (f4 f (i18_5 + 2)))))), (0, .ref m0), (2, .int x2), (3, .int x3), (4, .int (f2 f x1)), (6, .int (i18_6 ||| (1 <<< (i79_10 &&& 31)))), (8, .int (Int64.toInt32 (f4 f (i18_5 + 2))))], [], M53)) rfl rfl rfl ?_
                        refine ml_st (S' := (18, [(0, .ref m0), (2, .int x2), (3, .int x3), (4, .int (f2 f x1)), (5, .int (i18_5 + (6 + (Int64.toInt32 (f4 f (i18_5 + 2)))))), (6, .int (i18_6 ||| (1 <<< (i79_10 &&& 31)))), (7, .int (i18_7 + 1))], [], M53)) rfl rfl rfl ?_
                        exact ih_18 (i18_5 + (6 + (Int64.toInt32 (f4 f (i18_5 + 2))))) (i18_6 ||| (1 <<< (i79_10 &&& 31))) (i18_7 + 1) _ _ _ (loop_inc (Int32.not_le.mp c_22) hn_18) hR57 (((eqI.rf.tr hI_18 (by decide)).tr hI46 (by decide)).tr hI58 (by decide)) ((((eqR.rf.tr hV_18 (by decide)).put f36 (by decide)).tr hV47 (by decide)).tr hV59 (by decide)) (⟨by rw [inc_lt (Int32.not_le.mp c_22)]; omega, by rw [inc_lt (Int32.not_le.mp c_22)]; have := i_nle c_22; omega, hb1.eq hra ▸ hnx, ((((pw.rf.tr hqw18).st g35 f36 rfl).tr hp50).eq hV59), (kn.eq hk51 hV59 (by decide))⟩)
                      · have c_263 : ¬ (u48 = 0) := of_decide_eq_false c_263
                        refine ml_st (S' := (267, [(0, .ref m0), (2, .int x2), (3, .int x3), (4, .int (f2 f x1)), (5, .int i18_5), (6, .int (i18_6 ||| (1 <<< (i79_10 &&& 31)))), (7, .int i18_7), (8, .int (Int64.toInt32 (f4 f (i18_5 + 2)))), (11, .int u48)], [.int (-1)], M53)) rfl rfl rfl ?_
                        exact ml_ret rfl (rfl) (⟨_, _, _, rfl, hR57, (((eqI.rf.tr hI_18 (by decide)).tr hI46 (by decide)).tr hI58 (by decide)), ((((eqR.rf.tr hV_18 (by decide)).put f36 (by decide)).tr hV47 (by decide)).tr hV59 (by decide)), ⟨Or.inl (by decide), ((((pw.rf.tr hqw18).st g35 f36 rfl).tr hp50).eq hV59), (kn.eq hk51 hV59 (by decide))⟩⟩)
                  · have c_198 : ¬ (¬ ((i18_6 >>> (i79_10 &&& 31)) &&& 1) = 1) := of_decide_eq_false c_198
                    refine ml_blk 3 (S' := (206, [(0, .ref m0), (2, .int x2), (3, .int x3), (4, .int (f2 f x1)), (5, .int i18_5), (6, .int i18_6), (7, .int i18_7), (8, .int (Int64.toInt32 (f4 f (i18_5 + 2)))), (10, .int i79_10)], [.int i18_5, .int 29, .ref m0], M31)) rfl ?_
                    refine ml_call (a := [.ref m0, .int 29, .int i18_5]) (rest := []) rfl (hR33.okc rfl rfl rfl) rfl rfl (rm_wrong hR33 (by omega)) (fun v63 M64 h65 => ?_)
                    obtain ⟨u71, I66, R67, rfl, hR68, hI69, hV70, z72, w73⟩ := h65
                    show ml _ _ _ (209, [(0, .ref m0), (2, .int x2), (3, .int x3), (4, .int (f2 f x1)), (5, .int i18_5), (6, .int i18_6), (7, .int i18_7), (8, .int (Int64.toInt32 (f4 f (i18_5 + 2)))), (10, .int i79_10)], [.int u71], M64) _
                    refine ml_blk 2 (S' := (211, [(0, .ref m0), (2, .int x2), (3, .int x3), (4, .int (f2 f x1)), (5, .int i18_5), (6, .int i18_6), (7, .int i18_7), (8, .int (Int64.toInt32 (f4 f (i18_5 + 2)))), (10, .int i79_10)], [.int (-1)], M64)) rfl ?_
                    exact ml_ret rfl (rfl) (⟨_, _, _, rfl, hR68, ((eqI.rf.tr hI_18 (by decide)).tr hI69 (by decide)), (((eqR.rf.tr hV_18 (by decide)).put f36 (by decide)).tr hV70 (by decide)), ⟨Or.inl (by decide), (((pw.rf.tr hqw18).st g35 f36 rfl).eq hV70), (kn.eq (kn.st hkn18 e34 g35 f36) hV70 (by decide))⟩⟩)
              · have c_86 : ¬ ((nI 10) ≤ i79_11) := of_decide_eq_false c_86
                have hjl : i79_11.toInt < 10 := by have q := i_nle c_86; rw [nI_val (by decide)] at q; omega
                refine ml_st (S' := (90, [(0, .ref m0), (2, .int x2), (3, .int x3), (4, .int (f2 f x1)), (5, .int i18_5), (6, .int i18_6), (7, .int i18_7), (8, .int (Int64.toInt32 (f4 f (i18_5 + 2)))), (9, .int (pyf py (f2 f i18_5))), (10, .int i79_10), (11, .int i79_11)], [.ref m0], M_18)) rfl rfl rfl ?_
                refine rg_ref (S' := (93, [(0, .ref m0), (2, .int x2), (3, .int x3), (4, .int (f2 f x1)), (5, .int i18_5), (6, .int i18_6), (7, .int i18_7), (8, .int (Int64.toInt32 (f4 f (i18_5 + 2)))), (9, .int (pyf py (f2 f i18_5))), (10, .int i79_10), (11, .int i79_11)], [.ref (q 63)], M_18)) rfl hR_18 rfl rfl ?_
                refine ml_st (S' := (95, [(0, .ref m0), (2, .int x2), (3, .int x3), (4, .int (f2 f x1)), (5, .int i18_5), (6, .int i18_6), (7, .int i18_7), (8, .int (Int64.toInt32 (f4 f (i18_5 + 2)))), (9, .int (pyf py (f2 f i18_5))), (10, .int i79_10), (11, .int i79_11)], [.int i79_11, .ref (q 63)], M_18)) rfl rfl rfl ?_
                have hK74 : KW I_18 R_18 := (hK.mono (cIx hI_18 (by decide)) (cRx hV_18 (by decide)))
                refine ra_ld (k := 63) (S' := (96, [(0, .ref m0), (2, .int x2), (3, .int x3), (4, .int (f2 f x1)), (5, .int i18_5), (6, .int i18_6), (7, .int i18_7), (8, .int (Int64.toInt32 (f4 f (i18_5 + 2)))), (9, .int (pyf py (f2 f i18_5))), (10, .int i79_10), (11, .int i79_11)], [.int (kin i79_11)], M_18)) rfl hR_18 rfl (vin_lt hj0 (by omega)) (hK74.1 i79_11 hj0 hjl) rfl ?_
                refine ml_st (S' := (97, [(0, .ref m0), (2, .int x2), (3, .int x3), (4, .int (f2 f x1)), (5, .int i18_5), (6, .int i18_6), (7, .int i18_7), (8, .int (Int64.toInt32 (f4 f (i18_5 + 2)))), (9, .int (pyf py (f2 f i18_5))), (10, .int i79_10), (11, .int i79_11)], [.int x2, .int (kin i79_11)], M_18)) rfl rfl rfl ?_
                refine ml_if2 (S1 := (134, [(0, .ref m0), (2, .int x2), (3, .int x3), (4, .int (f2 f x1)), (5, .int i18_5), (6, .int i18_6), (7, .int i18_7), (8, .int (Int64.toInt32 (f4 f (i18_5 + 2)))), (9, .int (pyf py (f2 f i18_5))), (10, .int i79_10), (11, .int i79_11)], [], M_18)) (S2 := (100, [(0, .ref m0), (2, .int x2), (3, .int x3), (4, .int (f2 f x1)), (5, .int i18_5), (6, .int i18_6), (7, .int i18_7), (8, .int (Int64.toInt32 (f4 f (i18_5 + 2)))), (9, .int (pyf py (f2 f i18_5))), (10, .int i79_10), (11, .int i79_11)], [], M_18)) rfl rfl rfl (fun c_97 => ?_) (fun c_97 => ?_)
                · have c_97 : ¬ (kin i79_11) = x2 := of_decide_eq_true c_97
                  refine ml_st (S' := (137, [(11, .int (i79_11 + 1)), (0, .ref m0), (2, .int x2), (3, .int x3), (4, .int (f2 f x1)), (5, .int i18_5), (6, .int i18_6), (7, .int i18_7), (8, .int (Int64.toInt32 (f4 f (i18_5 + 2)))), (9, .int (pyf py (f2 f i18_5))), (10, .int i79_10)], [], M_18)) rfl rfl rfl ?_
                  refine ml_st (S' := (79, [(0, .ref m0), (2, .int x2), (3, .int x3), (4, .int (f2 f x1)), (5, .int i18_5), (6, .int i18_6), (7, .int i18_7), (8, .int (Int64.toInt32 (f4 f (i18_5 + 2)))), (9, .int (pyf py (f2 f i18_5))), (10, .int i79_10), (11, .int (i79_11 + 1))], [], M_18)) rfl rfl rfl ?_
                  exact ih_79 i79_10 (i79_11 + 1) (loop_inc (Int32.not_le.mp c_86) hn_79) (⟨by rw [inc_lt (Int32.not_le.mp c_86)]; omega, hjw⟩)
                · have c_97 : ¬ (¬ (kin i79_11) = x2) := of_decide_eq_false c_97
                  refine ml_st (S' := (101, [(0, .ref m0), (2, .int x2), (3, .int x3), (4, .int (f2 f x1)), (5, .int i18_5), (6, .int i18_6), (7, .int i18_7), (8, .int (Int64.toInt32 (f4 f (i18_5 + 2)))), (9, .int (pyf py (f2 f i18_5))), (10, .int i79_10), (11, .int i79_11)], [.ref m0], M_18)) rfl rfl rfl ?_
                  refine rg_int (S' := (104, [(0, .ref m0), (2, .int x2), (3, .int x3), (4, .int (f2 f x1)), (5, .int i18_5), (6, .int i18_6), (7, .int i18_7), (8, .int (Int64.toInt32 (f4 f (i18_5 + 2)))), (9, .int (pyf py (f2 f i18_5))), (10, .int i79_10), (11, .int i79_11)], [.int mj], M_18)) rfl hR_18 rfl ((hI_18 53 (by decide)).trans (hP.2.2.1)) rfl ?_
                  refine ml_st (S' := (105, [(0, .ref m0), (2, .int x2), (3, .int x3), (4, .int (f2 f x1)), (5, .int i18_5), (6, .int i18_6), (7, .int i18_7), (8, .int (Int64.toInt32 (f4 f (i18_5 + 2)))), (9, .int (pyf py (f2 f i18_5))), (10, .int i79_10), (11, .int i79_11)], [.ref m0, .int mj], M_18)) rfl rfl rfl ?_
                  refine rg_ref (S' := (108, [(0, .ref m0), (2, .int x2), (3, .int x3), (4, .int (f2 f x1)), (5, .int i18_5), (6, .int i18_6), (7, .int i18_7), (8, .int (Int64.toInt32 (f4 f (i18_5 + 2)))), (9, .int (pyf py (f2 f i18_5))), (10, .int i79_10), (11, .int i79_11)], [.ref (q 64), .int mj], M_18)) rfl hR_18 rfl rfl ?_
                  refine ml_st (S' := (110, [(0, .ref m0), (2, .int x2), (3, .int x3), (4, .int (f2 f x1)), (5, .int i18_5), (6, .int i18_6), (7, .int i18_7), (8, .int (Int64.toInt32 (f4 f (i18_5 + 2)))), (9, .int (pyf py (f2 f i18_5))), (10, .int i79_10), (11, .int i79_11)], [.int i79_11, .ref (q 64), .int mj], M_18)) rfl rfl rfl ?_
                  obtain ⟨v110, hv110⟩ := hK74.2 i79_11 hj0 hjl
                  refine ra_ld (k := 64) (S' := (111, [(0, .ref m0), (2, .int x2), (3, .int x3), (4, .int (f2 f x1)), (5, .int i18_5), (6, .int i18_6), (7, .int i18_7), (8, .int (Int64.toInt32 (f4 f (i18_5 + 2)))), (9, .int (pyf py (f2 f i18_5))), (10, .int i79_10), (11, .int i79_11)], [.int v110, .int mj], M_18)) rfl hR_18 rfl (vin_lt hj0 (by omega)) (hv110) rfl ?_
                  refine ml_if2 (S1 := (134, [(0, .ref m0), (2, .int x2), (3, .int x3), (4, .int (f2 f x1)), (5, .int i18_5), (6, .int i18_6), (7, .int i18_7), (8, .int (Int64.toInt32 (f4 f (i18_5 + 2)))), (9, .int (pyf py (f2 f i18_5))), (10, .int i79_10), (11, .int i79_11)], [], M_18)) (S2 := (114, [(0, .ref m0), (2, .int x2), (3, .int x3), (4, .int (f2 f x1)), (5, .int i18_5), (6, .int i18_6), (7, .int i18_7), (8, .int (Int64.toInt32 (f4 f (i18_5 + 2)))), (9, .int (pyf py (f2 f i18_5))), (10, .int i79_10), (11, .int i79_11)], [], M_18)) rfl rfl rfl (fun c_111 => ?_) (fun c_111 => ?_)
                  · have c_111 : mj < v110 := of_decide_eq_true c_111
                    refine ml_st (S' := (137, [(11, .int (i79_11 + 1)), (0, .ref m0), (2, .int x2), (3, .int x3), (4, .int (f2 f x1)), (5, .int i18_5), (6, .int i18_6), (7, .int i18_7), (8, .int (Int64.toInt32 (f4 f (i18_5 + 2)))), (9, .int (pyf py (f2 f i18_5))), (10, .int i79_10)], [], M_18)) rfl rfl rfl ?_
                    refine ml_st (S' := (79, [(0, .ref m0), (2, .int x2), (3, .int x3), (4, .int (f2 f x1)), (5, .int i18_5), (6, .int i18_6), (7, .int i18_7), (8, .int (Int64.toInt32 (f4 f (i18_5 + 2)))), (9, .int (pyf py (f2 f i18_5))), (10, .int i79_10), (11, .int (i79_11 + 1))], [], M_18)) rfl rfl rfl ?_
                    exact ih_79 i79_10 (i79_11 + 1) (loop_inc (Int32.not_le.mp c_86) hn_79) (⟨by rw [inc_lt (Int32.not_le.mp c_86)]; omega, hjw⟩)
                  · have c_111 : ¬ (mj < v110) := of_decide_eq_false c_111
                    refine ml_blk 3 (S' := (118, [(0, .ref m0), (2, .int x2), (3, .int x3), (4, .int (f2 f x1)), (5, .int i18_5), (6, .int i18_6), (7, .int i18_7), (8, .int (Int64.toInt32 (f4 f (i18_5 + 2)))), (9, .int (pyf py (f2 f i18_5))), (10, .int i79_10), (11, .int i79_11)], [.ref m0, .int (pyf py (f2 f i18_5)), .ref m0], M_18)) rfl ?_
                    refine rg_ref (S' := (121, [(0, .ref m0), (2, .int x2), (3, .int x3), (4, .int (f2 f x1)), (5, .int i18_5), (6, .int i18_6), (7, .int i18_7), (8, .int (Int64.toInt32 (f4 f (i18_5 + 2)))), (9, .int (pyf py (f2 f i18_5))), (10, .int i79_10), (11, .int i79_11)], [.ref (q 62), .int (pyf py (f2 f i18_5)), .ref m0], M_18)) rfl hR_18 rfl rfl ?_
                    refine ml_st (S' := (123, [(0, .ref m0), (2, .int x2), (3, .int x3), (4, .int (f2 f x1)), (5, .int i18_5), (6, .int i18_6), (7, .int i18_7), (8, .int (Int64.toInt32 (f4 f (i18_5 + 2)))), (9, .int (pyf py (f2 f i18_5))), (10, .int i79_10), (11, .int i79_11)], [.int i79_11, .ref (q 62), .int (pyf py (f2 f i18_5)), .ref m0], M_18)) rfl rfl rfl ?_
                    refine ra_kn (S' := (124, [(0, .ref m0), (2, .int x2), (3, .int x3), (4, .int (f2 f x1)), (5, .int i18_5), (6, .int i18_6), (7, .int i18_7), (8, .int (Int64.toInt32 (f4 f (i18_5 + 2)))), (9, .int (pyf py (f2 f i18_5))), (10, .int i79_10), (11, .int i79_11)], [.ref (g.2.1 (15 + Int32.toNatClampNeg i79_11)), .int (pyf py (f2 f i18_5)), .ref m0], M_18)) rfl hR_18 hj0 hjl rfl ?_
                    have hY75 : SK S cN sa sl ch I_18 R_18 := (hY.mono (cIx hI_18 (by decide)) (cRx hV_18 (by decide)))
                    refine ml_call (a := [.ref m0, .int (pyf py (f2 f i18_5)), .ref (g.2.1 (15 + Int32.toNatClampNeg i79_11))]) (rest := []) rfl (hR_18.okc rfl rfl rfl) rfl rfl (rm_is hR_18 hY75 (hy9.2.2.1) (hy9.2.2.2) (by show 15 ≤ 15 + i79_11.toInt.toNat ∧ 15 + i79_11.toInt.toNat < 30; omega) (by omega)) (fun v76 M77 h78 => ?_)
                    obtain ⟨⟨u79, rfl, z80⟩, h78⟩ := h78
                    rw [h78]
                    show ml _ _ _ (127, [(0, .ref m0), (2, .int x2), (3, .int x3), (4, .int (f2 f x1)), (5, .int i18_5), (6, .int i18_6), (7, .int i18_7), (8, .int (Int64.toInt32 (f4 f (i18_5 + 2)))), (9, .int (pyf py (f2 f i18_5))), (10, .int i79_10), (11, .int i79_11)], [.int u79], M_18) _
                    refine ml_if (S1 := (134, [(0, .ref m0), (2, .int x2), (3, .int x3), (4, .int (f2 f x1)), (5, .int i18_5), (6, .int i18_6), (7, .int i18_7), (8, .int (Int64.toInt32 (f4 f (i18_5 + 2)))), (9, .int (pyf py (f2 f i18_5))), (10, .int i79_10), (11, .int i79_11)], [], M_18)) (S2 := (130, [(0, .ref m0), (2, .int x2), (3, .int x3), (4, .int (f2 f x1)), (5, .int i18_5), (6, .int i18_6), (7, .int i18_7), (8, .int (Int64.toInt32 (f4 f (i18_5 + 2)))), (9, .int (pyf py (f2 f i18_5))), (10, .int i79_10), (11, .int i79_11)], [], M_18)) rfl rfl rfl (fun c_127 => ?_) (fun c_127 => ?_)
                    · have c_127 : u79 = 0 := of_decide_eq_true c_127
                      refine ml_st (S' := (137, [(11, .int (i79_11 + 1)), (0, .ref m0), (2, .int x2), (3, .int x3), (4, .int (f2 f x1)), (5, .int i18_5), (6, .int i18_6), (7, .int i18_7), (8, .int (Int64.toInt32 (f4 f (i18_5 + 2)))), (9, .int (pyf py (f2 f i18_5))), (10, .int i79_10)], [], M_18)) rfl rfl rfl ?_
                      refine ml_st (S' := (79, [(0, .ref m0), (2, .int x2), (3, .int x3), (4, .int (f2 f x1)), (5, .int i18_5), (6, .int i18_6), (7, .int i18_7), (8, .int (Int64.toInt32 (f4 f (i18_5 + 2)))), (9, .int (pyf py (f2 f i18_5))), (10, .int i79_10), (11, .int (i79_11 + 1))], [], M_18)) rfl rfl rfl ?_
                      exact ih_79 i79_10 (i79_11 + 1) (loop_inc (Int32.not_le.mp c_86) hn_79) (⟨by rw [inc_lt (Int32.not_le.mp c_86)]; omega, hjw⟩)
                    · have c_127 : ¬ (u79 = 0) := of_decide_eq_false c_127
                      refine ml_st (S' := (132, [(0, .ref m0), (2, .int x2), (3, .int x3), (4, .int (f2 f x1)), (5, .int i18_5), (6, .int i18_6), (7, .int i18_7), (8, .int (Int64.toInt32 (f4 f (i18_5 + 2)))), (9, .int (pyf py (f2 f i18_5))), (10, .int i79_10), (11, .int i79_11)], [.int i79_11], M_18)) rfl rfl rfl ?_
                      refine ml_st (S' := (134, [(0, .ref m0), (2, .int x2), (3, .int x3), (4, .int (f2 f x1)), (5, .int i18_5), (6, .int i18_6), (7, .int i18_7), (8, .int (Int64.toInt32 (f4 f (i18_5 + 2)))), (9, .int (pyf py (f2 f i18_5))), (10, .int i79_11), (11, .int i79_11)], [], M_18)) rfl rfl rfl ?_
                      refine ml_st (S' := (137, [(11, .int (i79_11 + 1)), (0, .ref m0), (2, .int x2), (3, .int x3), (4, .int (f2 f x1)), (5, .int i18_5), (6, .int i18_6), (7, .int i18_7), (8, .int (Int64.toInt32 (f4 f (i18_5 + 2)))), (9, .int (pyf py (f2 f i18_5))), (10, .int i79_11)], [], M_18)) rfl rfl rfl ?_
                      refine ml_st (S' := (79, [(0, .ref m0), (2, .int x2), (3, .int x3), (4, .int (f2 f x1)), (5, .int i18_5), (6, .int i18_6), (7, .int i18_7), (8, .int (Int64.toInt32 (f4 f (i18_5 + 2)))), (9, .int (pyf py (f2 f i18_5))), (10, .int i79_11), (11, .int (i79_11 + 1))], [], M_18)) rfl rfl rfl ?_
                      exact ih_79 i79_11 (i79_11 + 1) (loop_inc (Int32.not_le.mp c_86) hn_79) (⟨by rw [inc_lt (Int32.not_le.mp c_86)]; omega, Or.inr ⟨hj0, hjl, Decidable.not_not.mp c_97⟩⟩)
          exact L_79 _ (-1) 0 (Nat.le_refl _) (⟨by decide, Or.inl (by decide)⟩)
        · have c_47 : ¬ ((tgf f cp pa (f2 f i18_5)) = 1) := of_decide_eq_false c_47
          refine ml_blk 3 (S' := (55, [(8, .int (Int64.toInt32 (f4 f (i18_5 + 2)))), (0, .ref m0), (2, .int x2), (3, .int x3), (4, .int (f2 f x1)), (5, .int i18_5), (6, .int i18_6), (7, .int i18_7)], [.int i18_5, .int 28, .ref m0], M_18)) rfl ?_
          refine ml_call (a := [.ref m0, .int 28, .int i18_5]) (rest := []) rfl (hR_18.okc rfl rfl rfl) rfl rfl (rm_wrong hR_18 (by omega)) (fun v81 M82 h83 => ?_)
          obtain ⟨u89, I84, R85, rfl, hR86, hI87, hV88, z90, w91⟩ := h83
          show ml _ _ _ (58, [(8, .int (Int64.toInt32 (f4 f (i18_5 + 2)))), (0, .ref m0), (2, .int x2), (3, .int x3), (4, .int (f2 f x1)), (5, .int i18_5), (6, .int i18_6), (7, .int i18_7)], [.int u89], M82) _
          refine ml_blk 2 (S' := (60, [(8, .int (Int64.toInt32 (f4 f (i18_5 + 2)))), (0, .ref m0), (2, .int x2), (3, .int x3), (4, .int (f2 f x1)), (5, .int i18_5), (6, .int i18_6), (7, .int i18_7)], [.int (-1)], M82)) rfl ?_
          exact ml_ret rfl (rfl) (⟨_, _, _, rfl, hR86, ((eqI.rf.tr hI_18 (by decide)).tr hI87 (by decide)), ((eqR.rf.tr hV_18 (by decide)).tr hV88 (by decide)), ⟨Or.inl (by decide), ((pw.rf.tr hqw18).eq hV88), (kn.eq hkn18 hV88 (by decide))⟩⟩)
  exact L_18 _ (x1 + 2) 0 0 _ _ _ (Nat.le_refl _) hR eqI.rf eqR.rf (⟨by decide, by show (0 : Int) ≤ _; exact f2_pos, by rw [show ((f2 f x1).toInt - (0 : Int32).toInt).toNat = (f2 f x1).toInt.toNat by have : (0 : Int32).toInt = 0 := rfl; omega]; exact hat.2.2.1, pw.rf, hkn⟩)
