section
set_option maxHeartbeats 2000000 in
theorem rm_attr0 {g : xe_G}  {m0 : Nat} {q : Nat → Nat} {z : Nat × Nat} {I : rI} {R : rR} {M : mi_H} {x1 x2 x3 x4 x5 x6 : Int32} {n : Nat} {f : Nat → Int32} {S cN : Nat} {sa sl ch : Nat → Int32} {cp mj : Int32} {pa py : Nat → Int32} {fl ds : Int32}  (hR : RS g m0 q z I R M) (hF : FK n f I R) (hY : SK S cN sa sl ch I R) (hP : PK n f S cp mj pa py I R) (hw : x1 = 0) (h0 : 0 ≤ x3.toInt) (h1 : x3.toInt ≤ x4.toInt) (h2 : x4.toInt ≤ n) (ho0 : 0 ≤ x5.toInt) (ho1 : x5.toInt < 8300) (hfl : R 27 x5.toNatClampNeg = some fl) (hds : R 29 x5.toNatClampNeg = some ds) (hd0 : 0 ≤ ds.toInt) (hd1 : ds.toInt < S) (hln : 0 < (sL sl ds).toInt) (hkn : kn [30, 31] x5.toNatClampNeg R) {d : Nat} (hd : 6 ≤ d) : mt (mT g) d 177 [.ref m0, .int x1, .int x2, .int x3, .int x4, .int x5, .int x6] M (fun v M' => ∃ (x : Int32) (I' : rI) (R' : rR), v = some (.int x) ∧ RS g m0 q z I' R' M' ∧ eqI [] I I' ∧ eqR [30] R R' ∧ pw x5.toNatClampNeg R R' ∧ kn [30, 31] x5.toNatClampNeg R') := by
  obtain ⟨d, rfl⟩ : ∃ e, d = e + 1 := ⟨d - 1, by omega⟩
  refine mt_in (b := mb_177 g) rfl rfl ?_
  show ml (mT g) d (mb_177 g).2 (0, [(0, .ref m0), (1, .int x1), (2, .int x2), (3, .int x3), (4, .int x4), (5, .int x5), (6, .int x6)], [], M) _
  have hn := hF.1
  refine ml_st (S' := (1, [(0, .ref m0), (1, .int x1), (2, .int x2), (3, .int x3), (4, .int x4), (5, .int x5), (6, .int x6)], [.int x1], M)) rfl rfl rfl ?_
  refine ml_sw rfl (fun t_1 ht_1 => ?_)
  have kt_1 := ht_1
  have ht_1 : t_1 ∈ [56, 208, 219, 398, 400, 542, 550, 600] := mi_sw_sub ht_1 (by decide)
  simp only [List.mem_cons, List.not_mem_nil, or_false] at ht_1
  rcases ht_1 with rfl | rfl | rfl | rfl | rfl | rfl | rfl | rfl
  · show ml _ _ _ (56, [(0, .ref m0), (1, .int x1), (2, .int x2), (3, .int x3), (4, .int x4), (5, .int x5), (6, .int x6)], [], M) _
    refine ml_blk 3 (S' := (60, [(0, .ref m0), (1, .int x1), (2, .int x2), (3, .int x3), (4, .int x4), (5, .int x5), (6, .int x6)], [.int (x4 - x3)], M)) rfl ?_
    refine ml_st (S' := (61, [(0, .ref m0), (1, .int x1), (2, .int x2), (3, .int x3), (4, .int x4), (5, .int x5), (6, .int x6)], [.int 2, .int (x4 - x3)], M)) rfl rfl rfl ?_
    refine ml_if2 (S1 := (67, [(0, .ref m0), (1, .int x1), (2, .int x2), (3, .int x3), (4, .int x4), (5, .int x5), (6, .int x6)], [], M)) (S2 := (64, [(0, .ref m0), (1, .int x1), (2, .int x2), (3, .int x3), (4, .int x4), (5, .int x5), (6, .int x6)], [], M)) rfl rfl rfl (fun c_61 => ?_) (fun c_61 => ?_)
    · have c_61 : (x4 - x3) = 2 := of_decide_eq_true c_61
      have hd2 : (x4 - x3).toInt = 2 := by rw [c_61]; rfl
      rw [i_sub (by omega) (by omega)] at hd2
      refine ml_st (S' := (68, [(0, .ref m0), (1, .int x1), (2, .int x2), (3, .int x3), (4, .int x4), (5, .int x5), (6, .int x6)], [.ref m0], M)) rfl rfl rfl ?_
      refine rg_ref (S' := (71, [(0, .ref m0), (1, .int x1), (2, .int x2), (3, .int x3), (4, .int x4), (5, .int x5), (6, .int x6)], [.ref (q 27)], M)) rfl hR rfl rfl ?_
      refine ml_st (S' := (73, [(0, .ref m0), (1, .int x1), (2, .int x2), (3, .int x3), (4, .int x4), (5, .int x5), (6, .int x6)], [.int x5, .ref (q 27)], M)) rfl rfl rfl ?_
      refine ra_ld (k := 27) (S' := (74, [(0, .ref m0), (1, .int x1), (2, .int x2), (3, .int x3), (4, .int x4), (5, .int x5), (6, .int x6)], [.int fl], M)) rfl hR rfl (vin_lt ho0 (by omega)) (hfl) rfl ?_
      refine ml_blk 2 (S' := (77, [(0, .ref m0), (1, .int x1), (2, .int x2), (3, .int x3), (4, .int x4), (5, .int x5), (6, .int x6)], [.int (fl &&& 8)], M)) rfl ?_
      refine ml_if (S1 := (82, [(0, .ref m0), (1, .int x1), (2, .int x2), (3, .int x3), (4, .int x4), (5, .int x5), (6, .int x6)], [], M)) (S2 := (80, [(0, .ref m0), (1, .int x1), (2, .int x2), (3, .int x3), (4, .int x4), (5, .int x5), (6, .int x6)], [], M)) rfl rfl rfl (fun c_77 => ?_) (fun c_77 => ?_)
      · have c_77 : ¬ (fl &&& 8) = 0 := of_decide_eq_true c_77
        refine ml_blk 2 (S' := (84, [(0, .ref m0), (1, .int x1), (2, .int x2), (3, .int x3), (4, .int x4), (5, .int x5), (6, .int x6)], [.ref m0, .ref m0], M)) rfl ?_
        refine rg_ref (S' := (87, [(0, .ref m0), (1, .int x1), (2, .int x2), (3, .int x3), (4, .int x4), (5, .int x5), (6, .int x6)], [.ref (q 29), .ref m0], M)) rfl hR rfl rfl ?_
        refine ml_st (S' := (89, [(0, .ref m0), (1, .int x1), (2, .int x2), (3, .int x3), (4, .int x4), (5, .int x5), (6, .int x6)], [.int x5, .ref (q 29), .ref m0], M)) rfl rfl rfl ?_
        refine ra_ld (k := 29) (S' := (90, [(0, .ref m0), (1, .int x1), (2, .int x2), (3, .int x3), (4, .int x4), (5, .int x5), (6, .int x6)], [.int ds, .ref m0], M)) rfl hR rfl (vin_lt ho0 (by omega)) (hds) rfl ?_
        refine ml_st (S' := (91, [(0, .ref m0), (1, .int x1), (2, .int x2), (3, .int x3), (4, .int x4), (5, .int x5), (6, .int x6)], [.int 0, .int ds, .ref m0], M)) rfl rfl rfl ?_
        refine ml_call (a := [.ref m0, .int ds, .int 0]) (rest := []) rfl (hR.okc rfl rfl rfl) rfl rfl (rm_at hR hY (hd0) (hd1) (by decide) (by have : (0 : Int32).toInt = 0 := rfl; omega) (by omega)) (fun v11 M12 h13 => ?_)
        obtain ⟨rfl, h13⟩ := h13
        rw [h13]
        show ml _ _ _ (94, [(0, .ref m0), (1, .int x1), (2, .int x2), (3, .int x3), (4, .int x4), (5, .int x5), (6, .int x6)], [.int (tx sa ch ds 0)], M) _
        refine ml_st (S' := (96, [(7, .int (tx sa ch ds 0)), (0, .ref m0), (1, .int x1), (2, .int x2), (3, .int x3), (4, .int x4), (5, .int x5), (6, .int x6)], [], M)) rfl rfl rfl ?_
        refine ml_blk 2 (S' := (100, [(7, .int (tx sa ch ds 0)), (0, .ref m0), (1, .int x1), (2, .int x2), (3, .int x3), (4, .int x4), (5, .int x5), (6, .int x6)], [.int 74, .int (tx sa ch ds 0)], M)) rfl ?_
        have J_175 : ∀ (s175_0 : Int32), ml (mT g) d (mb_177 g).2 (175, [(0, .ref m0), (3, .int x3), (5, .int x5)], [.int s175_0], M) (fun v M' => ∃ (x : Int32) (I' : rI) (R' : rR), v = some (.int x) ∧ RS g m0 q z I' R' M' ∧ eqI [] I I' ∧ eqR [30] R R' ∧ pw x5.toNatClampNeg R R' ∧ kn [30, 31] x5.toNatClampNeg R') := by
          intro s175_0
          refine ml_st (S' := (177, [(8, .int s175_0), (0, .ref m0), (3, .int x3), (5, .int x5)], [], M)) rfl rfl rfl ?_
          refine ml_blk 3 (S' := (180, [(8, .int s175_0), (0, .ref m0), (3, .int x3), (5, .int x5)], [.int x3, .ref m0, .ref m0], M)) rfl ?_
          refine ml_call (a := [.ref m0, .int x3]) (rest := [.ref m0]) rfl (hR.okc rfl rfl rfl) rfl rfl (rm_u2 hR hF (h0) (by omega) (by omega)) (fun v14 M15 h16 => ?_)
          obtain ⟨rfl, h16⟩ := h16
          rw [h16]
          show ml _ _ _ (183, [(8, .int s175_0), (0, .ref m0), (3, .int x3), (5, .int x5)], [.int (f2 f x3), .ref m0], M) _
          refine ml_call (a := [.ref m0, .int (f2 f x3)]) (rest := []) rfl (hR.okc rfl rfl rfl) rfl rfl (rm_tag hR hF hP (by omega)) (fun v17 M18 h19 => ?_)
          obtain ⟨rfl, h19⟩ := h19
          rw [h19]
          show ml _ _ _ (186, [(8, .int s175_0), (0, .ref m0), (3, .int x3), (5, .int x5)], [.int (tgf f cp pa (f2 f x3))], M) _
          refine ml_st (S' := (188, [(8, .int s175_0), (0, .ref m0), (3, .int x3), (5, .int x5)], [.int s175_0, .int (tgf f cp pa (f2 f x3))], M)) rfl rfl rfl ?_
          refine ml_if2 (S1 := (194, [(8, .int s175_0), (0, .ref m0), (3, .int x3), (5, .int x5)], [], M)) (S2 := (191, [(8, .int s175_0), (0, .ref m0), (3, .int x3), (5, .int x5)], [], M)) rfl rfl rfl (fun c_188 => ?_) (fun c_188 => ?_)
          · have c_188 : (tgf f cp pa (f2 f x3)) = s175_0 := of_decide_eq_true c_188
            refine ml_st (S' := (195, [(8, .int s175_0), (0, .ref m0), (3, .int x3), (5, .int x5)], [.ref m0], M)) rfl rfl rfl ?_
            refine rg_ref (S' := (198, [(8, .int s175_0), (0, .ref m0), (3, .int x3), (5, .int x5)], [.ref (q 30)], M)) rfl hR rfl rfl ?_
            refine ml_blk 3 (S' := (202, [(8, .int s175_0), (0, .ref m0), (3, .int x3), (5, .int x5)], [.int x3, .ref m0, .int x5, .ref (q 30)], M)) rfl ?_
            refine ml_call (a := [.ref m0, .int x3]) (rest := [.int x5, .ref (q 30)]) rfl (hR.okc rfl rfl rfl) rfl rfl (rm_u2 hR hF (h0) (by omega) (by omega)) (fun v20 M21 h22 => ?_)
            obtain ⟨rfl, h22⟩ := h22
            rw [h22]
            show ml _ _ _ (205, [(8, .int s175_0), (0, .ref m0), (3, .int x3), (5, .int x5)], [.int (f2 f x3), .int x5, .ref (q 30)], M) _
            refine ra_st (k := 30) rfl hR rfl (vin_lt ho0 (by omega)) (fun M23 R24 hR25 e26 g27 f28 => ?_)
            show ml _ _ _ (206, [(8, .int s175_0), (0, .ref m0), (3, .int x3), (5, .int x5)], [], M23) _
            refine ml_st (S' := (207, [(8, .int s175_0), (0, .ref m0), (3, .int x3), (5, .int x5)], [.int 0], M23)) rfl rfl rfl ?_
            exact ml_ret rfl (rfl) (⟨_, _, _, rfl, hR25, eqI.rf, (eqR.rf.put f28 (by decide)), ⟨(pw.rf.st g27 f28 rfl), (kn.st hkn e26 g27 f28)⟩⟩)
          · have c_188 : ¬ ((tgf f cp pa (f2 f x3)) = s175_0) := of_decide_eq_false c_188
            refine ml_st (S' := (193, [(8, .int s175_0), (0, .ref m0), (3, .int x3), (5, .int x5)], [.int 31], M)) rfl rfl rfl ?_
            exact ml_ret rfl (rfl) (⟨_, _, _, rfl, hR, eqI.rf, eqR.rf, ⟨pw.rf, hkn⟩⟩)
        refine ml_if2 (S1 := (107, [(7, .int (tx sa ch ds 0)), (0, .ref m0), (1, .int x1), (2, .int x2), (3, .int x3), (4, .int x4), (5, .int x5), (6, .int x6)], [], M)) (S2 := (103, [(7, .int (tx sa ch ds 0)), (0, .ref m0), (1, .int x1), (2, .int x2), (3, .int x3), (4, .int x4), (5, .int x5), (6, .int x6)], [], M)) rfl rfl rfl (fun c_100 => ?_) (fun c_100 => ?_)
        · have c_100 : ¬ (tx sa ch ds 0) = 74 := of_decide_eq_true c_100
          refine ml_blk 2 (S' := (111, [(7, .int (tx sa ch ds 0)), (0, .ref m0), (1, .int x1), (2, .int x2), (3, .int x3), (4, .int x4), (5, .int x5), (6, .int x6)], [.int 70, .int (tx sa ch ds 0)], M)) rfl ?_
          refine ml_if2 (S1 := (118, [(7, .int (tx sa ch ds 0)), (0, .ref m0), (1, .int x1), (2, .int x2), (3, .int x3), (4, .int x4), (5, .int x5), (6, .int x6)], [], M)) (S2 := (114, [(7, .int (tx sa ch ds 0)), (0, .ref m0), (1, .int x1), (2, .int x2), (3, .int x3), (4, .int x4), (5, .int x5), (6, .int x6)], [], M)) rfl rfl rfl (fun c_111 => ?_) (fun c_111 => ?_)
          · have c_111 : ¬ (tx sa ch ds 0) = 70 := of_decide_eq_true c_111
            refine ml_blk 2 (S' := (122, [(7, .int (tx sa ch ds 0)), (0, .ref m0), (1, .int x1), (2, .int x2), (3, .int x3), (4, .int x4), (5, .int x5), (6, .int x6)], [.int 68, .int (tx sa ch ds 0)], M)) rfl ?_
            refine ml_if2 (S1 := (130, [(7, .int (tx sa ch ds 0)), (0, .ref m0), (1, .int x1), (2, .int x2), (3, .int x3), (4, .int x4), (5, .int x5), (6, .int x6)], [], M)) (S2 := (125, [(7, .int (tx sa ch ds 0)), (0, .ref m0), (1, .int x1), (2, .int x2), (3, .int x3), (4, .int x4), (5, .int x5), (6, .int x6)], [], M)) rfl rfl rfl (fun c_122 => ?_) (fun c_122 => ?_)
            · have c_122 : ¬ (tx sa ch ds 0) = 68 := of_decide_eq_true c_122
              refine ml_blk 2 (S' := (134, [(7, .int (tx sa ch ds 0)), (0, .ref m0), (1, .int x1), (2, .int x2), (3, .int x3), (4, .int x4), (5, .int x5), (6, .int x6)], [.int 76, .int (tx sa ch ds 0)], M)) rfl ?_
              refine ml_if2 (S1 := (163, [(7, .int (tx sa ch ds 0)), (0, .ref m0), (1, .int x1), (2, .int x2), (3, .int x3), (4, .int x4), (5, .int x5), (6, .int x6)], [], M)) (S2 := (137, [(7, .int (tx sa ch ds 0)), (0, .ref m0), (1, .int x1), (2, .int x2), (3, .int x3), (4, .int x4), (5, .int x5), (6, .int x6)], [], M)) rfl rfl rfl (fun c_134 => ?_) (fun c_134 => ?_)
              · have c_134 : ¬ (tx sa ch ds 0) = 76 := of_decide_eq_true c_134
                refine ml_blk 2 (S' := (167, [(7, .int (tx sa ch ds 0)), (0, .ref m0), (1, .int x1), (2, .int x2), (3, .int x3), (4, .int x4), (5, .int x5), (6, .int x6)], [.int 91, .int (tx sa ch ds 0)], M)) rfl ?_
                refine ml_if2 (S1 := (174, [(7, .int (tx sa ch ds 0)), (0, .ref m0), (1, .int x1), (2, .int x2), (3, .int x3), (4, .int x4), (5, .int x5), (6, .int x6)], [], M)) (S2 := (170, [(7, .int (tx sa ch ds 0)), (0, .ref m0), (1, .int x1), (2, .int x2), (3, .int x3), (4, .int x4), (5, .int x5), (6, .int x6)], [], M)) rfl rfl rfl (fun c_167 => ?_) (fun c_167 => ?_)
                · have c_167 : ¬ (tx sa ch ds 0) = 91 := of_decide_eq_true c_167
                  refine ml_st (S' := (175, [(0, .ref m0), (3, .int x3), (5, .int x5)], [.int 3], M)) rfl rfl rfl ?_
                  exact J_175 3
                · have c_167 : ¬ (¬ (tx sa ch ds 0) = 91) := of_decide_eq_false c_167
                  refine ml_st (S' := (171, [(7, .int (tx sa ch ds 0)), (0, .ref m0), (1, .int x1), (2, .int x2), (3, .int x3), (4, .int x4), (5, .int x5), (6, .int x6)], [.int (-1)], M)) rfl rfl rfl ?_
                  refine ml_st (S' := (175, [(0, .ref m0), (3, .int x3), (5, .int x5)], [.int (-1)], M)) rfl rfl rfl ?_
                  exact J_175 (-1)
              · have c_134 : ¬ (¬ (tx sa ch ds 0) = 76) := of_decide_eq_false c_134
                refine ml_blk 2 (S' := (139, [(7, .int (tx sa ch ds 0)), (0, .ref m0), (1, .int x1), (2, .int x2), (3, .int x3), (4, .int x4), (5, .int x5), (6, .int x6)], [.ref m0, .ref m0], M)) rfl ?_
                refine rg_ref (S' := (142, [(7, .int (tx sa ch ds 0)), (0, .ref m0), (1, .int x1), (2, .int x2), (3, .int x3), (4, .int x4), (5, .int x5), (6, .int x6)], [.ref (q 29), .ref m0], M)) rfl hR rfl rfl ?_
                refine ml_st (S' := (144, [(7, .int (tx sa ch ds 0)), (0, .ref m0), (1, .int x1), (2, .int x2), (3, .int x3), (4, .int x4), (5, .int x5), (6, .int x6)], [.int x5, .ref (q 29), .ref m0], M)) rfl rfl rfl ?_
                refine ra_ld (k := 29) (S' := (145, [(7, .int (tx sa ch ds 0)), (0, .ref m0), (1, .int x1), (2, .int x2), (3, .int x3), (4, .int x4), (5, .int x5), (6, .int x6)], [.int ds, .ref m0], M)) rfl hR rfl (vin_lt ho0 (by omega)) (hds) rfl ?_
                refine ml_st (S' := (148, [(7, .int (tx sa ch ds 0)), (0, .ref m0), (1, .int x1), (2, .int x2), (3, .int x3), (4, .int x4), (5, .int x5), (6, .int x6)], [.ref (g.2.1 28), .int ds, .ref m0], M)) rfl rfl rfl ?_
                refine ml_call (a := [.ref m0, .int ds, .ref (g.2.1 28)]) (rest := []) rfl (hR.okc rfl rfl rfl) rfl rfl (rm_is hR hY (hd0) (hd1) (by decide) (by omega)) (fun v29 M30 h31 => ?_)
                obtain ⟨⟨u32, rfl, z33⟩, h31⟩ := h31
                rw [h31]
                show ml _ _ _ (151, [(7, .int (tx sa ch ds 0)), (0, .ref m0), (1, .int x1), (2, .int x2), (3, .int x3), (4, .int x4), (5, .int x5), (6, .int x6)], [.int u32], M) _
                refine ml_if (S1 := (159, [(7, .int (tx sa ch ds 0)), (0, .ref m0), (1, .int x1), (2, .int x2), (3, .int x3), (4, .int x4), (5, .int x5), (6, .int x6)], [], M)) (S2 := (154, [(7, .int (tx sa ch ds 0)), (0, .ref m0), (1, .int x1), (2, .int x2), (3, .int x3), (4, .int x4), (5, .int x5), (6, .int x6)], [], M)) rfl rfl rfl (fun c_151 => ?_) (fun c_151 => ?_)
                · have c_151 : u32 = 0 := of_decide_eq_true c_151
                  refine ml_st (S' := (160, [(7, .int (tx sa ch ds 0)), (0, .ref m0), (1, .int x1), (2, .int x2), (3, .int x3), (4, .int x4), (5, .int x5), (6, .int x6)], [.int (-1)], M)) rfl rfl rfl ?_
                  refine ml_st (S' := (175, [(0, .ref m0), (3, .int x3), (5, .int x5)], [.int (-1)], M)) rfl rfl rfl ?_
                  exact J_175 (-1)
                · have c_151 : ¬ (u32 = 0) := of_decide_eq_false c_151
                  refine ml_st (S' := (156, [(7, .int (tx sa ch ds 0)), (0, .ref m0), (1, .int x1), (2, .int x2), (3, .int x3), (4, .int x4), (5, .int x5), (6, .int x6)], [.int 8], M)) rfl rfl rfl ?_
                  refine ml_st (S' := (175, [(0, .ref m0), (3, .int x3), (5, .int x5)], [.int 8], M)) rfl rfl rfl ?_
                  exact J_175 8
            · have c_122 : ¬ (¬ (tx sa ch ds 0) = 68) := of_decide_eq_false c_122
              refine ml_st (S' := (127, [(7, .int (tx sa ch ds 0)), (0, .ref m0), (1, .int x1), (2, .int x2), (3, .int x3), (4, .int x4), (5, .int x5), (6, .int x6)], [.int 6], M)) rfl rfl rfl ?_
              refine ml_st (S' := (175, [(0, .ref m0), (3, .int x3), (5, .int x5)], [.int 6], M)) rfl rfl rfl ?_
              exact J_175 6
          · have c_111 : ¬ (¬ (tx sa ch ds 0) = 70) := of_decide_eq_false c_111
            refine ml_st (S' := (115, [(7, .int (tx sa ch ds 0)), (0, .ref m0), (1, .int x1), (2, .int x2), (3, .int x3), (4, .int x4), (5, .int x5), (6, .int x6)], [.int 4], M)) rfl rfl rfl ?_
            refine ml_st (S' := (175, [(0, .ref m0), (3, .int x3), (5, .int x5)], [.int 4], M)) rfl rfl rfl ?_
            exact J_175 4
        · have c_100 : ¬ (¬ (tx sa ch ds 0) = 74) := of_decide_eq_false c_100
          refine ml_st (S' := (104, [(7, .int (tx sa ch ds 0)), (0, .ref m0), (1, .int x1), (2, .int x2), (3, .int x3), (4, .int x4), (5, .int x5), (6, .int x6)], [.int 5], M)) rfl rfl rfl ?_
          refine ml_st (S' := (175, [(0, .ref m0), (3, .int x3), (5, .int x5)], [.int 5], M)) rfl rfl rfl ?_
          exact J_175 5
      · have c_77 : ¬ (¬ (fl &&& 8) = 0) := of_decide_eq_false c_77
        refine ml_st (S' := (81, [(0, .ref m0), (1, .int x1), (2, .int x2), (3, .int x3), (4, .int x4), (5, .int x5), (6, .int x6)], [.int 0], M)) rfl rfl rfl ?_
        exact ml_ret rfl (rfl) (⟨_, _, _, rfl, hR, eqI.rf, eqR.rf, ⟨pw.rf, hkn⟩⟩)
    · have c_61 : ¬ ((x4 - x3) = 2) := of_decide_eq_false c_61
      refine ml_st (S' := (66, [(0, .ref m0), (1, .int x1), (2, .int x2), (3, .int x3), (4, .int x4), (5, .int x5), (6, .int x6)], [.int 30], M)) rfl rfl rfl ?_
      exact ml_ret rfl (rfl) (⟨_, _, _, rfl, hR, eqI.rf, eqR.rf, ⟨pw.rf, hkn⟩⟩)
  · show ml _ _ _ (208, [(0, .ref m0), (1, .int x1), (2, .int x2), (3, .int x3), (4, .int x4), (5, .int x5), (6, .int x6)], [], M) _
    exfalso
    rw [hw] at kt_1
    exact absurd kt_1 (by decide)
  · show ml _ _ _ (219, [(0, .ref m0), (1, .int x1), (2, .int x2), (3, .int x3), (4, .int x4), (5, .int x5), (6, .int x6)], [], M) _
    exfalso
    rw [hw] at kt_1
    exact absurd kt_1 (by decide)
  · show ml _ _ _ (398, [(0, .ref m0), (1, .int x1), (2, .int x2), (3, .int x3), (4, .int x4), (5, .int x5), (6, .int x6)], [], M) _
    exfalso
    rw [hw] at kt_1
    exact absurd kt_1 (by decide)
  · show ml _ _ _ (400, [(0, .ref m0), (1, .int x1), (2, .int x2), (3, .int x3), (4, .int x4), (5, .int x5), (6, .int x6)], [], M) _
    exfalso
    rw [hw] at kt_1
    exact absurd kt_1 (by decide)
  · show ml _ _ _ (542, [(0, .ref m0), (1, .int x1), (2, .int x2), (3, .int x3), (4, .int x4), (5, .int x5), (6, .int x6)], [], M) _
    exfalso
    rw [hw] at kt_1
    exact absurd kt_1 (by decide)
  · show ml _ _ _ (550, [(0, .ref m0), (1, .int x1), (2, .int x2), (3, .int x3), (4, .int x4), (5, .int x5), (6, .int x6)], [], M) _
    exfalso
    rw [hw] at kt_1
    exact absurd kt_1 (by decide)
  · show ml _ _ _ (600, [(0, .ref m0), (1, .int x1), (2, .int x2), (3, .int x3), (4, .int x4), (5, .int x5), (6, .int x6)], [], M) _
    exfalso
    rw [hw] at kt_1
    exact absurd kt_1 (by decide)
set_option maxHeartbeats 2000000 in
theorem rm_checkAttributes1 {g : xe_G}  {m0 : Nat} {q : Nat → Nat} {z : Nat × Nat} {I : rI} {R : rR} {M : mi_H} {x1 x2 x3 : Int32} {n : Nat} {f : Nat → Int32} {S cN : Nat} {sa sl ch : Nat → Int32} {cp mj : Int32} {pa py : Nat → Int32} {e : Int32} {fl ds : Int32}  (hR : RS g m0 q z I R M) (hF : FK n f I R) (hY : SK S cN sa sl ch I R) (hP : PK n f S cp mj pa py I R) (hK : KW I R) (hw : x2 = 1) (hat : AT f n x1 e) (ho0 : 0 ≤ x3.toInt) (ho1 : x3.toInt < 8300) (hfl : R 27 x3.toNatClampNeg = some fl) (hds : R 29 x3.toNatClampNeg = some ds) (hd0 : 0 ≤ ds.toInt) (hd1 : ds.toInt < S) (hln : 0 < (sL sl ds).toInt) (hkn : kn [30, 31] x3.toNatClampNeg R) {d : Nat} (hd : 7 ≤ d) : mt (mT g) d 187 [.ref m0, .int x1, .int x2, .int x3] M (fun v M' => ∃ (x : Int32) (I' : rI) (R' : rR), v = some (.int x) ∧ RS g m0 q z I' R' M' ∧ eqI [47, 48] I I' ∧ eqR [30, 31] R R' ∧ (x.toInt < 0 ∨ x = e) ∧ pw x3.toNatClampNeg R R' ∧ kn [30, 31] x3.toNatClampNeg R') := by
  obtain ⟨d, rfl⟩ : ∃ e, d = e + 1 := ⟨d - 1, by omega⟩
  refine mt_in (b := mb_187 g) rfl rfl ?_
  show ml (mT g) d (mb_187 g).2 (0, [(0, .ref m0), (1, .int x1), (2, .int x2), (3, .int x3)], [], M) _
  have hn := hF.1
  refine ml_blk 2 (S' := (2, [(0, .ref m0), (1, .int x1), (2, .int x2), (3, .int x3)], [.int x1, .ref m0], M)) rfl ?_
  refine ml_call (a := [.ref m0, .int x1]) (rest := []) rfl (hR.okc rfl rfl rfl) rfl rfl (rm_u2 hR hF (hat.1) (hat.2.1) (by omega)) (fun v11 M12 h13 => ?_)
  obtain ⟨rfl, h13⟩ := h13
  rw [h13]
  show ml _ _ _ (5, [(0, .ref m0), (1, .int x1), (2, .int x2), (3, .int x3)], [.int (f2 f x1)], M) _
  refine ml_st (S' := (7, [(4, .int (f2 f x1)), (0, .ref m0), (1, .int x1), (2, .int x2), (3, .int x3)], [], M)) rfl rfl rfl ?_
  refine ml_blk 3 (S' := (10, [(4, .int (f2 f x1)), (0, .ref m0), (1, .int x1), (2, .int x2), (3, .int x3)], [.int (x1 + 2)], M)) rfl ?_
  refine ml_st (S' := (12, [(5, .int (x1 + 2)), (4, .int (f2 f x1)), (0, .ref m0), (1, .int x1), (2, .int x2), (3, .int x3)], [], M)) rfl rfl rfl ?_
  refine ml_st (S' := (13, [(5, .int (x1 + 2)), (4, .int (f2 f x1)), (0, .ref m0), (1, .int x1), (2, .int x2), (3, .int x3)], [.int 0], M)) rfl rfl rfl ?_
  refine ml_st (S' := (15, [(6, .int 0), (5, .int (x1 + 2)), (4, .int (f2 f x1)), (0, .ref m0), (1, .int x1), (2, .int x2), (3, .int x3)], [], M)) rfl rfl rfl ?_
  refine ml_st (S' := (16, [(6, .int 0), (5, .int (x1 + 2)), (4, .int (f2 f x1)), (0, .ref m0), (1, .int x1), (2, .int x2), (3, .int x3)], [.int 0], M)) rfl rfl rfl ?_
  refine ml_st (S' := (18, [(0, .ref m0), (2, .int x2), (3, .int x3), (4, .int (f2 f x1)), (5, .int (x1 + 2)), (6, .int 0), (7, .int 0)], [], M)) rfl rfl rfl ?_
  have L_18 : ∀ (n_18 : Nat) (i18_5 : Int32) (i18_6 : Int32) (i18_7 : Int32) (M_18 : mi_H) (I_18 : rI) (R_18 : rR), (2147483648 - i18_7.toInt).toNat ≤ n_18 → RS g m0 q z I_18 R_18 M_18 → eqI [47, 48] I I_18 → eqR [30, 31] R R_18 → (0 ≤ i18_7.toInt ∧ i18_7.toInt ≤ (f2 f x1).toInt ∧ itr (RA1 f n) ((f2 f x1).toInt - i18_7.toInt).toNat i18_5 e ∧ pw x3.toNatClampNeg R R_18 ∧ kn [30, 31] x3.toNatClampNeg R_18) → ml (mT g) d (mb_187 g).2 (18, [(0, .ref m0), (2, .int x2), (3, .int x3), (4, .int (f2 f x1)), (5, .int i18_5), (6, .int i18_6), (7, .int i18_7)], [], M_18) (fun v M' => ∃ (x : Int32) (I' : rI) (R' : rR), v = some (.int x) ∧ RS g m0 q z I' R' M' ∧ eqI [47, 48] I I' ∧ eqR [30, 31] R R' ∧ (x.toInt < 0 ∨ x = e) ∧ pw x3.toNatClampNeg R R' ∧ kn [30, 31] x3.toNatClampNeg R') := by
    intro n_18
    induction n_18 with
    | zero => intro i18_5 i18_6 i18_7 M_18 I_18 R_18 hn; exact (loop_zero hn).elim
    | succ n_18 ih_18 =>
      intro i18_5 i18_6 i18_7 M_18 I_18 R_18 hn_18 hR_18 hI_18 hV_18 hi_18
      obtain ⟨hk0, hk1, hit, hqw18, hkn18⟩ := hi_18
      refine ml_blk 2 (S' := (22, [(0, .ref m0), (2, .int x2), (3, .int x3), (4, .int (f2 f x1)), (5, .int i18_5), (6, .int i18_6), (7, .int i18_7)], [.int (f2 f x1), .int i18_7], M_18)) rfl ?_
      refine ml_if2 (S1 := (284, [(0, .ref m0), (2, .int x2), (3, .int x3), (4, .int (f2 f x1)), (5, .int i18_5), (6, .int i18_6), (7, .int i18_7)], [], M_18)) (S2 := (25, [(0, .ref m0), (2, .int x2), (3, .int x3), (4, .int (f2 f x1)), (5, .int i18_5), (6, .int i18_6), (7, .int i18_7)], [], M_18)) rfl rfl rfl (fun c_22 => ?_) (fun c_22 => ?_)
      · have c_22 : (f2 f x1) ≤ i18_7 := of_decide_eq_true c_22
        refine ml_st (S' := (286, [(0, .ref m0), (2, .int x2), (3, .int x3), (4, .int (f2 f x1)), (5, .int i18_5), (6, .int i18_6), (7, .int i18_7)], [.int i18_5], M_18)) rfl rfl rfl ?_
        exact ml_ret rfl (rfl) (⟨_, _, _, rfl, hR_18, (eqI.rf.tr hI_18 (by decide)), (eqR.rf.tr hV_18 (by decide)), ⟨Or.inr (itr_one hit (by have := i_le c_22; omega)).symm, (pw.rf.tr hqw18), hkn18⟩⟩)
      · have c_22 : ¬ ((f2 f x1) ≤ i18_7) := of_decide_eq_false c_22
        obtain ⟨b1, hb1, hnx⟩ := itr_next hit c_22
        have hb2 := hb1
        obtain ⟨g0, g1, g2, g3⟩ := hb2
        have ep2 : (i18_5 + 2).toInt = i18_5.toInt + 2 := i_add (by have : (2 : Int32).toInt = 2 := rfl; omega) (by have : (2 : Int32).toInt = 2 := rfl; omega)
        have ep6 : (i18_5 + 6).toInt = i18_5.toInt + 6 := i_add (by have : (6 : Int32).toInt = 6 := rfl; omega) (by have : (6 : Int32).toInt = 6 := rfl; omega)
        have hra := ra_of (f := f) hn g0 g2
        have hl0 := f4_pos (f := f) (x := i18_5 + 2)
        have hle : (i18_5 + 6 + Int64.toInt32 (f4 f (i18_5 + 2))).toInt = i18_5.toInt + 6 + (f4 f (i18_5 + 2)).toInt := by have di : (Int64.toInt32 (f4 f (i18_5 + 2))).toInt = (f4 f (i18_5 + 2)).toInt := i_of (by omega) (by omega); rw [i_add (by omega) (by omega), di, ep6]
        refine ml_blk 3 (S' := (29, [(0, .ref m0), (2, .int x2), (3, .int x3), (4, .int (f2 f x1)), (5, .int i18_5), (6, .int i18_6), (7, .int i18_7)], [.int 2, .int i18_5, .ref m0], M_18)) rfl ?_
        refine ml_st (S' := (30, [(0, .ref m0), (2, .int x2), (3, .int x3), (4, .int (f2 f x1)), (5, .int i18_5), (6, .int i18_6), (7, .int i18_7)], [.int (i18_5 + 2), .ref m0], M_18)) rfl rfl rfl ?_
        have hF14 : FK n f I_18 R_18 := (hF.mono (cIx hI_18 (by decide)) (cRx hV_18 (by decide)))
        refine ml_call (a := [.ref m0, .int (i18_5 + 2)]) (rest := []) rfl (hR_18.okc rfl rfl rfl) rfl rfl (rm_u4 hR_18 hF14 (by omega) (by omega) (by omega)) (fun v15 M16 h17 => ?_)
        obtain ⟨rfl, h17⟩ := h17
        rw [h17]
        show ml _ _ _ (33, [(0, .ref m0), (2, .int x2), (3, .int x3), (4, .int (f2 f x1)), (5, .int i18_5), (6, .int i18_6), (7, .int i18_7)], [.long (f4 f (i18_5 + 2))], M_18) _
        refine ml_st (S' := (34, [(0, .ref m0), (2, .int x2), (3, .int x3), (4, .int (f2 f x1)), (5, .int i18_5), (6, .int i18_6), (7, .int i18_7)], [.int (Int64.toInt32 (f4 f (i18_5 + 2)))], M_18)) rfl rfl rfl ?_
        refine ml_st (S' := (36, [(8, .int (Int64.toInt32 (f4 f (i18_5 + 2)))), (0, .ref m0), (2, .int x2), (3, .int x3), (4, .int (f2 f x1)), (5, .int i18_5), (6, .int i18_6), (7, .int i18_7)], [], M_18)) rfl rfl rfl ?_
        refine ml_blk 3 (S' := (40, [(8, .int (Int64.toInt32 (f4 f (i18_5 + 2)))), (0, .ref m0), (2, .int x2), (3, .int x3), (4, .int (f2 f x1)), (5, .int i18_5), (6, .int i18_6), (7, .int i18_7)], [.int i18_5, .ref m0, .ref m0], M_18)) rfl ?_
        refine ml_call (a := [.ref m0, .int i18_5]) (rest := [.ref m0]) rfl (hR_18.okc rfl rfl rfl) rfl rfl (rm_u2 hR_18 hF14 (g0) (by omega) (by omega)) (fun v18 M19 h20 => ?_)
        obtain ⟨rfl, h20⟩ := h20
        rw [h20]
        show ml _ _ _ (43, [(8, .int (Int64.toInt32 (f4 f (i18_5 + 2)))), (0, .ref m0), (2, .int x2), (3, .int x3), (4, .int (f2 f x1)), (5, .int i18_5), (6, .int i18_6), (7, .int i18_7)], [.int (f2 f i18_5), .ref m0], M_18) _
        have hP21 : PK n f S cp mj pa py I_18 R_18 := (hP.mono (cIx hI_18 (by decide)) (cRx hV_18 (by decide)))
        refine ml_call (a := [.ref m0, .int (f2 f i18_5)]) (rest := []) rfl (hR_18.okc rfl rfl rfl) rfl rfl (rm_tag hR_18 hF14 hP21 (by omega)) (fun v22 M23 h24 => ?_)
        obtain ⟨rfl, h24⟩ := h24
        rw [h24]
        show ml _ _ _ (46, [(8, .int (Int64.toInt32 (f4 f (i18_5 + 2)))), (0, .ref m0), (2, .int x2), (3, .int x3), (4, .int (f2 f x1)), (5, .int i18_5), (6, .int i18_6), (7, .int i18_7)], [.int (tgf f cp pa (f2 f i18_5))], M_18) _
        refine ml_st (S' := (47, [(8, .int (Int64.toInt32 (f4 f (i18_5 + 2)))), (0, .ref m0), (2, .int x2), (3, .int x3), (4, .int (f2 f x1)), (5, .int i18_5), (6, .int i18_6), (7, .int i18_7)], [.int 1, .int (tgf f cp pa (f2 f i18_5))], M_18)) rfl rfl rfl ?_
        refine ml_if2 (S1 := (61, [(8, .int (Int64.toInt32 (f4 f (i18_5 + 2)))), (0, .ref m0), (2, .int x2), (3, .int x3), (4, .int (f2 f x1)), (5, .int i18_5), (6, .int i18_6), (7, .int i18_7)], [], M_18)) (S2 := (50, [(8, .int (Int64.toInt32 (f4 f (i18_5 + 2)))), (0, .ref m0), (2, .int x2), (3, .int x3), (4, .int (f2 f x1)), (5, .int i18_5), (6, .int i18_6), (7, .int i18_7)], [], M_18)) rfl rfl rfl (fun c_47 => ?_) (fun c_47 => ?_)
        · have c_47 : (tgf f cp pa (f2 f i18_5)) = 1 := of_decide_eq_true c_47
          refine ml_blk 3 (S' := (65, [(8, .int (Int64.toInt32 (f4 f (i18_5 + 2)))), (0, .ref m0), (2, .int x2), (3, .int x3), (4, .int (f2 f x1)), (5, .int i18_5), (6, .int i18_6), (7, .int i18_7)], [.int i18_5, .ref m0, .ref m0], M_18)) rfl ?_
          refine ml_call (a := [.ref m0, .int i18_5]) (rest := [.ref m0]) rfl (hR_18.okc rfl rfl rfl) rfl rfl (rm_u2 hR_18 hF14 (g0) (by omega) (by omega)) (fun v25 M26 h27 => ?_)
          obtain ⟨rfl, h27⟩ := h27
          rw [h27]
          show ml _ _ _ (68, [(8, .int (Int64.toInt32 (f4 f (i18_5 + 2)))), (0, .ref m0), (2, .int x2), (3, .int x3), (4, .int (f2 f x1)), (5, .int i18_5), (6, .int i18_6), (7, .int i18_7)], [.int (f2 f i18_5), .ref m0], M_18) _
          refine ml_call (a := [.ref m0, .int (f2 f i18_5)]) (rest := []) rfl (hR_18.okc rfl rfl rfl) rfl rfl (rm_symOf hR_18 hP21 (c_47) (by omega)) (fun v28 M29 h30 => ?_)
          obtain ⟨rfl, h30⟩ := h30
          rw [h30]
          show ml _ _ _ (71, [(8, .int (Int64.toInt32 (f4 f (i18_5 + 2)))), (0, .ref m0), (2, .int x2), (3, .int x3), (4, .int (f2 f x1)), (5, .int i18_5), (6, .int i18_6), (7, .int i18_7)], [.int (pyf py (f2 f i18_5))], M_18) _
          refine ml_st (S' := (73, [(9, .int (pyf py (f2 f i18_5))), (8, .int (Int64.toInt32 (f4 f (i18_5 + 2)))), (0, .ref m0), (2, .int x2), (3, .int x3), (4, .int (f2 f x1)), (5, .int i18_5), (6, .int i18_6), (7, .int i18_7)], [], M_18)) rfl rfl rfl ?_
          have hy9 := hP.y (show tgf f cp pa (f2 f i18_5) = 1 from c_47)
          refine ml_st (S' := (74, [(9, .int (pyf py (f2 f i18_5))), (8, .int (Int64.toInt32 (f4 f (i18_5 + 2)))), (0, .ref m0), (2, .int x2), (3, .int x3), (4, .int (f2 f x1)), (5, .int i18_5), (6, .int i18_6), (7, .int i18_7)], [.int (-1)], M_18)) rfl rfl rfl ?_
          refine ml_st (S' := (76, [(10, .int (-1)), (9, .int (pyf py (f2 f i18_5))), (8, .int (Int64.toInt32 (f4 f (i18_5 + 2)))), (0, .ref m0), (2, .int x2), (3, .int x3), (4, .int (f2 f x1)), (5, .int i18_5), (6, .int i18_6), (7, .int i18_7)], [], M_18)) rfl rfl rfl ?_
          refine ml_st (S' := (77, [(10, .int (-1)), (9, .int (pyf py (f2 f i18_5))), (8, .int (Int64.toInt32 (f4 f (i18_5 + 2)))), (0, .ref m0), (2, .int x2), (3, .int x3), (4, .int (f2 f x1)), (5, .int i18_5), (6, .int i18_6), (7, .int i18_7)], [.int 0], M_18)) rfl rfl rfl ?_
          refine ml_st (S' := (79, [(0, .ref m0), (2, .int x2), (3, .int x3), (4, .int (f2 f x1)), (5, .int i18_5), (6, .int i18_6), (7, .int i18_7), (8, .int (Int64.toInt32 (f4 f (i18_5 + 2)))), (9, .int (pyf py (f2 f i18_5))), (10, .int (-1)), (11, .int 0)], [], M_18)) rfl rfl rfl ?_
          have L_79 : ∀ (n_79 : Nat) (i79_10 : Int32) (i79_11 : Int32), (2147483648 - i79_11.toInt).toNat ≤ n_79 → (0 ≤ i79_11.toInt ∧ (i79_10 < 0 ∨ (0 ≤ i79_10.toInt ∧ i79_10.toInt < 10 ∧ kin i79_10 = x2))) → ml (mT g) d (mb_187 g).2 (79, [(0, .ref m0), (2, .int x2), (3, .int x3), (4, .int (f2 f x1)), (5, .int i18_5), (6, .int i18_6), (7, .int i18_7), (8, .int (Int64.toInt32 (f4 f (i18_5 + 2)))), (9, .int (pyf py (f2 f i18_5))), (10, .int i79_10), (11, .int i79_11)], [], M_18) (fun v M' => ∃ (x : Int32) (I' : rI) (R' : rR), v = some (.int x) ∧ RS g m0 q z I' R' M' ∧ eqI [47, 48] I I' ∧ eqR [30, 31] R R' ∧ (x.toInt < 0 ∨ x = e) ∧ pw x3.toNatClampNeg R R' ∧ kn [30, 31] x3.toNatClampNeg R') := by
            intro n_79
            induction n_79 with
            | zero => intro i79_10 i79_11 hn; exact (loop_zero hn).elim
            | succ n_79 ih_79 =>
              intro i79_10 i79_11 hn_79 hi_79
              obtain ⟨hj0, hjw⟩ := hi_79
              refine ml_blk 2 (S' := (82, [(0, .ref m0), (2, .int x2), (3, .int x3), (4, .int (f2 f x1)), (5, .int i18_5), (6, .int i18_6), (7, .int i18_7), (8, .int (Int64.toInt32 (f4 f (i18_5 + 2)))), (9, .int (pyf py (f2 f i18_5))), (10, .int i79_10), (11, .int i79_11)], [.ref m0, .int i79_11], M_18)) rfl ?_
              refine rg_ref (S' := (85, [(0, .ref m0), (2, .int x2), (3, .int x3), (4, .int (f2 f x1)), (5, .int i18_5), (6, .int i18_6), (7, .int i18_7), (8, .int (Int64.toInt32 (f4 f (i18_5 + 2)))), (9, .int (pyf py (f2 f i18_5))), (10, .int i79_10), (11, .int i79_11)], [.ref (q 62), .int i79_11], M_18)) rfl hR_18 rfl rfl ?_
              refine rl_kn (S' := (86, [(0, .ref m0), (2, .int x2), (3, .int x3), (4, .int (f2 f x1)), (5, .int i18_5), (6, .int i18_6), (7, .int i18_7), (8, .int (Int64.toInt32 (f4 f (i18_5 + 2)))), (9, .int (pyf py (f2 f i18_5))), (10, .int i79_10), (11, .int i79_11)], [.int (nI 10), .int i79_11], M_18)) rfl hR_18 rfl ?_
              refine ml_if2 (S1 := (140, [(0, .ref m0), (2, .int x2), (3, .int x3), (4, .int (f2 f x1)), (5, .int i18_5), (6, .int i18_6), (7, .int i18_7), (8, .int (Int64.toInt32 (f4 f (i18_5 + 2)))), (9, .int (pyf py (f2 f i18_5))), (10, .int i79_10), (11, .int i79_11)], [], M_18)) (S2 := (89, [(0, .ref m0), (2, .int x2), (3, .int x3), (4, .int (f2 f x1)), (5, .int i18_5), (6, .int i18_6), (7, .int i18_7), (8, .int (Int64.toInt32 (f4 f (i18_5 + 2)))), (9, .int (pyf py (f2 f i18_5))), (10, .int i79_10), (11, .int i79_11)], [], M_18)) rfl rfl rfl (fun c_86 => ?_) (fun c_86 => ?_)
              · have c_86 : (nI 10) ≤ i79_11 := of_decide_eq_true c_86
                refine ml_st (S' := (142, [(0, .ref m0), (2, .int x2), (3, .int x3), (4, .int (f2 f x1)), (5, .int i18_5), (6, .int i18_6), (7, .int i18_7), (8, .int (Int64.toInt32 (f4 f (i18_5 + 2)))), (9, .int (pyf py (f2 f i18_5))), (10, .int i79_10), (11, .int i79_11)], [.int i79_10], M_18)) rfl rfl rfl ?_
                refine ml_if (S1 := (268, [(0, .ref m0), (2, .int x2), (3, .int x3), (4, .int (f2 f x1)), (5, .int i18_5), (6, .int i18_6), (7, .int i18_7), (8, .int (Int64.toInt32 (f4 f (i18_5 + 2))))], [], M_18)) (S2 := (145, [(0, .ref m0), (2, .int x2), (3, .int x3), (4, .int (f2 f x1)), (5, .int i18_5), (6, .int i18_6), (7, .int i18_7), (8, .int (Int64.toInt32 (f4 f (i18_5 + 2)))), (9, .int (pyf py (f2 f i18_5))), (10, .int i79_10), (11, .int i79_11)], [], M_18)) rfl rfl rfl (fun c_142 => ?_) (fun c_142 => ?_)
                · have c_142 : i79_10 < 0 := of_decide_eq_true c_142
                  refine ml_blk 3 (S' := (274, [(0, .ref m0), (2, .int x2), (3, .int x3), (4, .int (f2 f x1)), (5, .int i18_5), (6, .int i18_6), (7, .int i18_7), (8, .int (Int64.toInt32 (f4 f (i18_5 + 2))))], [.int (Int64.toInt32 (f4 f (i18_5 + 2))), .int 6, .int i18_5], M_18)) rfl ?_
                  refine ml_blk 2 (S' := (276, [(0, .ref m0), (2, .int x2), (3, .int x3), (4, .int (f2 f x1)), (5, .int i18_5), (6, .int i18_6), (7, .int i18_7), (8, .int (Int64.toInt32 (f4 f (i18_5 + 2))))], [.int (i18_5 + (6 + (Int64.toInt32 (f4 f (i18_5 + 2)))))], M_18)) rfl ?_
                  refine ml_st (S' := (278, [(5, .int (i18_5 + (6 + (Int64.toInt32 (f4 f (i18_5 + 2)))))), (0, .ref m0), (2, .int x2), (3, .int x3), (4, .int (f2 f x1)), (6, .int i18_6), (7, .int i18_7), (8, .int (Int64.toInt32 (f4 f (i18_5 + 2))))], [], M_18)) rfl rfl rfl ?_
                  refine ml_st (S' := (281, [(7, .int (i18_7 + 1)), (5, .int (i18_5 + (6 + (Int64.toInt32 (f4 f (i18_5 + 2)))))), (0, .ref m0), (2, .int x2), (3, .int x3), (4, .int (f2 f x1)), (6, .int i18_6), (8, .int (Int64.toInt32 (f4 f (i18_5 + 2))))], [], M_18)) rfl rfl rfl ?_
                  refine ml_st (S' := (18, [(0, .ref m0), (2, .int x2), (3, .int x3), (4, .int (f2 f x1)), (5, .int (i18_5 + (6 + (Int64.toInt32 (f4 f (i18_5 + 2)))))), (6, .int i18_6), (7, .int (i18_7 + 1))], [], M_18)) rfl rfl rfl ?_
                  exact ih_18 (i18_5 + (6 + (Int64.toInt32 (f4 f (i18_5 + 2))))) i18_6 (i18_7 + 1) _ _ _ (loop_inc (Int32.not_le.mp c_22) hn_18) hR_18 (eqI.rf.tr hI_18 (by decide)) (eqR.rf.tr hV_18 (by decide)) (⟨by rw [inc_lt (Int32.not_le.mp c_22)]; omega, by rw [inc_lt (Int32.not_le.mp c_22)]; have := i_nle c_22; omega, hb1.eq hra ▸ hnx, (pw.rf.tr hqw18), hkn18⟩)
                · have c_142 : ¬ (i79_10 < 0) := of_decide_eq_false c_142
                  have hwn := hjw.resolve_left c_142
                  refine ml_blk 2 (S' := (147, [(0, .ref m0), (2, .int x2), (3, .int x3), (4, .int (f2 f x1)), (5, .int i18_5), (6, .int i18_6), (7, .int i18_7), (8, .int (Int64.toInt32 (f4 f (i18_5 + 2)))), (9, .int (pyf py (f2 f i18_5))), (10, .int i79_10), (11, .int i79_11)], [.int 1, .int x2], M_18)) rfl ?_
                  refine ml_if2 (S1 := (160, [(0, .ref m0), (2, .int x2), (3, .int x3), (4, .int (f2 f x1)), (5, .int i18_5), (6, .int i18_6), (7, .int i18_7), (8, .int (Int64.toInt32 (f4 f (i18_5 + 2)))), (10, .int i79_10)], [], M_18)) (S2 := (150, [(0, .ref m0), (2, .int x2), (3, .int x3), (4, .int (f2 f x1)), (5, .int i18_5), (6, .int i18_6), (7, .int i18_7), (8, .int (Int64.toInt32 (f4 f (i18_5 + 2)))), (9, .int (pyf py (f2 f i18_5))), (10, .int i79_10), (11, .int i79_11)], [], M_18)) rfl rfl rfl (fun c_147 => ?_) (fun c_147 => ?_)
                  · exact absurd (of_decide_eq_true c_147) ((fun h => h hw))
                  refine ml_st (S' := (151, [(0, .ref m0), (2, .int x2), (3, .int x3), (4, .int (f2 f x1)), (5, .int i18_5), (6, .int i18_6), (7, .int i18_7), (8, .int (Int64.toInt32 (f4 f (i18_5 + 2)))), (9, .int (pyf py (f2 f i18_5))), (10, .int i79_10), (11, .int i79_11)], [.ref m0], M_18)) rfl rfl rfl ?_
                  refine rg_ref (S' := (154, [(0, .ref m0), (2, .int x2), (3, .int x3), (4, .int (f2 f x1)), (5, .int i18_5), (6, .int i18_6), (7, .int i18_7), (8, .int (Int64.toInt32 (f4 f (i18_5 + 2)))), (9, .int (pyf py (f2 f i18_5))), (10, .int i79_10), (11, .int i79_11)], [.ref (q 31)], M_18)) rfl hR_18 rfl rfl ?_
                  refine ml_blk 2 (S' := (156, [(0, .ref m0), (2, .int x2), (3, .int x3), (4, .int (f2 f x1)), (5, .int i18_5), (6, .int i18_6), (7, .int i18_7), (8, .int (Int64.toInt32 (f4 f (i18_5 + 2)))), (9, .int (pyf py (f2 f i18_5))), (10, .int i79_10), (11, .int i79_11)], [.int x3, .ref (q 31), .int x3, .ref (q 31)], M_18)) rfl ?_
                  obtain ⟨v156, hv156⟩ := hkn18 31 (by decide)
                  refine ra_ld (k := 31) (S' := (157, [(0, .ref m0), (2, .int x2), (3, .int x3), (4, .int (f2 f x1)), (5, .int i18_5), (6, .int i18_6), (7, .int i18_7), (8, .int (Int64.toInt32 (f4 f (i18_5 + 2)))), (9, .int (pyf py (f2 f i18_5))), (10, .int i79_10), (11, .int i79_11)], [.int v156, .int x3, .ref (q 31)], M_18)) rfl hR_18 rfl (vin_lt ho0 (by omega)) (hv156) rfl ?_
                  refine ml_blk 2 (S' := (159, [(0, .ref m0), (2, .int x2), (3, .int x3), (4, .int (f2 f x1)), (5, .int i18_5), (6, .int i18_6), (7, .int i18_7), (8, .int (Int64.toInt32 (f4 f (i18_5 + 2)))), (9, .int (pyf py (f2 f i18_5))), (10, .int i79_10), (11, .int i79_11)], [.int (v156 + 1), .int x3, .ref (q 31)], M_18)) rfl ?_
                  refine ra_st (k := 31) rfl hR_18 rfl (vin_lt ho0 (by omega)) (fun M31 R32 hR33 e34 g35 f36 => ?_)
                  show ml _ _ _ (160, [(0, .ref m0), (2, .int x2), (3, .int x3), (4, .int (f2 f x1)), (5, .int i18_5), (6, .int i18_6), (7, .int i18_7), (8, .int (Int64.toInt32 (f4 f (i18_5 + 2)))), (10, .int i79_10)], [], M31) _
                  refine ml_blk 2 (S' := (162, [(0, .ref m0), (2, .int x2), (3, .int x3), (4, .int (f2 f x1)), (5, .int i18_5), (6, .int i18_6), (7, .int i18_7), (8, .int (Int64.toInt32 (f4 f (i18_5 + 2)))), (10, .int i79_10)], [.int 2, .int x2], M31)) rfl ?_
                  refine ml_if2 (S1 := (175, [(0, .ref m0), (2, .int x2), (3, .int x3), (4, .int (f2 f x1)), (5, .int i18_5), (6, .int i18_6), (7, .int i18_7), (8, .int (Int64.toInt32 (f4 f (i18_5 + 2)))), (10, .int i79_10)], [], M31)) (S2 := (165, [(0, .ref m0), (2, .int x2), (3, .int x3), (4, .int (f2 f x1)), (5, .int i18_5), (6, .int i18_6), (7, .int i18_7), (8, .int (Int64.toInt32 (f4 f (i18_5 + 2)))), (10, .int i79_10)], [], M31)) rfl rfl rfl (fun c_162 => ?_) (fun c_162 => ?_)
                  rotate_left
                  · exact absurd ((by rw [hw]; decide : ¬ x2 = 2)) (of_decide_eq_false c_162)
                  refine ml_blk 2 (S' := (177, [(0, .ref m0), (2, .int x2), (3, .int x3), (4, .int (f2 f x1)), (5, .int i18_5), (6, .int i18_6), (7, .int i18_7), (8, .int (Int64.toInt32 (f4 f (i18_5 + 2)))), (10, .int i79_10)], [.int 4, .int x2], M31)) rfl ?_
                  refine ml_if2 (S1 := (190, [(0, .ref m0), (2, .int x2), (3, .int x3), (4, .int (f2 f x1)), (5, .int i18_5), (6, .int i18_6), (7, .int i18_7), (8, .int (Int64.toInt32 (f4 f (i18_5 + 2)))), (10, .int i79_10)], [], M31)) (S2 := (180, [(0, .ref m0), (2, .int x2), (3, .int x3), (4, .int (f2 f x1)), (5, .int i18_5), (6, .int i18_6), (7, .int i18_7), (8, .int (Int64.toInt32 (f4 f (i18_5 + 2)))), (10, .int i79_10)], [], M31)) rfl rfl rfl (fun c_177 => ?_) (fun c_177 => ?_)
                  rotate_left
                  · exact absurd ((by rw [hw]; decide : ¬ x2 = 4)) (of_decide_eq_false c_177)
                  refine ml_blk 3 (S' := (195, [(0, .ref m0), (2, .int x2), (3, .int x3), (4, .int (f2 f x1)), (5, .int i18_5), (6, .int i18_6), (7, .int i18_7), (8, .int (Int64.toInt32 (f4 f (i18_5 + 2)))), (10, .int i79_10)], [.int (i18_6 >>> (i79_10 &&& 31))], M31)) rfl ?_
                  refine ml_blk 3 (S' := (198, [(0, .ref m0), (2, .int x2), (3, .int x3), (4, .int (f2 f x1)), (5, .int i18_5), (6, .int i18_6), (7, .int i18_7), (8, .int (Int64.toInt32 (f4 f (i18_5 + 2)))), (10, .int i79_10)], [.int 1, .int ((i18_6 >>> (i79_10 &&& 31)) &&& 1)], M31)) rfl ?_
                  refine ml_if2 (S1 := (212, [(0, .ref m0), (2, .int x2), (3, .int x3), (4, .int (f2 f x1)), (5, .int i18_5), (6, .int i18_6), (7, .int i18_7), (8, .int (Int64.toInt32 (f4 f (i18_5 + 2)))), (10, .int i79_10)], [], M31)) (S2 := (201, [(0, .ref m0), (2, .int x2), (3, .int x3), (4, .int (f2 f x1)), (5, .int i18_5), (6, .int i18_6), (7, .int i18_7), (8, .int (Int64.toInt32 (f4 f (i18_5 + 2)))), (10, .int i79_10)], [], M31)) rfl rfl rfl (fun c_198 => ?_) (fun c_198 => ?_)
                  · have c_198 : ¬ ((i18_6 >>> (i79_10 &&& 31)) &&& 1) = 1 := of_decide_eq_true c_198
                    refine ml_blk 3 (S' := (217, [(0, .ref m0), (2, .int x2), (3, .int x3), (4, .int (f2 f x1)), (5, .int i18_5), (6, .int i18_6), (7, .int i18_7), (8, .int (Int64.toInt32 (f4 f (i18_5 + 2)))), (10, .int i79_10)], [.int i18_5, .int i79_10, .ref m0], M31)) rfl ?_
                    refine ml_blk 3 (S' := (222, [(0, .ref m0), (2, .int x2), (3, .int x3), (4, .int (f2 f x1)), (5, .int i18_5), (6, .int i18_6), (7, .int i18_7), (8, .int (Int64.toInt32 (f4 f (i18_5 + 2)))), (10, .int i79_10)], [.int (i18_5 + 6), .int i18_5, .int i79_10, .ref m0], M31)) rfl ?_
                    refine ml_blk 3 (S' := (227, [(0, .ref m0), (2, .int x2), (3, .int x3), (4, .int (f2 f x1)), (5, .int i18_5), (6, .int i18_6), (7, .int i18_7), (8, .int (Int64.toInt32 (f4 f (i18_5 + 2)))), (10, .int i79_10)], [.int (i18_5 + 6), .int (i18_5 + 6), .int i18_5, .int i79_10, .ref m0], M31)) rfl ?_
                    refine ml_blk 3 (S' := (231, [(0, .ref m0), (2, .int x2), (3, .int x3), (4, .int (f2 f x1)), (5, .int i18_5), (6, .int i18_6), (7, .int i18_7), (8, .int (Int64.toInt32 (f4 f (i18_5 + 2)))), (10, .int i79_10)], [.int x3, .int ((i18_5 + 6) + (Int64.toInt32 (f4 f (i18_5 + 2)))), .int (i18_5 + 6), .int i18_5, .int i79_10, .ref m0], M31)) rfl ?_
                    refine ml_st (S' := (233, [(0, .ref m0), (2, .int x2), (3, .int x3), (4, .int (f2 f x1)), (5, .int i18_5), (6, .int i18_6), (7, .int i18_7), (8, .int (Int64.toInt32 (f4 f (i18_5 + 2)))), (10, .int i79_10)], [.int i18_6, .int x3, .int ((i18_5 + 6) + (Int64.toInt32 (f4 f (i18_5 + 2)))), .int (i18_5 + 6), .int i18_5, .int i79_10, .ref m0], M31)) rfl rfl rfl ?_
                    have hF37 : FK n f I_18 R32 := (hF14.mono (fun _ _ => rfl) (pRx f36 (by decide)))
                    have hY38 : SK S cN sa sl ch I_18 R32 := ((hY.mono (cIx hI_18 (by decide)) (cRx hV_18 (by decide))).mono (fun _ _ => rfl) (pRx f36 (by decide)))
                    have hP39 : PK n f S cp mj pa py I_18 R32 := (hP21.mono (fun _ _ => rfl) (pRx f36 (by decide)))
                    refine ml_call (a := [.ref m0, .int i79_10, .int i18_5, .int (i18_5 + 6), .int ((i18_5 + 6) + (Int64.toInt32 (f4 f (i18_5 + 2)))), .int x3, .int i18_6]) (rest := []) rfl (hR33.okc rfl rfl rfl) rfl rfl (rm_attr0 hR33 hF37 hY38 hP39 (kin_1 (hwn.2.2.trans hw)) (by omega) (by rw [hle]; omega) (by rw [hle]; omega) (ho0) (ho1) ((congrFun ((f36 27 (by decide)).trans ((hV_18 27 (by decide)))) _).trans hfl) ((congrFun ((f36 29 (by decide)).trans ((hV_18 29 (by decide)))) _).trans hds) (hd0) (hd1) (hln) ((kn.st hkn18 e34 g35 f36)) (by omega)) (fun v40 M41 h42 => ?_)
                    obtain ⟨u48, I43, R44, rfl, hR45, hI46, hV47, w49⟩ := h42
                    show ml _ _ _ (236, [(0, .ref m0), (2, .int x2), (3, .int x3), (4, .int (f2 f x1)), (5, .int i18_5), (6, .int i18_6), (7, .int i18_7), (8, .int (Int64.toInt32 (f4 f (i18_5 + 2)))), (10, .int i79_10)], [.int u48], M41) _
                    obtain ⟨hp50, hk51⟩ := w49
                    refine ml_st (S' := (238, [(11, .int u48), (0, .ref m0), (2, .int x2), (3, .int x3), (4, .int (f2 f x1)), (5, .int i18_5), (6, .int i18_6), (7, .int i18_7), (8, .int (Int64.toInt32 (f4 f (i18_5 + 2)))), (10, .int i79_10)], [], M41)) rfl rfl rfl ?_
                    refine ml_blk 3 (S' := (243, [(11, .int u48), (0, .ref m0), (2, .int x2), (3, .int x3), (4, .int (f2 f x1)), (5, .int i18_5), (6, .int i18_6), (7, .int i18_7), (8, .int (Int64.toInt32 (f4 f (i18_5 + 2)))), (10, .int i79_10)], [.int i79_10, .int 1, .int i18_6], M41)) rfl ?_
                    refine ml_blk 2 (S' := (245, [(11, .int u48), (0, .ref m0), (2, .int x2), (3, .int x3), (4, .int (f2 f x1)), (5, .int i18_5), (6, .int i18_6), (7, .int i18_7), (8, .int (Int64.toInt32 (f4 f (i18_5 + 2)))), (10, .int i79_10)], [.int (i18_6 ||| (1 <<< (i79_10 &&& 31)))], M41)) rfl ?_
                    refine ml_st (S' := (247, [(6, .int (i18_6 ||| (1 <<< (i79_10 &&& 31)))), (11, .int u48), (0, .ref m0), (2, .int x2), (3, .int x3), (4, .int (f2 f x1)), (5, .int i18_5), (7, .int i18_7), (8, .int (Int64.toInt32 (f4 f (i18_5 + 2)))), (10, .int i79_10)], [], M41)) rfl rfl rfl ?_
                    refine ml_st (S' := (249, [(6, .int (i18_6 ||| (1 <<< (i79_10 &&& 31)))), (11, .int u48), (0, .ref m0), (2, .int x2), (3, .int x3), (4, .int (f2 f x1)), (5, .int i18_5), (7, .int i18_7), (8, .int (Int64.toInt32 (f4 f (i18_5 + 2)))), (10, .int i79_10)], [.int u48], M41)) rfl rfl rfl ?_
                    refine ml_if (S1 := (261, [(0, .ref m0), (2, .int x2), (3, .int x3), (4, .int (f2 f x1)), (5, .int i18_5), (6, .int (i18_6 ||| (1 <<< (i79_10 &&& 31)))), (7, .int i18_7), (8, .int (Int64.toInt32 (f4 f (i18_5 + 2)))), (11, .int u48)], [], M41)) (S2 := (252, [(6, .int (i18_6 ||| (1 <<< (i79_10 &&& 31)))), (11, .int u48), (0, .ref m0), (2, .int x2), (3, .int x3), (4, .int (f2 f x1)), (5, .int i18_5), (7, .int i18_7), (8, .int (Int64.toInt32 (f4 f (i18_5 + 2)))), (10, .int i79_10)], [], M41)) rfl rfl rfl (fun c_249 => ?_) (fun c_249 => ?_)
                    · have c_249 : u48 ≤ 0 := of_decide_eq_true c_249
                      refine ml_st (S' := (263, [(0, .ref m0), (2, .int x2), (3, .int x3), (4, .int (f2 f x1)), (5, .int i18_5), (6, .int (i18_6 ||| (1 <<< (i79_10 &&& 31)))), (7, .int i18_7), (8, .int (Int64.toInt32 (f4 f (i18_5 + 2)))), (11, .int u48)], [.int u48], M41)) rfl rfl rfl ?_
                      refine ml_if (S1 := (268, [(0, .ref m0), (2, .int x2), (3, .int x3), (4, .int (f2 f x1)), (5, .int i18_5), (6, .int (i18_6 ||| (1 <<< (i79_10 &&& 31)))), (7, .int i18_7), (8, .int (Int64.toInt32 (f4 f (i18_5 + 2))))], [], M41)) (S2 := (266, [(0, .ref m0), (2, .int x2), (3, .int x3), (4, .int (f2 f x1)), (5, .int i18_5), (6, .int (i18_6 ||| (1 <<< (i79_10 &&& 31)))), (7, .int i18_7), (8, .int (Int64.toInt32 (f4 f (i18_5 + 2)))), (11, .int u48)], [], M41)) rfl rfl rfl (fun c_263 => ?_) (fun c_263 => ?_)
                      · have c_263 : u48 = 0 := of_decide_eq_true c_263
                        refine ml_blk 3 (S' := (274, [(0, .ref m0), (2, .int x2), (3, .int x3), (4, .int (f2 f x1)), (5, .int i18_5), (6, .int (i18_6 ||| (1 <<< (i79_10 &&& 31)))), (7, .int i18_7), (8, .int (Int64.toInt32 (f4 f (i18_5 + 2))))], [.int (Int64.toInt32 (f4 f (i18_5 + 2))), .int 6, .int i18_5], M41)) rfl ?_
                        refine ml_blk 2 (S' := (276, [(0, .ref m0), (2, .int x2), (3, .int x3), (4, .int (f2 f x1)), (5, .int i18_5), (6, .int (i18_6 ||| (1 <<< (i79_10 &&& 31)))), (7, .int i18_7), (8, .int (Int64.toInt32 (f4 f (i18_5 + 2))))], [.int (i18_5 + (6 + (Int64.toInt32 (f4 f (i18_5 + 2)))))], M41)) rfl ?_
                        refine ml_st (S' := (278, [(5, .int (i18_5 + (6 + (Int64.toInt32 (f4 f (i18_5 + 2)))))), (0, .ref m0), (2, .int x2), (3, .int x3), (4, .int (f2 f x1)), (6, .int (i18_6 ||| (1 <<< (i79_10 &&& 31)))), (7, .int i18_7), (8, .int (Int64.toInt32 (f4 f (i18_5 + 2))))], [], M41)) rfl rfl rfl ?_
                        refine ml_st (S' := (281, [(7, .int (i18_7 + 1)), (5, .int (i18_5 + (6 + (Int64.toInt32 (f4 f (i18_5 + 2)))))), (0, .ref m0), (2, .int x2), (3, .int x3), (4, .int (f2 f x1)), (6, .int (i18_6 ||| (1 <<< (i79_10 &&& 31)))), (8, .int (Int64.toInt32 (f4 f (i18_5 + 2))))], [], M41)) rfl rfl rfl ?_
                        refine ml_st (S' := (18, [(0, .ref m0), (2, .int x2), (3, .int x3), (4, .int (f2 f x1)), (5, .int (i18_5 + (6 + (Int64.toInt32 (f4 f (i18_5 + 2)))))), (6, .int (i18_6 ||| (1 <<< (i79_10 &&& 31)))), (7, .int (i18_7 + 1))], [], M41)) rfl rfl rfl ?_
                        exact ih_18 (i18_5 + (6 + (Int64.toInt32 (f4 f (i18_5 + 2))))) (i18_6 ||| (1 <<< (i79_10 &&& 31))) (i18_7 + 1) _ _ _ (loop_inc (Int32.not_le.mp c_22) hn_18) hR45 ((eqI.rf.tr hI_18 (by decide)).tr hI46 (by decide)) (((eqR.rf.tr hV_18 (by decide)).put f36 (by decide)).tr hV47 (by decide)) (⟨by rw [inc_lt (Int32.not_le.mp c_22)]; omega, by rw [inc_lt (Int32.not_le.mp c_22)]; have := i_nle c_22; omega, hb1.eq hra ▸ hnx, (((pw.rf.tr hqw18).st g35 f36 rfl).tr hp50), hk51⟩)
                      · have c_263 : ¬ (u48 = 0) := of_decide_eq_false c_263
                        refine ml_st (S' := (267, [(0, .ref m0), (2, .int x2), (3, .int x3), (4, .int (f2 f x1)), (5, .int i18_5), (6, .int (i18_6 ||| (1 <<< (i79_10 &&& 31)))), (7, .int i18_7), (8, .int (Int64.toInt32 (f4 f (i18_5 + 2)))), (11, .int u48)], [.int (-1)], M41)) rfl rfl rfl ?_
                        exact ml_ret rfl (rfl) (⟨_, _, _, rfl, hR45, ((eqI.rf.tr hI_18 (by decide)).tr hI46 (by decide)), (((eqR.rf.tr hV_18 (by decide)).put f36 (by decide)).tr hV47 (by decide)), ⟨Or.inl (by decide), (((pw.rf.tr hqw18).st g35 f36 rfl).tr hp50), hk51⟩⟩)
                    · have c_249 : ¬ (u48 ≤ 0) := of_decide_eq_false c_249
                      refine ml_blk 3 (S' := (257, [(6, .int (i18_6 ||| (1 <<< (i79_10 &&& 31)))), (11, .int u48), (0, .ref m0), (2, .int x2), (3, .int x3), (4, .int (f2 f x1)), (5, .int i18_5), (7, .int i18_7), (8, .int (Int64.toInt32 (f4 f (i18_5 + 2)))), (10, .int i79_10)], [.int i18_5, .int u48, .ref m0], M41)) rfl ?_
                      refine ml_call (a := [.ref m0, .int u48, .int i18_5]) (rest := []) rfl (hR45.okc rfl rfl rfl) rfl rfl (rm_wrong hR45 (by omega)) (fun v52 M53 h54 => ?_)
                      obtain ⟨u60, I55, R56, rfl, hR57, hI58, hV59, z61, w62⟩ := h54
                      show ml _ _ _ (260, [(6, .int (i18_6 ||| (1 <<< (i79_10 &&& 31)))), (11, .int u48), (0, .ref m0), (2, .int x2), (3, .int x3), (4, .int (f2 f x1)), (5, .int i18_5), (7, .int i18_7), (8, .int (Int64.toInt32 (f4 f (i18_5 + 2)))), (10, .int i79_10)], [.int u60], M53) _
                      refine ml_st (S' := (261, [(0, .ref m0), (2, .int x2), (3, .int x3), (4, .int (f2 f x1)), (5, .int i18_5), (6, .int (i18_6 ||| (1 <<< (i79_10 &&& 31)))), (7, .int i18_7), (8, .int (Int64.toInt32 (f4 f (i18_5 + 2)))), (11, .int u48)], [], M53)) rfl rfl rfl ?_
                      refine ml_st (S' := (263, [(0, .ref m0), (2, .int x2), (3, .int x3), (4, .int (f2 f x1)), (5, .int i18_5), (6, .int (i18_6 ||| (1 <<< (i79_10 &&& 31)))), (7, .int i18_7), (8, .int (Int64.toInt32 (f4 f (i18_5 + 2)))), (11, .int u48)], [.int u48], M53)) rfl rfl rfl ?_
                      refine ml_if (S1 := (268, [(0, .ref m0), (2, .int x2), (3, .int x3), (4, .int (f2 f x1)), (5, .int i18_5), (6, .int (i18_6 ||| (1 <<< (i79_10 &&& 31)))), (7, .int i18_7), (8, .int (Int64.toInt32 (f4 f (i18_5 + 2))))], [], M53)) (S2 := (266, [(0, .ref m0), (2, .int x2), (3, .int x3), (4, .int (f2 f x1)), (5, .int i18_5), (6, .int (i18_6 ||| (1 <<< (i79_10 &&& 31)))), (7, .int i18_7), (8, .int (Int64.toInt32 (f4 f (i18_5 + 2)))), (11, .int u48)], [], M53)) rfl rfl rfl (fun c_263 => ?_) (fun c_263 => ?_)
                      · have c_263 : u48 = 0 := of_decide_eq_true c_263
                        refine ml_blk 3 (S' := (274, [(0, .ref m0), (2, .int x2), (3, .int x3), (4, .int (f2 f x1)), (5, .int i18_5), (6, .int (i18_6 ||| (1 <<< (i79_10 &&& 31)))), (7, .int i18_7), (8, .int (Int64.toInt32 (f4 f (i18_5 + 2))))], [.int (Int64.toInt32 (f4 f (i18_5 + 2))), .int 6, .int i18_5], M53)) rfl ?_
                        refine ml_blk 2 (S' := (276, [(0, .ref m0), (2, .int x2), (3, .int x3), (4, .int (f2 f x1)), (5, .int i18_5), (6, .int (i18_6 ||| (1 <<< (i79_10 &&& 31)))), (7, .int i18_7), (8, .int (Int64.toInt32 (f4 f (i18_5 + 2))))], [.int (i18_5 + (6 + (Int64.toInt32 (f4 f (i18_5 + 2)))))], M53)) rfl ?_
                        refine ml_st (S' := (278, [(5, .int (i18_5 + (6 + (Int64.toInt32 (f4 f (i18_5 + 2)))))), (0, .ref m0), (2, .int x2), (3, .int x3), (4, .int (f2 f x1)), (6, .int (i18_6 ||| (1 <<< (i79_10 &&& 31)))), (7, .int i18_7), (8, .int (Int64.toInt32 (f4 f (i18_5 + 2))))], [], M53)) rfl rfl rfl ?_
                        refine ml_st (S' := (281, [(7, .int (i18_7 + 1)), (5, .int (i18_5 + (6 + (Int64.toInt32 (f4 f (i18_5 + 2)))))), (0, .ref m0), (2, .int x2), (3, .int x3), (4, .int (f2 f x1)), (6, .int (i18_6 ||| (1 <<< (i79_10 &&& 31)))), (8, .int (Int64.toInt32 (f4 f (i18_5 + 2))))], [], M53)) rfl rfl rfl ?_
                        refine ml_st (S' := (18, [(0, .ref m0), (2, .int x2), (3, .int x3), (4, .int (f2 f x1)), (5, .int (i18_5 + (6 + (Int64.toInt32 (f4 f (i18_5 + 2)))))), (6, .int (i18_6 ||| (1 <<< (i79_10 &&& 31)))), (7, .int (i18_7 + 1))], [], M53)) rfl rfl rfl ?_
                        exact ih_18 (i18_5 + (6 + (Int64.toInt32 (f4 f (i18_5 + 2))))) (i18_6 ||| (1 <<< (i79_10 &&& 31))) (i18_7 + 1) _ _ _ (loop_inc (Int32.not_le.mp c_22) hn_18) hR57 (((eqI.rf.tr hI_18 (by decide)).tr hI46 (by decide)).tr hI58 (by decide)) ((((eqR.rf.tr hV_18 (by decide)).put f36 (by decide)).tr hV47 (by decide)).tr hV59 (by decide)) (⟨by rw [inc_lt (Int32.not_le.mp c_22)]; omega, by rw [inc_lt (Int32.not_le.mp c_22)]; have := i_nle c_22; omega, hb1.eq hra ▸ hnx, ((((pw.rf.tr hqw18).st g35 f36 rfl).tr hp50).eq hV59), (kn.eq hk51 hV59 (by decide))⟩)
                      · have c_263 : ¬ (u48 = 0) := of_decide_eq_false c_263
                        refine ml_st (S' := (267, [(0, .ref m0), (2, .int x2), (3, .int x3), (4, .int (f2 f x1)), (5, .int i18_5), (6, .int (i18_6 ||| (1 <<< (i79_10 &&& 31)))), (7, .int i18_7), (8, .int (Int64.toInt32 (f4 f (i18_5 + 2)))), (11, .int u48)], [.int (-1)], M53)) rfl rfl rfl ?_
                        exact ml_ret rfl (rfl) (⟨_, _, _, rfl, hR57, (((eqI.rf.tr hI_18 (by decide)).tr hI46 (by decide)).tr hI58 (by decide)), ((((eqR.rf.tr hV_18 (by decide)).put f36 (by decide)).tr hV47 (by decide)).tr hV59 (by decide)), ⟨Or.inl (by decide), ((((pw.rf.tr hqw18).st g35 f36 rfl).tr hp50).eq hV59), (kn.eq hk51 hV59 (by decide))⟩⟩)
                  · have c_198 : ¬ (¬ ((i18_6 >>> (i79_10 &&& 31)) &&& 1) = 1) := of_decide_eq_false c_198
                    refine ml_blk 3 (S' := (206, [(0, .ref m0), (2, .int x2), (3, .int x3), (4, .int (f2 f x1)), (5, .int i18_5), (6, .int i18_6), (7, .int i18_7), (8, .int (Int64.toInt32 (f4 f (i18_5 + 2)))), (10, .int i79_10)], [.int i18_5, .int 29, .ref m0], M31)) rfl ?_
                    refine ml_call (a := [.ref m0, .int 29, .int i18_5]) (rest := []) rfl (hR33.okc rfl rfl rfl) rfl rfl (rm_wrong hR33 (by omega)) (fun v63 M64 h65 => ?_)
                    obtain ⟨u71, I66, R67, rfl, hR68, hI69, hV70, z72, w73⟩ := h65
                    show ml _ _ _ (209, [(0, .ref m0), (2, .int x2), (3, .int x3), (4, .int (f2 f x1)), (5, .int i18_5), (6, .int i18_6), (7, .int i18_7), (8, .int (Int64.toInt32 (f4 f (i18_5 + 2)))), (10, .int i79_10)], [.int u71], M64) _
                    refine ml_blk 2 (S' := (211, [(0, .ref m0), (2, .int x2), (3, .int x3), (4, .int (f2 f x1)), (5, .int i18_5), (6, .int i18_6), (7, .int i18_7), (8, .int (Int64.toInt32 (f4 f (i18_5 + 2)))), (10, .int i79_10)], [.int (-1)], M64)) rfl ?_
                    exact ml_ret rfl (rfl) (⟨_, _, _, rfl, hR68, ((eqI.rf.tr hI_18 (by decide)).tr hI69 (by decide)), (((eqR.rf.tr hV_18 (by decide)).put f36 (by decide)).tr hV70 (by decide)), ⟨Or.inl (by decide), (((pw.rf.tr hqw18).st g35 f36 rfl).eq hV70), (kn.eq (kn.st hkn18 e34 g35 f36) hV70 (by decide))⟩⟩)
              · have c_86 : ¬ ((nI 10) ≤ i79_11) := of_decide_eq_false c_86
                have hjl : i79_11.toInt < 10 := by have q := i_nle c_86; rw [nI_val (by decide)] at q; omega
                refine ml_st (S' := (90, [(0, .ref m0), (2, .int x2), (3, .int x3), (4, .int (f2 f x1)), (5, .int i18_5), (6, .int i18_6), (7, .int i18_7), (8, .int (Int64.toInt32 (f4 f (i18_5 + 2)))), (9, .int (pyf py (f2 f i18_5))), (10, .int i79_10), (11, .int i79_11)], [.ref m0], M_18)) rfl rfl rfl ?_
                refine rg_ref (S' := (93, [(0, .ref m0), (2, .int x2), (3, .int x3), (4, .int (f2 f x1)), (5, .int i18_5), (6, .int i18_6), (7, .int i18_7), (8, .int (Int64.toInt32 (f4 f (i18_5 + 2)))), (9, .int (pyf py (f2 f i18_5))), (10, .int i79_10), (11, .int i79_11)], [.ref (q 63)], M_18)) rfl hR_18 rfl rfl ?_
                refine ml_st (S' := (95, [(0, .ref m0), (2, .int x2), (3, .int x3), (4, .int (f2 f x1)), (5, .int i18_5), (6, .int i18_6), (7, .int i18_7), (8, .int (Int64.toInt32 (f4 f (i18_5 + 2)))), (9, .int (pyf py (f2 f i18_5))), (10, .int i79_10), (11, .int i79_11)], [.int i79_11, .ref (q 63)], M_18)) rfl rfl rfl ?_
                have hK74 : KW I_18 R_18 := (hK.mono (cIx hI_18 (by decide)) (cRx hV_18 (by decide)))
                refine ra_ld (k := 63) (S' := (96, [(0, .ref m0), (2, .int x2), (3, .int x3), (4, .int (f2 f x1)), (5, .int i18_5), (6, .int i18_6), (7, .int i18_7), (8, .int (Int64.toInt32 (f4 f (i18_5 + 2)))), (9, .int (pyf py (f2 f i18_5))), (10, .int i79_10), (11, .int i79_11)], [.int (kin i79_11)], M_18)) rfl hR_18 rfl (vin_lt hj0 (by omega)) (hK74.1 i79_11 hj0 hjl) rfl ?_
                refine ml_st (S' := (97, [(0, .ref m0), (2, .int x2), (3, .int x3), (4, .int (f2 f x1)), (5, .int i18_5), (6, .int i18_6), (7, .int i18_7), (8, .int (Int64.toInt32 (f4 f (i18_5 + 2)))), (9, .int (pyf py (f2 f i18_5))), (10, .int i79_10), (11, .int i79_11)], [.int x2, .int (kin i79_11)], M_18)) rfl rfl rfl ?_
                refine ml_if2 (S1 := (134, [(0, .ref m0), (2, .int x2), (3, .int x3), (4, .int (f2 f x1)), (5, .int i18_5), (6, .int i18_6), (7, .int i18_7), (8, .int (Int64.toInt32 (f4 f (i18_5 + 2)))), (9, .int (pyf py (f2 f i18_5))), (10, .int i79_10), (11, .int i79_11)], [], M_18)) (S2 := (100, [(0, .ref m0), (2, .int x2), (3, .int x3), (4, .int (f2 f x1)), (5, .int i18_5), (6, .int i18_6), (7, .int i18_7), (8, .int (Int64.toInt32 (f4 f (i18_5 + 2)))), (9, .int (pyf py (f2 f i18_5))), (10, .int i79_10), (11, .int i79_11)], [], M_18)) rfl rfl rfl (fun c_97 => ?_) (fun c_97 => ?_)
                · have c_97 : ¬ (kin i79_11) = x2 := of_decide_eq_true c_97
                  refine ml_st (S' := (137, [(11, .int (i79_11 + 1)), (0, .ref m0), (2, .int x2), (3, .int x3), (4, .int (f2 f x1)), (5, .int i18_5), (6, .int i18_6), (7, .int i18_7), (8, .int (Int64.toInt32 (f4 f (i18_5 + 2)))), (9, .int (pyf py (f2 f i18_5))), (10, .int i79_10)], [], M_18)) rfl rfl rfl ?_
                  refine ml_st (S' := (79, [(0, .ref m0), (2, .int x2), (3, .int x3), (4, .int (f2 f x1)), (5, .int i18_5), (6, .int i18_6), (7, .int i18_7), (8, .int (Int64.toInt32 (f4 f (i18_5 + 2)))), (9, .int (pyf py (f2 f i18_5))), (10, .int i79_10), (11, .int (i79_11 + 1))], [], M_18)) rfl rfl rfl ?_
                  exact ih_79 i79_10 (i79_11 + 1) (loop_inc (Int32.not_le.mp c_86) hn_79) (⟨by rw [inc_lt (Int32.not_le.mp c_86)]; omega, hjw⟩)
                · have c_97 : ¬ (¬ (kin i79_11) = x2) := of_decide_eq_false c_97
                  refine ml_st (S' := (101, [(0, .ref m0), (2, .int x2), (3, .int x3), (4, .int (f2 f x1)), (5, .int i18_5), (6, .int i18_6), (7, .int i18_7), (8, .int (Int64.toInt32 (f4 f (i18_5 + 2)))), (9, .int (pyf py (f2 f i18_5))), (10, .int i79_10), (11, .int i79_11)], [.ref m0], M_18)) rfl rfl rfl ?_
                  refine rg_int (S' := (104, [(0, .ref m0), (2, .int x2), (3, .int x3), (4, .int (f2 f x1)), (5, .int i18_5), (6, .int i18_6), (7, .int i18_7), (8, .int (Int64.toInt32 (f4 f (i18_5 + 2)))), (9, .int (pyf py (f2 f i18_5))), (10, .int i79_10), (11, .int i79_11)], [.int mj], M_18)) rfl hR_18 rfl ((hI_18 53 (by decide)).trans (hP.2.2.1)) rfl ?_
                  refine ml_st (S' := (105, [(0, .ref m0), (2, .int x2), (3, .int x3), (4, .int (f2 f x1)), (5, .int i18_5), (6, .int i18_6), (7, .int i18_7), (8, .int (Int64.toInt32 (f4 f (i18_5 + 2)))), (9, .int (pyf py (f2 f i18_5))), (10, .int i79_10), (11, .int i79_11)], [.ref m0, .int mj], M_18)) rfl rfl rfl ?_
                  refine rg_ref (S' := (108, [(0, .ref m0), (2, .int x2), (3, .int x3), (4, .int (f2 f x1)), (5, .int i18_5), (6, .int i18_6), (7, .int i18_7), (8, .int (Int64.toInt32 (f4 f (i18_5 + 2)))), (9, .int (pyf py (f2 f i18_5))), (10, .int i79_10), (11, .int i79_11)], [.ref (q 64), .int mj], M_18)) rfl hR_18 rfl rfl ?_
                  refine ml_st (S' := (110, [(0, .ref m0), (2, .int x2), (3, .int x3), (4, .int (f2 f x1)), (5, .int i18_5), (6, .int i18_6), (7, .int i18_7), (8, .int (Int64.toInt32 (f4 f (i18_5 + 2)))), (9, .int (pyf py (f2 f i18_5))), (10, .int i79_10), (11, .int i79_11)], [.int i79_11, .ref (q 64), .int mj], M_18)) rfl rfl rfl ?_
                  obtain ⟨v110, hv110⟩ := hK74.2 i79_11 hj0 hjl
                  refine ra_ld (k := 64) (S' := (111, [(0, .ref m0), (2, .int x2), (3, .int x3), (4, .int (f2 f x1)), (5, .int i18_5), (6, .int i18_6), (7, .int i18_7), (8, .int (Int64.toInt32 (f4 f (i18_5 + 2)))), (9, .int (pyf py (f2 f i18_5))), (10, .int i79_10), (11, .int i79_11)], [.int v110, .int mj], M_18)) rfl hR_18 rfl (vin_lt hj0 (by omega)) (hv110) rfl ?_
                  refine ml_if2 (S1 := (134, [(0, .ref m0), (2, .int x2), (3, .int x3), (4, .int (f2 f x1)), (5, .int i18_5), (6, .int i18_6), (7, .int i18_7), (8, .int (Int64.toInt32 (f4 f (i18_5 + 2)))), (9, .int (pyf py (f2 f i18_5))), (10, .int i79_10), (11, .int i79_11)], [], M_18)) (S2 := (114, [(0, .ref m0), (2, .int x2), (3, .int x3), (4, .int (f2 f x1)), (5, .int i18_5), (6, .int i18_6), (7, .int i18_7), (8, .int (Int64.toInt32 (f4 f (i18_5 + 2)))), (9, .int (pyf py (f2 f i18_5))), (10, .int i79_10), (11, .int i79_11)], [], M_18)) rfl rfl rfl (fun c_111 => ?_) (fun c_111 => ?_)
                  · have c_111 : mj < v110 := of_decide_eq_true c_111
                    refine ml_st (S' := (137, [(11, .int (i79_11 + 1)), (0, .ref m0), (2, .int x2), (3, .int x3), (4, .int (f2 f x1)), (5, .int i18_5), (6, .int i18_6), (7, .int i18_7), (8, .int (Int64.toInt32 (f4 f (i18_5 + 2)))), (9, .int (pyf py (f2 f i18_5))), (10, .int i79_10)], [], M_18)) rfl rfl rfl ?_
                    refine ml_st (S' := (79, [(0, .ref m0), (2, .int x2), (3, .int x3), (4, .int (f2 f x1)), (5, .int i18_5), (6, .int i18_6), (7, .int i18_7), (8, .int (Int64.toInt32 (f4 f (i18_5 + 2)))), (9, .int (pyf py (f2 f i18_5))), (10, .int i79_10), (11, .int (i79_11 + 1))], [], M_18)) rfl rfl rfl ?_
                    exact ih_79 i79_10 (i79_11 + 1) (loop_inc (Int32.not_le.mp c_86) hn_79) (⟨by rw [inc_lt (Int32.not_le.mp c_86)]; omega, hjw⟩)
                  · have c_111 : ¬ (mj < v110) := of_decide_eq_false c_111
                    refine ml_blk 3 (S' := (118, [(0, .ref m0), (2, .int x2), (3, .int x3), (4, .int (f2 f x1)), (5, .int i18_5), (6, .int i18_6), (7, .int i18_7), (8, .int (Int64.toInt32 (f4 f (i18_5 + 2)))), (9, .int (pyf py (f2 f i18_5))), (10, .int i79_10), (11, .int i79_11)], [.ref m0, .int (pyf py (f2 f i18_5)), .ref m0], M_18)) rfl ?_
                    refine rg_ref (S' := (121, [(0, .ref m0), (2, .int x2), (3, .int x3), (4, .int (f2 f x1)), (5, .int i18_5), (6, .int i18_6), (7, .int i18_7), (8, .int (Int64.toInt32 (f4 f (i18_5 + 2)))), (9, .int (pyf py (f2 f i18_5))), (10, .int i79_10), (11, .int i79_11)], [.ref (q 62), .int (pyf py (f2 f i18_5)), .ref m0], M_18)) rfl hR_18 rfl rfl ?_
                    refine ml_st (S' := (123, [(0, .ref m0), (2, .int x2), (3, .int x3), (4, .int (f2 f x1)), (5, .int i18_5), (6, .int i18_6), (7, .int i18_7), (8, .int (Int64.toInt32 (f4 f (i18_5 + 2)))), (9, .int (pyf py (f2 f i18_5))), (10, .int i79_10), (11, .int i79_11)], [.int i79_11, .ref (q 62), .int (pyf py (f2 f i18_5)), .ref m0], M_18)) rfl rfl rfl ?_
                    refine ra_kn (S' := (124, [(0, .ref m0), (2, .int x2), (3, .int x3), (4, .int (f2 f x1)), (5, .int i18_5), (6, .int i18_6), (7, .int i18_7), (8, .int (Int64.toInt32 (f4 f (i18_5 + 2)))), (9, .int (pyf py (f2 f i18_5))), (10, .int i79_10), (11, .int i79_11)], [.ref (g.2.1 (15 + Int32.toNatClampNeg i79_11)), .int (pyf py (f2 f i18_5)), .ref m0], M_18)) rfl hR_18 hj0 hjl rfl ?_
                    have hY75 : SK S cN sa sl ch I_18 R_18 := (hY.mono (cIx hI_18 (by decide)) (cRx hV_18 (by decide)))
                    refine ml_call (a := [.ref m0, .int (pyf py (f2 f i18_5)), .ref (g.2.1 (15 + Int32.toNatClampNeg i79_11))]) (rest := []) rfl (hR_18.okc rfl rfl rfl) rfl rfl (rm_is hR_18 hY75 (hy9.2.2.1) (hy9.2.2.2) (by show 15 ≤ 15 + i79_11.toInt.toNat ∧ 15 + i79_11.toInt.toNat < 30; omega) (by omega)) (fun v76 M77 h78 => ?_)
                    obtain ⟨⟨u79, rfl, z80⟩, h78⟩ := h78
                    rw [h78]
                    show ml _ _ _ (127, [(0, .ref m0), (2, .int x2), (3, .int x3), (4, .int (f2 f x1)), (5, .int i18_5), (6, .int i18_6), (7, .int i18_7), (8, .int (Int64.toInt32 (f4 f (i18_5 + 2)))), (9, .int (pyf py (f2 f i18_5))), (10, .int i79_10), (11, .int i79_11)], [.int u79], M_18) _
                    refine ml_if (S1 := (134, [(0, .ref m0), (2, .int x2), (3, .int x3), (4, .int (f2 f x1)), (5, .int i18_5), (6, .int i18_6), (7, .int i18_7), (8, .int (Int64.toInt32 (f4 f (i18_5 + 2)))), (9, .int (pyf py (f2 f i18_5))), (10, .int i79_10), (11, .int i79_11)], [], M_18)) (S2 := (130, [(0, .ref m0), (2, .int x2), (3, .int x3), (4, .int (f2 f x1)), (5, .int i18_5), (6, .int i18_6), (7, .int i18_7), (8, .int (Int64.toInt32 (f4 f (i18_5 + 2)))), (9, .int (pyf py (f2 f i18_5))), (10, .int i79_10), (11, .int i79_11)], [], M_18)) rfl rfl rfl (fun c_127 => ?_) (fun c_127 => ?_)
                    · have c_127 : u79 = 0 := of_decide_eq_true c_127
                      refine ml_st (S' := (137, [(11, .int (i79_11 + 1)), (0, .ref m0), (2, .int x2), (3, .int x3), (4, .int (f2 f x1)), (5, .int i18_5), (6, .int i18_6), (7, .int i18_7), (8, .int (Int64.toInt32 (f4 f (i18_5 + 2)))), (9, .int (pyf py (f2 f i18_5))), (10, .int i79_10)], [], M_18)) rfl rfl rfl ?_
                      refine ml_st (S' := (79, [(0, .ref m0), (2, .int x2), (3, .int x3), (4, .int (f2 f x1)), (5, .int i18_5), (6, .int i18_6), (7, .int i18_7), (8, .int (Int64.toInt32 (f4 f (i18_5 + 2)))), (9, .int (pyf py (f2 f i18_5))), (10, .int i79_10), (11, .int (i79_11 + 1))], [], M_18)) rfl rfl rfl ?_
                      exact ih_79 i79_10 (i79_11 + 1) (loop_inc (Int32.not_le.mp c_86) hn_79) (⟨by rw [inc_lt (Int32.not_le.mp c_86)]; omega, hjw⟩)
                    · have c_127 : ¬ (u79 = 0) := of_decide_eq_false c_127
                      refine ml_st (S' := (132, [(0, .ref m0), (2, .int x2), (3, .int x3), (4, .int (f2 f x1)), (5, .int i18_5), (6, .int i18_6), (7, .int i18_7), (8, .int (Int64.toInt32 (f4 f (i18_5 + 2)))), (9, .int (pyf py (f2 f i18_5))), (10, .int i79_10), (11, .int i79_11)], [.int i79_11], M_18)) rfl rfl rfl ?_
                      refine ml_st (S' := (134, [(0, .ref m0), (2, .int x2), (3, .int x3), (4, .int (f2 f x1)), (5, .int i18_5), (6, .int i18_6), (7, .int i18_7), (8, .int (Int64.toInt32 (f4 f (i18_5 + 2)))), (9, .int (pyf py (f2 f i18_5))), (10, .int i79_11), (11, .int i79_11)], [], M_18)) rfl rfl rfl ?_
                      refine ml_st (S' := (137, [(11, .int (i79_11 + 1)), (0, .ref m0), (2, .int x2), (3, .int x3), (4, .int (f2 f x1)), (5, .int i18_5), (6, .int i18_6), (7, .int i18_7), (8, .int (Int64.toInt32 (f4 f (i18_5 + 2)))), (9, .int (pyf py (f2 f i18_5))), (10, .int i79_11)], [], M_18)) rfl rfl rfl ?_
                      refine ml_st (S' := (79, [(0, .ref m0), (2, .int x2), (3, .int x3), (4, .int (f2 f x1)), (5, .int i18_5), (6, .int i18_6), (7, .int i18_7), (8, .int (Int64.toInt32 (f4 f (i18_5 + 2)))), (9, .int (pyf py (f2 f i18_5))), (10, .int i79_11), (11, .int (i79_11 + 1))], [], M_18)) rfl rfl rfl ?_
                      exact ih_79 i79_11 (i79_11 + 1) (loop_inc (Int32.not_le.mp c_86) hn_79) (⟨by rw [inc_lt (Int32.not_le.mp c_86)]; omega, Or.inr ⟨hj0, hjl, Decidable.not_not.mp c_97⟩⟩)
          exact L_79 _ (-1) 0 (Nat.le_refl _) (⟨by decide, Or.inl (by decide)⟩)
        · have c_47 : ¬ ((tgf f cp pa (f2 f i18_5)) = 1) := of_decide_eq_false c_47
          refine ml_blk 3 (S' := (55, [(8, .int (Int64.toInt32 (f4 f (i18_5 + 2)))), (0, .ref m0), (2, .int x2), (3, .int x3), (4, .int (f2 f x1)), (5, .int i18_5), (6, .int i18_6), (7, .int i18_7)], [.int i18_5, .int 28, .ref m0], M_18)) rfl ?_
          refine ml_call (a := [.ref m0, .int 28, .int i18_5]) (rest := []) rfl (hR_18.okc rfl rfl rfl) rfl rfl (rm_wrong hR_18 (by omega)) (fun v81 M82 h83 => ?_)
          obtain ⟨u89, I84, R85, rfl, hR86, hI87, hV88, z90, w91⟩ := h83
          show ml _ _ _ (58, [(8, .int (Int64.toInt32 (f4 f (i18_5 + 2)))), (0, .ref m0), (2, .int x2), (3, .int x3), (4, .int (f2 f x1)), (5, .int i18_5), (6, .int i18_6), (7, .int i18_7)], [.int u89], M82) _
          refine ml_blk 2 (S' := (60, [(8, .int (Int64.toInt32 (f4 f (i18_5 + 2)))), (0, .ref m0), (2, .int x2), (3, .int x3), (4, .int (f2 f x1)), (5, .int i18_5), (6, .int i18_6), (7, .int i18_7)], [.int (-1)], M82)) rfl ?_
          exact ml_ret rfl (rfl) (⟨_, _, _, rfl, hR86, ((eqI.rf.tr hI_18 (by decide)).tr hI87 (by decide)), ((eqR.rf.tr hV_18 (by decide)).tr hV88 (by decide)), ⟨Or.inl (by decide), ((pw.rf.tr hqw18).eq hV88), (kn.eq hkn18 hV88 (by decide))⟩⟩)
  exact L_18 _ (x1 + 2) 0 0 _ _ _ (Nat.le_refl _) hR eqI.rf eqR.rf (⟨by decide, by show (0 : Int) ≤ _; exact f2_pos, by rw [show ((f2 f x1).toInt - (0 : Int32).toInt).toNat = (f2 f x1).toInt.toNat by have : (0 : Int32).toInt = 0 := rfl; omega]; exact hat.2.2.1, pw.rf, hkn⟩)
end
section
set_option maxHeartbeats 2000000 in
theorem rm_attr4 {g : xe_G}  {m0 : Nat} {q : Nat → Nat} {z : Nat × Nat} {I : rI} {R : rR} {M : mi_H} {x1 x2 x3 x4 x5 x6 nf : Int32} {n : Nat} {f : Nat → Int32} {S cN : Nat} {sa sl ch : Nat → Int32} {cp mj : Int32} {pa py : Nat → Int32}  (hR : RS g m0 q z I R M) (hk58 : I 58 = some nf) (hF : FK n f I R) (hY : SK S cN sa sl ch I R) (hP : PK n f S cp mj pa py I R) (hw : 4 ≤ x1.toInt ∧ x1.toInt ≤ 9) (h0 : 0 ≤ x3.toInt) (h1 : x3.toInt ≤ x4.toInt) (h2 : x4.toInt ≤ n) (hN : NW f n I) {d : Nat} (hd : 6 ≤ d) : mt (mT g) d 177 [.ref m0, .int x1, .int x2, .int x3, .int x4, .int x5, .int x6] M (fun v M' => ∃ (x : Int32) (I' : rI) (R' : rR), v = some (.int x) ∧ RS g m0 q z I' R' M' ∧ eqI [47, 48, 65, 67, 68, 69, 70, 71, 72] I I' ∧ eqR [] R R' ∧ NW f n I') := by
  obtain ⟨d, rfl⟩ : ∃ e, d = e + 1 := ⟨d - 1, by omega⟩
  refine mt_in (b := mb_177 g) rfl rfl ?_
  show ml (mT g) d (mb_177 g).2 (0, [(0, .ref m0), (1, .int x1), (2, .int x2), (3, .int x3), (4, .int x4), (5, .int x5), (6, .int x6)], [], M) _
  have hn := hF.1
  refine ml_st (S' := (1, [(0, .ref m0), (1, .int x1), (2, .int x2), (3, .int x3), (4, .int x4), (5, .int x5), (6, .int x6)], [.int x1], M)) rfl rfl rfl ?_
  refine ml_sw rfl (fun t_1 ht_1 => ?_)
  have kt_1 := ht_1
  have ht_1 : t_1 ∈ [56, 208, 219, 398, 400, 542, 550, 600] := mi_sw_sub ht_1 (by decide)
  simp only [List.mem_cons, List.not_mem_nil, or_false] at ht_1
  rcases ht_1 with rfl | rfl | rfl | rfl | rfl | rfl | rfl | rfl
  · show ml _ _ _ (56, [(0, .ref m0), (1, .int x1), (2, .int x2), (3, .int x3), (4, .int x4), (5, .int x5), (6, .int x6)], [], M) _
    exfalso
    rcases w49 hw with h | h | h | h | h | h <;> (rw [h] at kt_1; exact absurd kt_1 (by decide))
  · show ml _ _ _ (208, [(0, .ref m0), (1, .int x1), (2, .int x2), (3, .int x3), (4, .int x4), (5, .int x5), (6, .int x6)], [], M) _
    exfalso
    rcases w49 hw with h | h | h | h | h | h <;> (rw [h] at kt_1; exact absurd kt_1 (by decide))
  · show ml _ _ _ (219, [(0, .ref m0), (1, .int x1), (2, .int x2), (3, .int x3), (4, .int x4), (5, .int x5), (6, .int x6)], [], M) _
    refine ml_blk 3 (S' := (223, [(0, .ref m0), (1, .int x1), (2, .int x2), (3, .int x3), (4, .int x4), (5, .int x5), (6, .int x6)], [.int (x4 - x3)], M)) rfl ?_
    refine ml_st (S' := (224, [(0, .ref m0), (1, .int x1), (2, .int x2), (3, .int x3), (4, .int x4), (5, .int x5), (6, .int x6)], [.int 2, .int (x4 - x3)], M)) rfl rfl rfl ?_
    refine ml_if2 (S1 := (243, [], [], M)) (S2 := (227, [(0, .ref m0), (1, .int x1), (2, .int x2), (3, .int x3), (4, .int x4), (5, .int x5), (6, .int x6)], [], M)) rfl rfl rfl (fun c_224 => ?_) (fun c_224 => ?_)
    · have c_224 : (x4 - x3) < 2 := of_decide_eq_true c_224
      refine ml_st (S' := (245, [], [.int 30], M)) rfl rfl rfl ?_
      exact ml_ret rfl (rfl) (⟨_, _, _, rfl, hR, eqI.rf, eqR.rf, hN⟩)
    · have c_224 : ¬ ((x4 - x3) < 2) := of_decide_eq_false c_224
      have hd2 := i_nlt c_224
      rw [i_sub (by omega) (by omega)] at hd2
      have i2_ : (2 : Int32).toInt = 2 := rfl
      have hc0 := f2_pos (f := f) (x := x3)
      have hc1 := f2_le (f := f) (x := x3)
      refine ml_blk 3 (S' := (231, [(0, .ref m0), (1, .int x1), (2, .int x2), (3, .int x3), (4, .int x4), (5, .int x5), (6, .int x6)], [.int (x4 - x3)], M)) rfl ?_
      refine ml_blk 3 (S' := (234, [(0, .ref m0), (1, .int x1), (2, .int x2), (3, .int x3), (4, .int x4), (5, .int x5), (6, .int x6)], [.ref m0, .int 2, .int 2, .int (x4 - x3)], M)) rfl ?_
      refine ml_st (S' := (235, [(0, .ref m0), (1, .int x1), (2, .int x2), (3, .int x3), (4, .int x4), (5, .int x5), (6, .int x6)], [.int x3, .ref m0, .int 2, .int 2, .int (x4 - x3)], M)) rfl rfl rfl ?_
      refine ml_call (a := [.ref m0, .int x3]) (rest := [.int 2, .int 2, .int (x4 - x3)]) rfl (hR.okc rfl rfl rfl) rfl rfl (rm_u2 hR hF (h0) (by omega) (by omega)) (fun v11 M12 h13 => ?_)
      obtain ⟨rfl, h13⟩ := h13
      rw [h13]
      show ml _ _ _ (238, [(0, .ref m0), (1, .int x1), (2, .int x2), (3, .int x3), (4, .int x4), (5, .int x5), (6, .int x6)], [.int (f2 f x3), .int 2, .int 2, .int (x4 - x3)], M) _
      refine ml_blk 2 (S' := (240, [(0, .ref m0), (1, .int x1), (2, .int x2), (3, .int x3), (4, .int x4), (5, .int x5), (6, .int x6)], [.int (2 + (2 * (f2 f x3))), .int (x4 - x3)], M)) rfl ?_
      refine ml_if2 (S1 := (246, [(0, .ref m0), (1, .int x1), (2, .int x2), (3, .int x3), (4, .int x4), (5, .int x5), (6, .int x6)], [], M)) (S2 := (243, [], [], M)) rfl rfl rfl (fun c_240 => ?_) (fun c_240 => ?_)
      · have c_240 : (x4 - x3) = (2 + (2 * (f2 f x3))) := of_decide_eq_true c_240
        have hde : (x4 - x3).toInt = (2 + 2 * f2 f x3).toInt := congrArg Int32.toInt c_240
        rw [i_sub (by omega) (by omega), i_add (by rw [two_k hc0 (by omega)]; omega) (by rw [two_k hc0 (by omega)]; omega), two_k hc0 (by omega)] at hde
        refine ml_blk 2 (S' := (249, [(0, .ref m0), (1, .int x1), (2, .int x2), (3, .int x3), (4, .int x4), (5, .int x5), (6, .int x6)], [.int 9, .int x1], M)) rfl ?_
        refine ml_if2 (S1 := (265, [(0, .ref m0), (1, .int x1), (3, .int x3), (5, .int x5), (6, .int x6)], [], M)) (S2 := (252, [(0, .ref m0), (1, .int x1), (2, .int x2), (3, .int x3), (4, .int x4), (5, .int x5), (6, .int x6)], [], M)) rfl rfl rfl (fun c_249 => ?_) (fun c_249 => ?_)
        · have c_249 : ¬ x1 = 9 := of_decide_eq_true c_249
          refine ml_st (S' := (266, [(0, .ref m0), (1, .int x1), (3, .int x3), (5, .int x5), (6, .int x6)], [.int 0], M)) rfl rfl rfl ?_
          refine ml_st (S' := (268, [(0, .ref m0), (1, .int x1), (3, .int x3), (5, .int x5), (6, .int x6), (9, .int 0)], [], M)) rfl rfl rfl ?_
          have L_268 : ∀ (n_268 : Nat) (i268_9 : Int32), (2147483648 - i268_9.toInt).toNat ≤ n_268 → 0 ≤ i268_9.toInt → ml (mT g) d (mb_177 g).2 (268, [(0, .ref m0), (1, .int x1), (3, .int x3), (5, .int x5), (6, .int x6), (9, .int i268_9)], [], M) (fun v M' => ∃ (x : Int32) (I' : rI) (R' : rR), v = some (.int x) ∧ RS g m0 q z I' R' M' ∧ eqI [47, 48, 65, 67, 68, 69, 70, 71, 72] I I' ∧ eqR [] R R' ∧ NW f n I') := by
            intro n_268
            induction n_268 with
            | zero => intro i268_9 hn; exact (loop_zero hn).elim
            | succ n_268 ih_268 =>
              intro i268_9 hn_268 hi_268
              refine ml_blk 3 (S' := (272, [(0, .ref m0), (1, .int x1), (3, .int x3), (5, .int x5), (6, .int x6), (9, .int i268_9)], [.int x3, .ref m0, .int i268_9], M)) rfl ?_
              refine ml_call (a := [.ref m0, .int x3]) (rest := [.int i268_9]) rfl (hR.okc rfl rfl rfl) rfl rfl (rm_u2 hR hF (h0) (by omega) (by omega)) (fun v14 M15 h16 => ?_)
              obtain ⟨rfl, h16⟩ := h16
              rw [h16]
              show ml _ _ _ (275, [(0, .ref m0), (1, .int x1), (3, .int x3), (5, .int x5), (6, .int x6), (9, .int i268_9)], [.int (f2 f x3), .int i268_9], M) _
              refine ml_if2 (S1 := (329, [(0, .ref m0), (1, .int x1), (3, .int x3), (5, .int x5), (6, .int x6), (9, .int i268_9)], [], M)) (S2 := (278, [(0, .ref m0), (1, .int x1), (3, .int x3), (5, .int x5), (6, .int x6), (9, .int i268_9)], [], M)) rfl rfl rfl (fun c_275 => ?_) (fun c_275 => ?_)
              · have c_275 : (f2 f x3) ≤ i268_9 := of_decide_eq_true c_275
                refine ml_blk 2 (S' := (332, [(0, .ref m0), (1, .int x1), (3, .int x3), (5, .int x5), (6, .int x6), (9, .int i268_9)], [.int 7, .int x1], M)) rfl ?_
                refine ml_if2 (S1 := (349, [(0, .ref m0), (1, .int x1), (3, .int x3), (5, .int x5)], [], M)) (S2 := (335, [(0, .ref m0), (1, .int x1), (3, .int x3), (5, .int x5), (6, .int x6), (9, .int i268_9)], [], M)) rfl rfl rfl (fun c_332 => ?_) (fun c_332 => ?_)
                · have c_332 : ¬ x1 = 7 := of_decide_eq_true c_332
                  refine ml_blk 2 (S' := (351, [(0, .ref m0), (1, .int x1), (3, .int x3), (5, .int x5)], [.int 2, .int x1], M)) rfl ?_
                  refine ml_if2 (S1 := (366, [(0, .ref m0), (1, .int x1), (3, .int x3)], [], M)) (S2 := (354, [(0, .ref m0), (1, .int x1), (3, .int x3), (5, .int x5)], [], M)) rfl rfl rfl (fun c_351 => ?_) (fun c_351 => ?_)
                  rotate_left
                  · exact absurd ((show ¬ x1 = 2 from fun h => by have q := hw.1; rw [h] at q; exact absurd q (by decide))) (of_decide_eq_false c_351)
                  refine ml_blk 2 (S' := (369, [(0, .ref m0), (1, .int x1), (3, .int x3)], [.int 7, .int x1], M)) rfl ?_
                  refine ml_if2 (S1 := (381, [(0, .ref m0), (1, .int x1), (3, .int x3)], [], M)) (S2 := (372, [(0, .ref m0), (1, .int x1), (3, .int x3)], [], M)) rfl rfl rfl (fun c_369 => ?_) (fun c_369 => ?_)
                  · have c_369 : ¬ x1 = 7 := of_decide_eq_true c_369
                    refine ml_blk 2 (S' := (384, [(0, .ref m0), (1, .int x1), (3, .int x3)], [.int 9, .int x1], M)) rfl ?_
                    refine ml_if2 (S1 := (396, [], [], M)) (S2 := (387, [(0, .ref m0), (1, .int x1), (3, .int x3)], [], M)) rfl rfl rfl (fun c_384 => ?_) (fun c_384 => ?_)
                    · have c_384 : ¬ x1 = 9 := of_decide_eq_true c_384
                      refine ml_st (S' := (397, [], [.int 0], M)) rfl rfl rfl ?_
                      exact ml_ret rfl (rfl) (⟨_, _, _, rfl, hR, eqI.rf, eqR.rf, hN⟩)
                    · have c_384 : ¬ (¬ x1 = 9) := of_decide_eq_false c_384
                      refine ml_blk 3 (S' := (390, [(0, .ref m0), (1, .int x1), (3, .int x3)], [.int x3, .ref m0, .ref m0], M)) rfl ?_
                      refine ml_call (a := [.ref m0, .int x3]) (rest := [.ref m0]) rfl (hR.okc rfl rfl rfl) rfl rfl (rm_u2 hR hF (h0) (by omega) (by omega)) (fun v17 M18 h19 => ?_)
                      obtain ⟨rfl, h19⟩ := h19
                      rw [h19]
                      show ml _ _ _ (393, [(0, .ref m0), (1, .int x1), (3, .int x3)], [.int (f2 f x3), .ref m0], M) _
                      refine rp_int rfl hR rfl (fun M20 I21 hR22 e23 f24 => ?_)
                      show ml _ _ _ (396, [], [], M20) _
                      refine ml_st (S' := (397, [], [.int 0], M20)) rfl rfl rfl ?_
                      exact ml_ret rfl (rfl) (⟨_, _, _, rfl, hR22, (eqI.rf.put f24 (by decide)), eqR.rf, (hN.put (by decide) e23 f24)⟩)
                  · have c_369 : ¬ (¬ x1 = 7) := of_decide_eq_false c_369
                    refine ml_blk 3 (S' := (375, [(0, .ref m0), (1, .int x1), (3, .int x3)], [.int x3, .ref m0, .ref m0], M)) rfl ?_
                    refine ml_call (a := [.ref m0, .int x3]) (rest := [.ref m0]) rfl (hR.okc rfl rfl rfl) rfl rfl (rm_u2 hR hF (h0) (by omega) (by omega)) (fun v25 M26 h27 => ?_)
                    obtain ⟨rfl, h27⟩ := h27
                    rw [h27]
                    show ml _ _ _ (378, [(0, .ref m0), (1, .int x1), (3, .int x3)], [.int (f2 f x3), .ref m0], M) _
                    refine rp_int rfl hR rfl (fun M28 I29 hR30 e31 f32 => ?_)
                    show ml _ _ _ (381, [(0, .ref m0), (1, .int x1), (3, .int x3)], [], M28) _
                    refine ml_blk 2 (S' := (384, [(0, .ref m0), (1, .int x1), (3, .int x3)], [.int 9, .int x1], M28)) rfl ?_
                    refine ml_if2 (S1 := (396, [], [], M28)) (S2 := (387, [(0, .ref m0), (1, .int x1), (3, .int x3)], [], M28)) rfl rfl rfl (fun c_384 => ?_) (fun c_384 => ?_)
                    · have c_384 : ¬ x1 = 9 := of_decide_eq_true c_384
                      refine ml_st (S' := (397, [], [.int 0], M28)) rfl rfl rfl ?_
                      exact ml_ret rfl (rfl) (⟨_, _, _, rfl, hR30, (eqI.rf.put f32 (by decide)), eqR.rf, (hN.put (by decide) e31 f32)⟩)
                    · have c_384 : ¬ (¬ x1 = 9) := of_decide_eq_false c_384
                      refine ml_blk 3 (S' := (390, [(0, .ref m0), (1, .int x1), (3, .int x3)], [.int x3, .ref m0, .ref m0], M28)) rfl ?_
                      have hF33 : FK n f I29 R := (hF.mono (pIx f32 (by decide)) (fun _ _ => rfl))
                      refine ml_call (a := [.ref m0, .int x3]) (rest := [.ref m0]) rfl (hR30.okc rfl rfl rfl) rfl rfl (rm_u2 hR30 hF33 (h0) (by omega) (by omega)) (fun v34 M35 h36 => ?_)
                      obtain ⟨rfl, h36⟩ := h36
                      rw [h36]
                      show ml _ _ _ (393, [(0, .ref m0), (1, .int x1), (3, .int x3)], [.int (f2 f x3), .ref m0], M28) _
                      refine rp_int rfl hR30 rfl (fun M37 I38 hR39 e40 f41 => ?_)
                      show ml _ _ _ (396, [], [], M37) _
                      refine ml_st (S' := (397, [], [.int 0], M37)) rfl rfl rfl ?_
                      exact ml_ret rfl (rfl) (⟨_, _, _, rfl, hR39, ((eqI.rf.put f32 (by decide)).put f41 (by decide)), eqR.rf, ((hN.put (by decide) e31 f32).put (by decide) e40 f41)⟩)
                · have c_332 : ¬ (¬ x1 = 7) := of_decide_eq_false c_332
                  refine ml_blk 3 (S' := (340, [(0, .ref m0), (1, .int x1), (3, .int x3), (5, .int x5), (6, .int x6), (9, .int i268_9)], [.int (x6 >>> (6 &&& 31))], M)) rfl ?_
                  refine ml_blk 3 (S' := (343, [(0, .ref m0), (1, .int x1), (3, .int x3), (5, .int x5), (6, .int x6), (9, .int i268_9)], [.int 1, .int ((x6 >>> (6 &&& 31)) &&& 1)], M)) rfl ?_
                  refine ml_if2 (S1 := (349, [(0, .ref m0), (1, .int x1), (3, .int x3), (5, .int x5)], [], M)) (S2 := (346, [(0, .ref m0), (1, .int x1), (3, .int x3), (5, .int x5), (6, .int x6), (9, .int i268_9)], [], M)) rfl rfl rfl (fun c_343 => ?_) (fun c_343 => ?_)
                  · have c_343 : ¬ ((x6 >>> (6 &&& 31)) &&& 1) = 1 := of_decide_eq_true c_343
                    refine ml_blk 2 (S' := (351, [(0, .ref m0), (1, .int x1), (3, .int x3), (5, .int x5)], [.int 2, .int x1], M)) rfl ?_
                    refine ml_if2 (S1 := (366, [(0, .ref m0), (1, .int x1), (3, .int x3)], [], M)) (S2 := (354, [(0, .ref m0), (1, .int x1), (3, .int x3), (5, .int x5)], [], M)) rfl rfl rfl (fun c_351 => ?_) (fun c_351 => ?_)
                    rotate_left
                    · exact absurd ((show ¬ x1 = 2 from fun h => by have q := hw.1; rw [h] at q; exact absurd q (by decide))) (of_decide_eq_false c_351)
                    refine ml_blk 2 (S' := (369, [(0, .ref m0), (1, .int x1), (3, .int x3)], [.int 7, .int x1], M)) rfl ?_
                    refine ml_if2 (S1 := (381, [(0, .ref m0), (1, .int x1), (3, .int x3)], [], M)) (S2 := (372, [(0, .ref m0), (1, .int x1), (3, .int x3)], [], M)) rfl rfl rfl (fun c_369 => ?_) (fun c_369 => ?_)
                    · have c_369 : ¬ x1 = 7 := of_decide_eq_true c_369
                      refine ml_blk 2 (S' := (384, [(0, .ref m0), (1, .int x1), (3, .int x3)], [.int 9, .int x1], M)) rfl ?_
                      refine ml_if2 (S1 := (396, [], [], M)) (S2 := (387, [(0, .ref m0), (1, .int x1), (3, .int x3)], [], M)) rfl rfl rfl (fun c_384 => ?_) (fun c_384 => ?_)
                      · have c_384 : ¬ x1 = 9 := of_decide_eq_true c_384
                        refine ml_st (S' := (397, [], [.int 0], M)) rfl rfl rfl ?_
                        exact ml_ret rfl (rfl) (⟨_, _, _, rfl, hR, eqI.rf, eqR.rf, hN⟩)
                      · have c_384 : ¬ (¬ x1 = 9) := of_decide_eq_false c_384
                        refine ml_blk 3 (S' := (390, [(0, .ref m0), (1, .int x1), (3, .int x3)], [.int x3, .ref m0, .ref m0], M)) rfl ?_
                        refine ml_call (a := [.ref m0, .int x3]) (rest := [.ref m0]) rfl (hR.okc rfl rfl rfl) rfl rfl (rm_u2 hR hF (h0) (by omega) (by omega)) (fun v42 M43 h44 => ?_)
                        obtain ⟨rfl, h44⟩ := h44
                        rw [h44]
                        show ml _ _ _ (393, [(0, .ref m0), (1, .int x1), (3, .int x3)], [.int (f2 f x3), .ref m0], M) _
                        refine rp_int rfl hR rfl (fun M45 I46 hR47 e48 f49 => ?_)
                        show ml _ _ _ (396, [], [], M45) _
                        refine ml_st (S' := (397, [], [.int 0], M45)) rfl rfl rfl ?_
                        exact ml_ret rfl (rfl) (⟨_, _, _, rfl, hR47, (eqI.rf.put f49 (by decide)), eqR.rf, (hN.put (by decide) e48 f49)⟩)
                    · have c_369 : ¬ (¬ x1 = 7) := of_decide_eq_false c_369
                      refine ml_blk 3 (S' := (375, [(0, .ref m0), (1, .int x1), (3, .int x3)], [.int x3, .ref m0, .ref m0], M)) rfl ?_
                      refine ml_call (a := [.ref m0, .int x3]) (rest := [.ref m0]) rfl (hR.okc rfl rfl rfl) rfl rfl (rm_u2 hR hF (h0) (by omega) (by omega)) (fun v50 M51 h52 => ?_)
                      obtain ⟨rfl, h52⟩ := h52
                      rw [h52]
                      show ml _ _ _ (378, [(0, .ref m0), (1, .int x1), (3, .int x3)], [.int (f2 f x3), .ref m0], M) _
                      refine rp_int rfl hR rfl (fun M53 I54 hR55 e56 f57 => ?_)
                      show ml _ _ _ (381, [(0, .ref m0), (1, .int x1), (3, .int x3)], [], M53) _
                      refine ml_blk 2 (S' := (384, [(0, .ref m0), (1, .int x1), (3, .int x3)], [.int 9, .int x1], M53)) rfl ?_
                      refine ml_if2 (S1 := (396, [], [], M53)) (S2 := (387, [(0, .ref m0), (1, .int x1), (3, .int x3)], [], M53)) rfl rfl rfl (fun c_384 => ?_) (fun c_384 => ?_)
                      · have c_384 : ¬ x1 = 9 := of_decide_eq_true c_384
                        refine ml_st (S' := (397, [], [.int 0], M53)) rfl rfl rfl ?_
                        exact ml_ret rfl (rfl) (⟨_, _, _, rfl, hR55, (eqI.rf.put f57 (by decide)), eqR.rf, (hN.put (by decide) e56 f57)⟩)
                      · have c_384 : ¬ (¬ x1 = 9) := of_decide_eq_false c_384
                        refine ml_blk 3 (S' := (390, [(0, .ref m0), (1, .int x1), (3, .int x3)], [.int x3, .ref m0, .ref m0], M53)) rfl ?_
                        have hF58 : FK n f I54 R := (hF.mono (pIx f57 (by decide)) (fun _ _ => rfl))
                        refine ml_call (a := [.ref m0, .int x3]) (rest := [.ref m0]) rfl (hR55.okc rfl rfl rfl) rfl rfl (rm_u2 hR55 hF58 (h0) (by omega) (by omega)) (fun v59 M60 h61 => ?_)
                        obtain ⟨rfl, h61⟩ := h61
                        rw [h61]
                        show ml _ _ _ (393, [(0, .ref m0), (1, .int x1), (3, .int x3)], [.int (f2 f x3), .ref m0], M53) _
                        refine rp_int rfl hR55 rfl (fun M62 I63 hR64 e65 f66 => ?_)
                        show ml _ _ _ (396, [], [], M62) _
                        refine ml_st (S' := (397, [], [.int 0], M62)) rfl rfl rfl ?_
                        exact ml_ret rfl (rfl) (⟨_, _, _, rfl, hR64, ((eqI.rf.put f57 (by decide)).put f66 (by decide)), eqR.rf, ((hN.put (by decide) e56 f57).put (by decide) e65 f66)⟩)
                  · have c_343 : ¬ (¬ ((x6 >>> (6 &&& 31)) &&& 1) = 1) := of_decide_eq_false c_343
                    refine ml_st (S' := (348, [(0, .ref m0), (1, .int x1), (3, .int x3), (5, .int x5), (6, .int x6), (9, .int i268_9)], [.int 35], M)) rfl rfl rfl ?_
                    exact ml_ret rfl (rfl) (⟨_, _, _, rfl, hR, eqI.rf, eqR.rf, hN⟩)
              · have c_275 : ¬ ((f2 f x3) ≤ i268_9) := of_decide_eq_false c_275
                have hjl := i_nle c_275
                have hjk : (x3 + 2 + 2 * i268_9).toInt = x3.toInt + 2 + 2 * i268_9.toInt := by have d2 : (x3 + 2).toInt = x3.toInt + 2 := (by rw [i_add (by omega) (by omega), i2_]); rw [i_add (by rw [two_k hi_268 (by omega)]; omega) (by rw [two_k hi_268 (by omega)]; omega), two_k hi_268 (by omega), d2]
                refine ml_blk 3 (S' := (281, [(0, .ref m0), (1, .int x1), (3, .int x3), (5, .int x5), (6, .int x6), (9, .int i268_9)], [.int x3, .ref m0, .ref m0], M)) rfl ?_
                refine ml_blk 3 (S' := (284, [(0, .ref m0), (1, .int x1), (3, .int x3), (5, .int x5), (6, .int x6), (9, .int i268_9)], [.int 2, .int (x3 + 2), .ref m0, .ref m0], M)) rfl ?_
                refine ml_blk 3 (S' := (288, [(0, .ref m0), (1, .int x1), (3, .int x3), (5, .int x5), (6, .int x6), (9, .int i268_9)], [.int ((x3 + 2) + (2 * i268_9)), .ref m0, .ref m0], M)) rfl ?_
                refine ml_call (a := [.ref m0, .int ((x3 + 2) + (2 * i268_9))]) (rest := [.ref m0]) rfl (hR.okc rfl rfl rfl) rfl rfl (rm_u2 hR hF (by omega) (by omega) (by omega)) (fun v67 M68 h69 => ?_)
                obtain ⟨rfl, h69⟩ := h69
                rw [h69]
                show ml _ _ _ (291, [(0, .ref m0), (1, .int x1), (3, .int x3), (5, .int x5), (6, .int x6), (9, .int i268_9)], [.int (f2 f ((x3 + 2) + (2 * i268_9))), .ref m0], M) _
                refine ml_call (a := [.ref m0, .int (f2 f ((x3 + 2) + (2 * i268_9)))]) (rest := []) rfl (hR.okc rfl rfl rfl) rfl rfl (rm_tag hR hF hP (by omega)) (fun v70 M71 h72 => ?_)
                obtain ⟨rfl, h72⟩ := h72
                rw [h72]
                show ml _ _ _ (294, [(0, .ref m0), (1, .int x1), (3, .int x3), (5, .int x5), (6, .int x6), (9, .int i268_9)], [.int (tgf f cp pa (f2 f ((x3 + 2) + (2 * i268_9))))], M) _
                refine ml_st (S' := (296, [(0, .ref m0), (1, .int x1), (3, .int x3), (5, .int x5), (6, .int x6), (9, .int i268_9)], [.int 7, .int (tgf f cp pa (f2 f ((x3 + 2) + (2 * i268_9))))], M)) rfl rfl rfl ?_
                refine ml_if2 (S1 := (323, [(0, .ref m0), (1, .int x1), (3, .int x3), (5, .int x5), (6, .int x6), (9, .int i268_9)], [], M)) (S2 := (299, [(0, .ref m0), (1, .int x1), (3, .int x3), (5, .int x5), (6, .int x6), (9, .int i268_9)], [], M)) rfl rfl rfl (fun c_296 => ?_) (fun c_296 => ?_)
                · have c_296 : (tgf f cp pa (f2 f ((x3 + 2) + (2 * i268_9)))) = 7 := of_decide_eq_true c_296
                  refine ml_st (S' := (326, [(9, .int (i268_9 + 1)), (0, .ref m0), (1, .int x1), (3, .int x3), (5, .int x5), (6, .int x6)], [], M)) rfl rfl rfl ?_
                  refine ml_st (S' := (268, [(0, .ref m0), (1, .int x1), (3, .int x3), (5, .int x5), (6, .int x6), (9, .int (i268_9 + 1))], [], M)) rfl rfl rfl ?_
                  exact ih_268 (i268_9 + 1) (loop_inc (Int32.not_le.mp c_275) hn_268) (by rw [inc_lt (Int32.not_le.mp c_275)]; omega)
                · have c_296 : ¬ ((tgf f cp pa (f2 f ((x3 + 2) + (2 * i268_9)))) = 7) := of_decide_eq_false c_296
                  refine ml_blk 2 (S' := (301, [(0, .ref m0), (1, .int x1), (3, .int x3), (5, .int x5), (6, .int x6), (9, .int i268_9)], [.int 2, .int x1], M)) rfl ?_
                  refine ml_if2 (S1 := (309, [(0, .ref m0), (1, .int x1), (3, .int x3), (5, .int x5), (6, .int x6), (9, .int i268_9)], [], M)) (S2 := (304, [(0, .ref m0), (1, .int x1), (3, .int x3), (5, .int x5), (6, .int x6), (9, .int i268_9)], [], M)) rfl rfl rfl (fun c_301 => ?_) (fun c_301 => ?_)
                  rotate_left
                  · exact absurd ((show ¬ x1 = 2 from fun h => by have q := hw.1; rw [h] at q; exact absurd q (by decide))) (of_decide_eq_false c_301)
                  refine ml_blk 2 (S' := (312, [(0, .ref m0), (1, .int x1), (3, .int x3), (5, .int x5), (6, .int x6), (9, .int i268_9)], [.int 7, .int x1], M)) rfl ?_
                  refine ml_if2 (S1 := (320, [(0, .ref m0), (1, .int x1), (3, .int x3), (5, .int x5), (6, .int x6), (9, .int i268_9)], [], M)) (S2 := (315, [(0, .ref m0), (1, .int x1), (3, .int x3), (5, .int x5), (6, .int x6), (9, .int i268_9)], [], M)) rfl rfl rfl (fun c_312 => ?_) (fun c_312 => ?_)
                  · have c_312 : ¬ x1 = 7 := of_decide_eq_true c_312
                    refine ml_st (S' := (322, [], [.int 36], M)) rfl rfl rfl ?_
                    exact ml_ret rfl (rfl) (⟨_, _, _, rfl, hR, eqI.rf, eqR.rf, hN⟩)
                  · have c_312 : ¬ (¬ x1 = 7) := of_decide_eq_false c_312
                    refine ml_st (S' := (317, [(0, .ref m0), (1, .int x1), (3, .int x3), (5, .int x5), (6, .int x6), (9, .int i268_9)], [.int 35], M)) rfl rfl rfl ?_
                    refine ml_st (S' := (322, [], [.int 35], M)) rfl rfl rfl ?_
                    exact ml_ret rfl (rfl) (⟨_, _, _, rfl, hR, eqI.rf, eqR.rf, hN⟩)
          exact L_268 _ 0 (Nat.le_refl _) (by decide)
        · have c_249 : ¬ (¬ x1 = 9) := of_decide_eq_false c_249
          refine ml_st (S' := (253, [(0, .ref m0), (1, .int x1), (2, .int x2), (3, .int x3), (4, .int x4), (5, .int x5), (6, .int x6)], [.ref m0], M)) rfl rfl rfl ?_
          refine rg_int (S' := (256, [(0, .ref m0), (1, .int x1), (2, .int x2), (3, .int x3), (4, .int x4), (5, .int x5), (6, .int x6)], [.int nf], M)) rfl hR rfl (hk58) rfl ?_
          refine ml_blk 2 (S' := (259, [(0, .ref m0), (1, .int x1), (2, .int x2), (3, .int x3), (4, .int x4), (5, .int x5), (6, .int x6)], [.int (nf &&& 16)], M)) rfl ?_
          refine ml_if (S1 := (265, [(0, .ref m0), (1, .int x1), (3, .int x3), (5, .int x5), (6, .int x6)], [], M)) (S2 := (262, [(0, .ref m0), (1, .int x1), (2, .int x2), (3, .int x3), (4, .int x4), (5, .int x5), (6, .int x6)], [], M)) rfl rfl rfl (fun c_259 => ?_) (fun c_259 => ?_)
          · have c_259 : (nf &&& 16) = 0 := of_decide_eq_true c_259
            refine ml_st (S' := (266, [(0, .ref m0), (1, .int x1), (3, .int x3), (5, .int x5), (6, .int x6)], [.int 0], M)) rfl rfl rfl ?_
            refine ml_st (S' := (268, [(0, .ref m0), (1, .int x1), (3, .int x3), (5, .int x5), (6, .int x6), (9, .int 0)], [], M)) rfl rfl rfl ?_
            have L_268 : ∀ (n_268 : Nat) (i268_9 : Int32), (2147483648 - i268_9.toInt).toNat ≤ n_268 → 0 ≤ i268_9.toInt → ml (mT g) d (mb_177 g).2 (268, [(0, .ref m0), (1, .int x1), (3, .int x3), (5, .int x5), (6, .int x6), (9, .int i268_9)], [], M) (fun v M' => ∃ (x : Int32) (I' : rI) (R' : rR), v = some (.int x) ∧ RS g m0 q z I' R' M' ∧ eqI [47, 48, 65, 67, 68, 69, 70, 71, 72] I I' ∧ eqR [] R R' ∧ NW f n I') := by
              intro n_268
              induction n_268 with
              | zero => intro i268_9 hn; exact (loop_zero hn).elim
              | succ n_268 ih_268 =>
                intro i268_9 hn_268 hi_268
                refine ml_blk 3 (S' := (272, [(0, .ref m0), (1, .int x1), (3, .int x3), (5, .int x5), (6, .int x6), (9, .int i268_9)], [.int x3, .ref m0, .int i268_9], M)) rfl ?_
                refine ml_call (a := [.ref m0, .int x3]) (rest := [.int i268_9]) rfl (hR.okc rfl rfl rfl) rfl rfl (rm_u2 hR hF (h0) (by omega) (by omega)) (fun v73 M74 h75 => ?_)
                obtain ⟨rfl, h75⟩ := h75
                rw [h75]
                show ml _ _ _ (275, [(0, .ref m0), (1, .int x1), (3, .int x3), (5, .int x5), (6, .int x6), (9, .int i268_9)], [.int (f2 f x3), .int i268_9], M) _
                refine ml_if2 (S1 := (329, [(0, .ref m0), (1, .int x1), (3, .int x3), (5, .int x5), (6, .int x6), (9, .int i268_9)], [], M)) (S2 := (278, [(0, .ref m0), (1, .int x1), (3, .int x3), (5, .int x5), (6, .int x6), (9, .int i268_9)], [], M)) rfl rfl rfl (fun c_275 => ?_) (fun c_275 => ?_)
                · have c_275 : (f2 f x3) ≤ i268_9 := of_decide_eq_true c_275
                  refine ml_blk 2 (S' := (332, [(0, .ref m0), (1, .int x1), (3, .int x3), (5, .int x5), (6, .int x6), (9, .int i268_9)], [.int 7, .int x1], M)) rfl ?_
                  refine ml_if2 (S1 := (349, [(0, .ref m0), (1, .int x1), (3, .int x3), (5, .int x5)], [], M)) (S2 := (335, [(0, .ref m0), (1, .int x1), (3, .int x3), (5, .int x5), (6, .int x6), (9, .int i268_9)], [], M)) rfl rfl rfl (fun c_332 => ?_) (fun c_332 => ?_)
                  · have c_332 : ¬ x1 = 7 := of_decide_eq_true c_332
                    refine ml_blk 2 (S' := (351, [(0, .ref m0), (1, .int x1), (3, .int x3), (5, .int x5)], [.int 2, .int x1], M)) rfl ?_
                    refine ml_if2 (S1 := (366, [(0, .ref m0), (1, .int x1), (3, .int x3)], [], M)) (S2 := (354, [(0, .ref m0), (1, .int x1), (3, .int x3), (5, .int x5)], [], M)) rfl rfl rfl (fun c_351 => ?_) (fun c_351 => ?_)
                    rotate_left
                    · exact absurd ((show ¬ x1 = 2 from fun h => by have q := hw.1; rw [h] at q; exact absurd q (by decide))) (of_decide_eq_false c_351)
                    refine ml_blk 2 (S' := (369, [(0, .ref m0), (1, .int x1), (3, .int x3)], [.int 7, .int x1], M)) rfl ?_
                    refine ml_if2 (S1 := (381, [(0, .ref m0), (1, .int x1), (3, .int x3)], [], M)) (S2 := (372, [(0, .ref m0), (1, .int x1), (3, .int x3)], [], M)) rfl rfl rfl (fun c_369 => ?_) (fun c_369 => ?_)
                    · have c_369 : ¬ x1 = 7 := of_decide_eq_true c_369
                      refine ml_blk 2 (S' := (384, [(0, .ref m0), (1, .int x1), (3, .int x3)], [.int 9, .int x1], M)) rfl ?_
                      refine ml_if2 (S1 := (396, [], [], M)) (S2 := (387, [(0, .ref m0), (1, .int x1), (3, .int x3)], [], M)) rfl rfl rfl (fun c_384 => ?_) (fun c_384 => ?_)
                      · have c_384 : ¬ x1 = 9 := of_decide_eq_true c_384
                        refine ml_st (S' := (397, [], [.int 0], M)) rfl rfl rfl ?_
                        exact ml_ret rfl (rfl) (⟨_, _, _, rfl, hR, eqI.rf, eqR.rf, hN⟩)
                      · have c_384 : ¬ (¬ x1 = 9) := of_decide_eq_false c_384
                        refine ml_blk 3 (S' := (390, [(0, .ref m0), (1, .int x1), (3, .int x3)], [.int x3, .ref m0, .ref m0], M)) rfl ?_
                        refine ml_call (a := [.ref m0, .int x3]) (rest := [.ref m0]) rfl (hR.okc rfl rfl rfl) rfl rfl (rm_u2 hR hF (h0) (by omega) (by omega)) (fun v76 M77 h78 => ?_)
                        obtain ⟨rfl, h78⟩ := h78
                        rw [h78]
                        show ml _ _ _ (393, [(0, .ref m0), (1, .int x1), (3, .int x3)], [.int (f2 f x3), .ref m0], M) _
                        refine rp_int rfl hR rfl (fun M79 I80 hR81 e82 f83 => ?_)
                        show ml _ _ _ (396, [], [], M79) _
                        refine ml_st (S' := (397, [], [.int 0], M79)) rfl rfl rfl ?_
                        exact ml_ret rfl (rfl) (⟨_, _, _, rfl, hR81, (eqI.rf.put f83 (by decide)), eqR.rf, (hN.put (by decide) e82 f83)⟩)
                    · have c_369 : ¬ (¬ x1 = 7) := of_decide_eq_false c_369
                      refine ml_blk 3 (S' := (375, [(0, .ref m0), (1, .int x1), (3, .int x3)], [.int x3, .ref m0, .ref m0], M)) rfl ?_
                      refine ml_call (a := [.ref m0, .int x3]) (rest := [.ref m0]) rfl (hR.okc rfl rfl rfl) rfl rfl (rm_u2 hR hF (h0) (by omega) (by omega)) (fun v84 M85 h86 => ?_)
                      obtain ⟨rfl, h86⟩ := h86
                      rw [h86]
                      show ml _ _ _ (378, [(0, .ref m0), (1, .int x1), (3, .int x3)], [.int (f2 f x3), .ref m0], M) _
                      refine rp_int rfl hR rfl (fun M87 I88 hR89 e90 f91 => ?_)
                      show ml _ _ _ (381, [(0, .ref m0), (1, .int x1), (3, .int x3)], [], M87) _
                      refine ml_blk 2 (S' := (384, [(0, .ref m0), (1, .int x1), (3, .int x3)], [.int 9, .int x1], M87)) rfl ?_
                      refine ml_if2 (S1 := (396, [], [], M87)) (S2 := (387, [(0, .ref m0), (1, .int x1), (3, .int x3)], [], M87)) rfl rfl rfl (fun c_384 => ?_) (fun c_384 => ?_)
                      · have c_384 : ¬ x1 = 9 := of_decide_eq_true c_384
                        refine ml_st (S' := (397, [], [.int 0], M87)) rfl rfl rfl ?_
                        exact ml_ret rfl (rfl) (⟨_, _, _, rfl, hR89, (eqI.rf.put f91 (by decide)), eqR.rf, (hN.put (by decide) e90 f91)⟩)
                      · have c_384 : ¬ (¬ x1 = 9) := of_decide_eq_false c_384
                        refine ml_blk 3 (S' := (390, [(0, .ref m0), (1, .int x1), (3, .int x3)], [.int x3, .ref m0, .ref m0], M87)) rfl ?_
                        have hF92 : FK n f I88 R := (hF.mono (pIx f91 (by decide)) (fun _ _ => rfl))
                        refine ml_call (a := [.ref m0, .int x3]) (rest := [.ref m0]) rfl (hR89.okc rfl rfl rfl) rfl rfl (rm_u2 hR89 hF92 (h0) (by omega) (by omega)) (fun v93 M94 h95 => ?_)
                        obtain ⟨rfl, h95⟩ := h95
                        rw [h95]
                        show ml _ _ _ (393, [(0, .ref m0), (1, .int x1), (3, .int x3)], [.int (f2 f x3), .ref m0], M87) _
                        refine rp_int rfl hR89 rfl (fun M96 I97 hR98 e99 f100 => ?_)
                        show ml _ _ _ (396, [], [], M96) _
                        refine ml_st (S' := (397, [], [.int 0], M96)) rfl rfl rfl ?_
                        exact ml_ret rfl (rfl) (⟨_, _, _, rfl, hR98, ((eqI.rf.put f91 (by decide)).put f100 (by decide)), eqR.rf, ((hN.put (by decide) e90 f91).put (by decide) e99 f100)⟩)
                  · have c_332 : ¬ (¬ x1 = 7) := of_decide_eq_false c_332
                    refine ml_blk 3 (S' := (340, [(0, .ref m0), (1, .int x1), (3, .int x3), (5, .int x5), (6, .int x6), (9, .int i268_9)], [.int (x6 >>> (6 &&& 31))], M)) rfl ?_
                    refine ml_blk 3 (S' := (343, [(0, .ref m0), (1, .int x1), (3, .int x3), (5, .int x5), (6, .int x6), (9, .int i268_9)], [.int 1, .int ((x6 >>> (6 &&& 31)) &&& 1)], M)) rfl ?_
                    refine ml_if2 (S1 := (349, [(0, .ref m0), (1, .int x1), (3, .int x3), (5, .int x5)], [], M)) (S2 := (346, [(0, .ref m0), (1, .int x1), (3, .int x3), (5, .int x5), (6, .int x6), (9, .int i268_9)], [], M)) rfl rfl rfl (fun c_343 => ?_) (fun c_343 => ?_)
                    · have c_343 : ¬ ((x6 >>> (6 &&& 31)) &&& 1) = 1 := of_decide_eq_true c_343
                      refine ml_blk 2 (S' := (351, [(0, .ref m0), (1, .int x1), (3, .int x3), (5, .int x5)], [.int 2, .int x1], M)) rfl ?_
                      refine ml_if2 (S1 := (366, [(0, .ref m0), (1, .int x1), (3, .int x3)], [], M)) (S2 := (354, [(0, .ref m0), (1, .int x1), (3, .int x3), (5, .int x5)], [], M)) rfl rfl rfl (fun c_351 => ?_) (fun c_351 => ?_)
                      rotate_left
                      · exact absurd ((show ¬ x1 = 2 from fun h => by have q := hw.1; rw [h] at q; exact absurd q (by decide))) (of_decide_eq_false c_351)
                      refine ml_blk 2 (S' := (369, [(0, .ref m0), (1, .int x1), (3, .int x3)], [.int 7, .int x1], M)) rfl ?_
                      refine ml_if2 (S1 := (381, [(0, .ref m0), (1, .int x1), (3, .int x3)], [], M)) (S2 := (372, [(0, .ref m0), (1, .int x1), (3, .int x3)], [], M)) rfl rfl rfl (fun c_369 => ?_) (fun c_369 => ?_)
                      · have c_369 : ¬ x1 = 7 := of_decide_eq_true c_369
                        refine ml_blk 2 (S' := (384, [(0, .ref m0), (1, .int x1), (3, .int x3)], [.int 9, .int x1], M)) rfl ?_
                        refine ml_if2 (S1 := (396, [], [], M)) (S2 := (387, [(0, .ref m0), (1, .int x1), (3, .int x3)], [], M)) rfl rfl rfl (fun c_384 => ?_) (fun c_384 => ?_)
                        · have c_384 : ¬ x1 = 9 := of_decide_eq_true c_384
                          refine ml_st (S' := (397, [], [.int 0], M)) rfl rfl rfl ?_
                          exact ml_ret rfl (rfl) (⟨_, _, _, rfl, hR, eqI.rf, eqR.rf, hN⟩)
                        · have c_384 : ¬ (¬ x1 = 9) := of_decide_eq_false c_384
                          refine ml_blk 3 (S' := (390, [(0, .ref m0), (1, .int x1), (3, .int x3)], [.int x3, .ref m0, .ref m0], M)) rfl ?_
                          refine ml_call (a := [.ref m0, .int x3]) (rest := [.ref m0]) rfl (hR.okc rfl rfl rfl) rfl rfl (rm_u2 hR hF (h0) (by omega) (by omega)) (fun v101 M102 h103 => ?_)
                          obtain ⟨rfl, h103⟩ := h103
                          rw [h103]
                          show ml _ _ _ (393, [(0, .ref m0), (1, .int x1), (3, .int x3)], [.int (f2 f x3), .ref m0], M) _
                          refine rp_int rfl hR rfl (fun M104 I105 hR106 e107 f108 => ?_)
                          show ml _ _ _ (396, [], [], M104) _
                          refine ml_st (S' := (397, [], [.int 0], M104)) rfl rfl rfl ?_
                          exact ml_ret rfl (rfl) (⟨_, _, _, rfl, hR106, (eqI.rf.put f108 (by decide)), eqR.rf, (hN.put (by decide) e107 f108)⟩)
                      · have c_369 : ¬ (¬ x1 = 7) := of_decide_eq_false c_369
                        refine ml_blk 3 (S' := (375, [(0, .ref m0), (1, .int x1), (3, .int x3)], [.int x3, .ref m0, .ref m0], M)) rfl ?_
                        refine ml_call (a := [.ref m0, .int x3]) (rest := [.ref m0]) rfl (hR.okc rfl rfl rfl) rfl rfl (rm_u2 hR hF (h0) (by omega) (by omega)) (fun v109 M110 h111 => ?_)
                        obtain ⟨rfl, h111⟩ := h111
                        rw [h111]
                        show ml _ _ _ (378, [(0, .ref m0), (1, .int x1), (3, .int x3)], [.int (f2 f x3), .ref m0], M) _
                        refine rp_int rfl hR rfl (fun M112 I113 hR114 e115 f116 => ?_)
                        show ml _ _ _ (381, [(0, .ref m0), (1, .int x1), (3, .int x3)], [], M112) _
                        refine ml_blk 2 (S' := (384, [(0, .ref m0), (1, .int x1), (3, .int x3)], [.int 9, .int x1], M112)) rfl ?_
                        refine ml_if2 (S1 := (396, [], [], M112)) (S2 := (387, [(0, .ref m0), (1, .int x1), (3, .int x3)], [], M112)) rfl rfl rfl (fun c_384 => ?_) (fun c_384 => ?_)
                        · have c_384 : ¬ x1 = 9 := of_decide_eq_true c_384
                          refine ml_st (S' := (397, [], [.int 0], M112)) rfl rfl rfl ?_
                          exact ml_ret rfl (rfl) (⟨_, _, _, rfl, hR114, (eqI.rf.put f116 (by decide)), eqR.rf, (hN.put (by decide) e115 f116)⟩)
                        · have c_384 : ¬ (¬ x1 = 9) := of_decide_eq_false c_384
                          refine ml_blk 3 (S' := (390, [(0, .ref m0), (1, .int x1), (3, .int x3)], [.int x3, .ref m0, .ref m0], M112)) rfl ?_
                          have hF117 : FK n f I113 R := (hF.mono (pIx f116 (by decide)) (fun _ _ => rfl))
                          refine ml_call (a := [.ref m0, .int x3]) (rest := [.ref m0]) rfl (hR114.okc rfl rfl rfl) rfl rfl (rm_u2 hR114 hF117 (h0) (by omega) (by omega)) (fun v118 M119 h120 => ?_)
                          obtain ⟨rfl, h120⟩ := h120
                          rw [h120]
                          show ml _ _ _ (393, [(0, .ref m0), (1, .int x1), (3, .int x3)], [.int (f2 f x3), .ref m0], M112) _
                          refine rp_int rfl hR114 rfl (fun M121 I122 hR123 e124 f125 => ?_)
                          show ml _ _ _ (396, [], [], M121) _
                          refine ml_st (S' := (397, [], [.int 0], M121)) rfl rfl rfl ?_
                          exact ml_ret rfl (rfl) (⟨_, _, _, rfl, hR123, ((eqI.rf.put f116 (by decide)).put f125 (by decide)), eqR.rf, ((hN.put (by decide) e115 f116).put (by decide) e124 f125)⟩)
                    · have c_343 : ¬ (¬ ((x6 >>> (6 &&& 31)) &&& 1) = 1) := of_decide_eq_false c_343
                      refine ml_st (S' := (348, [(0, .ref m0), (1, .int x1), (3, .int x3), (5, .int x5), (6, .int x6), (9, .int i268_9)], [.int 35], M)) rfl rfl rfl ?_
                      exact ml_ret rfl (rfl) (⟨_, _, _, rfl, hR, eqI.rf, eqR.rf, hN⟩)
                · have c_275 : ¬ ((f2 f x3) ≤ i268_9) := of_decide_eq_false c_275
                  have hjl := i_nle c_275
                  have hjk : (x3 + 2 + 2 * i268_9).toInt = x3.toInt + 2 + 2 * i268_9.toInt := by have d2 : (x3 + 2).toInt = x3.toInt + 2 := (by rw [i_add (by omega) (by omega), i2_]); rw [i_add (by rw [two_k hi_268 (by omega)]; omega) (by rw [two_k hi_268 (by omega)]; omega), two_k hi_268 (by omega), d2]
                  refine ml_blk 3 (S' := (281, [(0, .ref m0), (1, .int x1), (3, .int x3), (5, .int x5), (6, .int x6), (9, .int i268_9)], [.int x3, .ref m0, .ref m0], M)) rfl ?_
                  refine ml_blk 3 (S' := (284, [(0, .ref m0), (1, .int x1), (3, .int x3), (5, .int x5), (6, .int x6), (9, .int i268_9)], [.int 2, .int (x3 + 2), .ref m0, .ref m0], M)) rfl ?_
                  refine ml_blk 3 (S' := (288, [(0, .ref m0), (1, .int x1), (3, .int x3), (5, .int x5), (6, .int x6), (9, .int i268_9)], [.int ((x3 + 2) + (2 * i268_9)), .ref m0, .ref m0], M)) rfl ?_
                  refine ml_call (a := [.ref m0, .int ((x3 + 2) + (2 * i268_9))]) (rest := [.ref m0]) rfl (hR.okc rfl rfl rfl) rfl rfl (rm_u2 hR hF (by omega) (by omega) (by omega)) (fun v126 M127 h128 => ?_)
                  obtain ⟨rfl, h128⟩ := h128
                  rw [h128]
                  show ml _ _ _ (291, [(0, .ref m0), (1, .int x1), (3, .int x3), (5, .int x5), (6, .int x6), (9, .int i268_9)], [.int (f2 f ((x3 + 2) + (2 * i268_9))), .ref m0], M) _
                  refine ml_call (a := [.ref m0, .int (f2 f ((x3 + 2) + (2 * i268_9)))]) (rest := []) rfl (hR.okc rfl rfl rfl) rfl rfl (rm_tag hR hF hP (by omega)) (fun v129 M130 h131 => ?_)
                  obtain ⟨rfl, h131⟩ := h131
                  rw [h131]
                  show ml _ _ _ (294, [(0, .ref m0), (1, .int x1), (3, .int x3), (5, .int x5), (6, .int x6), (9, .int i268_9)], [.int (tgf f cp pa (f2 f ((x3 + 2) + (2 * i268_9))))], M) _
                  refine ml_st (S' := (296, [(0, .ref m0), (1, .int x1), (3, .int x3), (5, .int x5), (6, .int x6), (9, .int i268_9)], [.int 7, .int (tgf f cp pa (f2 f ((x3 + 2) + (2 * i268_9))))], M)) rfl rfl rfl ?_
                  refine ml_if2 (S1 := (323, [(0, .ref m0), (1, .int x1), (3, .int x3), (5, .int x5), (6, .int x6), (9, .int i268_9)], [], M)) (S2 := (299, [(0, .ref m0), (1, .int x1), (3, .int x3), (5, .int x5), (6, .int x6), (9, .int i268_9)], [], M)) rfl rfl rfl (fun c_296 => ?_) (fun c_296 => ?_)
                  · have c_296 : (tgf f cp pa (f2 f ((x3 + 2) + (2 * i268_9)))) = 7 := of_decide_eq_true c_296
                    refine ml_st (S' := (326, [(9, .int (i268_9 + 1)), (0, .ref m0), (1, .int x1), (3, .int x3), (5, .int x5), (6, .int x6)], [], M)) rfl rfl rfl ?_
                    refine ml_st (S' := (268, [(0, .ref m0), (1, .int x1), (3, .int x3), (5, .int x5), (6, .int x6), (9, .int (i268_9 + 1))], [], M)) rfl rfl rfl ?_
                    exact ih_268 (i268_9 + 1) (loop_inc (Int32.not_le.mp c_275) hn_268) (by rw [inc_lt (Int32.not_le.mp c_275)]; omega)
                  · have c_296 : ¬ ((tgf f cp pa (f2 f ((x3 + 2) + (2 * i268_9)))) = 7) := of_decide_eq_false c_296
                    refine ml_blk 2 (S' := (301, [(0, .ref m0), (1, .int x1), (3, .int x3), (5, .int x5), (6, .int x6), (9, .int i268_9)], [.int 2, .int x1], M)) rfl ?_
                    refine ml_if2 (S1 := (309, [(0, .ref m0), (1, .int x1), (3, .int x3), (5, .int x5), (6, .int x6), (9, .int i268_9)], [], M)) (S2 := (304, [(0, .ref m0), (1, .int x1), (3, .int x3), (5, .int x5), (6, .int x6), (9, .int i268_9)], [], M)) rfl rfl rfl (fun c_301 => ?_) (fun c_301 => ?_)
                    rotate_left
                    · exact absurd ((show ¬ x1 = 2 from fun h => by have q := hw.1; rw [h] at q; exact absurd q (by decide))) (of_decide_eq_false c_301)
                    refine ml_blk 2 (S' := (312, [(0, .ref m0), (1, .int x1), (3, .int x3), (5, .int x5), (6, .int x6), (9, .int i268_9)], [.int 7, .int x1], M)) rfl ?_
                    refine ml_if2 (S1 := (320, [(0, .ref m0), (1, .int x1), (3, .int x3), (5, .int x5), (6, .int x6), (9, .int i268_9)], [], M)) (S2 := (315, [(0, .ref m0), (1, .int x1), (3, .int x3), (5, .int x5), (6, .int x6), (9, .int i268_9)], [], M)) rfl rfl rfl (fun c_312 => ?_) (fun c_312 => ?_)
                    · have c_312 : ¬ x1 = 7 := of_decide_eq_true c_312
                      refine ml_st (S' := (322, [], [.int 36], M)) rfl rfl rfl ?_
                      exact ml_ret rfl (rfl) (⟨_, _, _, rfl, hR, eqI.rf, eqR.rf, hN⟩)
                    · have c_312 : ¬ (¬ x1 = 7) := of_decide_eq_false c_312
                      refine ml_st (S' := (317, [(0, .ref m0), (1, .int x1), (3, .int x3), (5, .int x5), (6, .int x6), (9, .int i268_9)], [.int 35], M)) rfl rfl rfl ?_
                      refine ml_st (S' := (322, [], [.int 35], M)) rfl rfl rfl ?_
                      exact ml_ret rfl (rfl) (⟨_, _, _, rfl, hR, eqI.rf, eqR.rf, hN⟩)
            exact L_268 _ 0 (Nat.le_refl _) (by decide)
          · have c_259 : ¬ ((nf &&& 16) = 0) := of_decide_eq_false c_259
            refine ml_st (S' := (264, [(0, .ref m0), (1, .int x1), (2, .int x2), (3, .int x3), (4, .int x4), (5, .int x5), (6, .int x6)], [.int 36], M)) rfl rfl rfl ?_
            exact ml_ret rfl (rfl) (⟨_, _, _, rfl, hR, eqI.rf, eqR.rf, hN⟩)
      · have c_240 : ¬ ((x4 - x3) = (2 + (2 * (f2 f x3)))) := of_decide_eq_false c_240
        refine ml_st (S' := (245, [], [.int 30], M)) rfl rfl rfl ?_
        exact ml_ret rfl (rfl) (⟨_, _, _, rfl, hR, eqI.rf, eqR.rf, hN⟩)
  · show ml _ _ _ (398, [(0, .ref m0), (1, .int x1), (2, .int x2), (3, .int x3), (4, .int x4), (5, .int x5), (6, .int x6)], [], M) _
    exfalso
    rcases w49 hw with h | h | h | h | h | h <;> (rw [h] at kt_1; exact absurd kt_1 (by decide))
  · show ml _ _ _ (400, [(0, .ref m0), (1, .int x1), (2, .int x2), (3, .int x3), (4, .int x4), (5, .int x5), (6, .int x6)], [], M) _
    refine ml_blk 3 (S' := (404, [(0, .ref m0), (1, .int x1), (2, .int x2), (3, .int x3), (4, .int x4), (5, .int x5), (6, .int x6)], [.int (x4 - x3)], M)) rfl ?_
    refine ml_st (S' := (405, [(0, .ref m0), (1, .int x1), (2, .int x2), (3, .int x3), (4, .int x4), (5, .int x5), (6, .int x6)], [.int 2, .int (x4 - x3)], M)) rfl rfl rfl ?_
    refine ml_if2 (S1 := (425, [], [], M)) (S2 := (408, [(0, .ref m0), (1, .int x1), (2, .int x2), (3, .int x3), (4, .int x4), (5, .int x5), (6, .int x6)], [], M)) rfl rfl rfl (fun c_405 => ?_) (fun c_405 => ?_)
    · have c_405 : (x4 - x3) < 2 := of_decide_eq_true c_405
      refine ml_st (S' := (427, [], [.int 30], M)) rfl rfl rfl ?_
      exact ml_ret rfl (rfl) (⟨_, _, _, rfl, hR, eqI.rf, eqR.rf, hN⟩)
    · have c_405 : ¬ ((x4 - x3) < 2) := of_decide_eq_false c_405
      have hd2 := i_nlt c_405
      rw [i_sub (by omega) (by omega)] at hd2
      have i2_ : (2 : Int32).toInt = 2 := rfl
      have hc0 := f2_pos (f := f) (x := x3)
      have hc1 := f2_le (f := f) (x := x3)
      refine ml_blk 3 (S' := (412, [(0, .ref m0), (1, .int x1), (2, .int x2), (3, .int x3), (4, .int x4), (5, .int x5), (6, .int x6)], [.int (x4 - x3)], M)) rfl ?_
      refine ml_blk 3 (S' := (416, [(0, .ref m0), (1, .int x1), (2, .int x2), (3, .int x3), (4, .int x4), (5, .int x5), (6, .int x6)], [.ref m0, .int 8, .int 2, .int (x4 - x3)], M)) rfl ?_
      refine ml_st (S' := (417, [(0, .ref m0), (1, .int x1), (2, .int x2), (3, .int x3), (4, .int x4), (5, .int x5), (6, .int x6)], [.int x3, .ref m0, .int 8, .int 2, .int (x4 - x3)], M)) rfl rfl rfl ?_
      refine ml_call (a := [.ref m0, .int x3]) (rest := [.int 8, .int 2, .int (x4 - x3)]) rfl (hR.okc rfl rfl rfl) rfl rfl (rm_u2 hR hF (h0) (by omega) (by omega)) (fun v132 M133 h134 => ?_)
      obtain ⟨rfl, h134⟩ := h134
      rw [h134]
      show ml _ _ _ (420, [(0, .ref m0), (1, .int x1), (2, .int x2), (3, .int x3), (4, .int x4), (5, .int x5), (6, .int x6)], [.int (f2 f x3), .int 8, .int 2, .int (x4 - x3)], M) _
      refine ml_blk 2 (S' := (422, [(0, .ref m0), (1, .int x1), (2, .int x2), (3, .int x3), (4, .int x4), (5, .int x5), (6, .int x6)], [.int (2 + (8 * (f2 f x3))), .int (x4 - x3)], M)) rfl ?_
      refine ml_if2 (S1 := (428, [(0, .ref m0), (1, .int x1), (2, .int x2), (3, .int x3), (4, .int x4), (5, .int x5), (6, .int x6)], [], M)) (S2 := (425, [], [], M)) rfl rfl rfl (fun c_422 => ?_) (fun c_422 => ?_)
      · have c_422 : (x4 - x3) = (2 + (8 * (f2 f x3))) := of_decide_eq_true c_422
        have hde : (x4 - x3).toInt = (2 + 8 * f2 f x3).toInt := congrArg Int32.toInt c_422
        rw [i_sub (by omega) (by omega), i_add (by rw [eight_k hc0 (by omega)]; omega) (by rw [eight_k hc0 (by omega)]; omega), eight_k hc0 (by omega)] at hde
        refine ml_st (S' := (429, [(0, .ref m0), (1, .int x1), (2, .int x2), (3, .int x3), (4, .int x4), (5, .int x5), (6, .int x6)], [.int 0], M)) rfl rfl rfl ?_
        refine ml_st (S' := (431, [(0, .ref m0), (3, .int x3), (9, .int 0)], [], M)) rfl rfl rfl ?_
        have L_431 : ∀ (n_431 : Nat) (i431_9 : Int32), (2147483648 - i431_9.toInt).toNat ≤ n_431 → 0 ≤ i431_9.toInt → ml (mT g) d (mb_177 g).2 (431, [(0, .ref m0), (3, .int x3), (9, .int i431_9)], [], M) (fun v M' => ∃ (x : Int32) (I' : rI) (R' : rR), v = some (.int x) ∧ RS g m0 q z I' R' M' ∧ eqI [47, 48, 65, 67, 68, 69, 70, 71, 72] I I' ∧ eqR [] R R' ∧ NW f n I') := by
          intro n_431
          induction n_431 with
          | zero => intro i431_9 hn; exact (loop_zero hn).elim
          | succ n_431 ih_431 =>
            intro i431_9 hn_431 hi_431
            refine ml_blk 3 (S' := (435, [(0, .ref m0), (3, .int x3), (9, .int i431_9)], [.int x3, .ref m0, .int i431_9], M)) rfl ?_
            refine ml_call (a := [.ref m0, .int x3]) (rest := [.int i431_9]) rfl (hR.okc rfl rfl rfl) rfl rfl (rm_u2 hR hF (h0) (by omega) (by omega)) (fun v135 M136 h137 => ?_)
            obtain ⟨rfl, h137⟩ := h137
            rw [h137]
            show ml _ _ _ (438, [(0, .ref m0), (3, .int x3), (9, .int i431_9)], [.int (f2 f x3), .int i431_9], M) _
            refine ml_if2 (S1 := (531, [(0, .ref m0), (3, .int x3), (9, .int i431_9)], [], M)) (S2 := (441, [(0, .ref m0), (3, .int x3), (9, .int i431_9)], [], M)) rfl rfl rfl (fun c_438 => ?_) (fun c_438 => ?_)
            · have c_438 : (f2 f x3) ≤ i431_9 := of_decide_eq_true c_438
              refine ml_blk 3 (S' := (534, [(0, .ref m0), (3, .int x3), (9, .int i431_9)], [.int x3, .ref m0, .ref m0], M)) rfl ?_
              refine ml_call (a := [.ref m0, .int x3]) (rest := [.ref m0]) rfl (hR.okc rfl rfl rfl) rfl rfl (rm_u2 hR hF (h0) (by omega) (by omega)) (fun v138 M139 h140 => ?_)
              obtain ⟨rfl, h140⟩ := h140
              rw [h140]
              show ml _ _ _ (537, [(0, .ref m0), (3, .int x3), (9, .int i431_9)], [.int (f2 f x3), .ref m0], M) _
              refine rp_int rfl hR rfl (fun M141 I142 hR143 e144 f145 => ?_)
              show ml _ _ _ (540, [(0, .ref m0), (3, .int x3), (9, .int i431_9)], [], M141) _
              refine ml_st (S' := (541, [(0, .ref m0), (3, .int x3), (9, .int i431_9)], [.int 0], M141)) rfl rfl rfl ?_
              exact ml_ret rfl (rfl) (⟨_, _, _, rfl, hR143, (eqI.rf.put f145 (by decide)), eqR.rf, (hN.put (by decide) e144 f145)⟩)
            · have c_438 : ¬ ((f2 f x3) ≤ i431_9) := of_decide_eq_false c_438
              have hjl := i_nle c_438
              have hjk : (x3 + 2 + 8 * i431_9).toInt = x3.toInt + 2 + 8 * i431_9.toInt := by have d2 : (x3 + 2).toInt = x3.toInt + 2 := (by rw [i_add (by omega) (by omega), i2_]); rw [i_add (by rw [eight_k hi_431 (by omega)]; omega) (by rw [eight_k hi_431 (by omega)]; omega), eight_k hi_431 (by omega), d2]
              have hk2 : ((x3 + 2 + 8 * i431_9) + 2).toInt = (x3 + 2 + 8 * i431_9).toInt + 2 := i_add (by have : (2 : Int32).toInt = 2 := rfl; omega) (by have : (2 : Int32).toInt = 2 := rfl; omega)
              have hk4 : ((x3 + 2 + 8 * i431_9) + 4).toInt = (x3 + 2 + 8 * i431_9).toInt + 4 := i_add (by have : (4 : Int32).toInt = 4 := rfl; omega) (by have : (4 : Int32).toInt = 4 := rfl; omega)
              refine ml_blk 3 (S' := (444, [(0, .ref m0), (3, .int x3), (9, .int i431_9)], [.int (x3 + 2)], M)) rfl ?_
              refine ml_blk 3 (S' := (449, [(0, .ref m0), (3, .int x3), (9, .int i431_9)], [.int (8 * i431_9), .int (x3 + 2)], M)) rfl ?_
              refine ml_st (S' := (450, [(0, .ref m0), (3, .int x3), (9, .int i431_9)], [.int ((x3 + 2) + (8 * i431_9))], M)) rfl rfl rfl ?_
              refine ml_st (S' := (452, [(10, .int ((x3 + 2) + (8 * i431_9))), (0, .ref m0), (3, .int x3), (9, .int i431_9)], [], M)) rfl rfl rfl ?_
              refine ml_blk 3 (S' := (456, [(10, .int ((x3 + 2) + (8 * i431_9))), (0, .ref m0), (3, .int x3), (9, .int i431_9)], [.int ((x3 + 2) + (8 * i431_9)), .ref m0, .ref m0], M)) rfl ?_
              refine ml_call (a := [.ref m0, .int ((x3 + 2) + (8 * i431_9))]) (rest := [.ref m0]) rfl (hR.okc rfl rfl rfl) rfl rfl (rm_u2 hR hF (by omega) (by omega) (by omega)) (fun v146 M147 h148 => ?_)
              obtain ⟨rfl, h148⟩ := h148
              rw [h148]
              show ml _ _ _ (459, [(10, .int ((x3 + 2) + (8 * i431_9))), (0, .ref m0), (3, .int x3), (9, .int i431_9)], [.int (f2 f ((x3 + 2) + (8 * i431_9))), .ref m0], M) _
              refine ml_call (a := [.ref m0, .int (f2 f ((x3 + 2) + (8 * i431_9)))]) (rest := []) rfl (hR.okc rfl rfl rfl) rfl rfl (rm_tag hR hF hP (by omega)) (fun v149 M150 h151 => ?_)
              obtain ⟨rfl, h151⟩ := h151
              rw [h151]
              show ml _ _ _ (462, [(10, .int ((x3 + 2) + (8 * i431_9))), (0, .ref m0), (3, .int x3), (9, .int i431_9)], [.int (tgf f cp pa (f2 f ((x3 + 2) + (8 * i431_9))))], M) _
              refine ml_st (S' := (464, [(10, .int ((x3 + 2) + (8 * i431_9))), (0, .ref m0), (3, .int x3), (9, .int i431_9)], [.int 7, .int (tgf f cp pa (f2 f ((x3 + 2) + (8 * i431_9))))], M)) rfl rfl rfl ?_
              refine ml_if2 (S1 := (522, [], [], M)) (S2 := (467, [(10, .int ((x3 + 2) + (8 * i431_9))), (0, .ref m0), (3, .int x3), (9, .int i431_9)], [], M)) rfl rfl rfl (fun c_464 => ?_) (fun c_464 => ?_)
              · have c_464 : ¬ (tgf f cp pa (f2 f ((x3 + 2) + (8 * i431_9)))) = 7 := of_decide_eq_true c_464
                refine ml_st (S' := (524, [], [.int 33], M)) rfl rfl rfl ?_
                exact ml_ret rfl (rfl) (⟨_, _, _, rfl, hR, eqI.rf, eqR.rf, hN⟩)
              · have c_464 : ¬ (¬ (tgf f cp pa (f2 f ((x3 + 2) + (8 * i431_9)))) = 7) := of_decide_eq_false c_464
                refine ml_blk 3 (S' := (471, [(10, .int ((x3 + 2) + (8 * i431_9))), (0, .ref m0), (3, .int x3), (9, .int i431_9)], [.int 2, .int ((x3 + 2) + (8 * i431_9)), .ref m0], M)) rfl ?_
                refine ml_st (S' := (472, [(10, .int ((x3 + 2) + (8 * i431_9))), (0, .ref m0), (3, .int x3), (9, .int i431_9)], [.int (((x3 + 2) + (8 * i431_9)) + 2), .ref m0], M)) rfl rfl rfl ?_
                refine ml_call (a := [.ref m0, .int (((x3 + 2) + (8 * i431_9)) + 2)]) (rest := []) rfl (hR.okc rfl rfl rfl) rfl rfl (rm_u2 hR hF (by omega) (by omega) (by omega)) (fun v152 M153 h154 => ?_)
                obtain ⟨rfl, h154⟩ := h154
                rw [h154]
                show ml _ _ _ (475, [(10, .int ((x3 + 2) + (8 * i431_9))), (0, .ref m0), (3, .int x3), (9, .int i431_9)], [.int (f2 f (((x3 + 2) + (8 * i431_9)) + 2))], M) _
                have J_495 : ml (mT g) d (mb_177 g).2 (495, [(0, .ref m0), (3, .int x3), (9, .int i431_9), (10, .int ((x3 + 2) + (8 * i431_9)))], [], M) (fun v M' => ∃ (x : Int32) (I' : rI) (R' : rR), v = some (.int x) ∧ RS g m0 q z I' R' M' ∧ eqI [47, 48, 65, 67, 68, 69, 70, 71, 72] I I' ∧ eqR [] R R' ∧ NW f n I') := by
                  refine ml_blk 3 (S' := (499, [(0, .ref m0), (3, .int x3), (9, .int i431_9), (10, .int ((x3 + 2) + (8 * i431_9)))], [.int 4, .int ((x3 + 2) + (8 * i431_9)), .ref m0], M)) rfl ?_
                  refine ml_st (S' := (500, [(0, .ref m0), (3, .int x3), (9, .int i431_9), (10, .int ((x3 + 2) + (8 * i431_9)))], [.int (((x3 + 2) + (8 * i431_9)) + 4), .ref m0], M)) rfl rfl rfl ?_
                  refine ml_call (a := [.ref m0, .int (((x3 + 2) + (8 * i431_9)) + 4)]) (rest := []) rfl (hR.okc rfl rfl rfl) rfl rfl (rm_u2 hR hF (by omega) (by omega) (by omega)) (fun v155 M156 h157 => ?_)
                  obtain ⟨rfl, h157⟩ := h157
                  rw [h157]
                  show ml _ _ _ (503, [(0, .ref m0), (3, .int x3), (9, .int i431_9), (10, .int ((x3 + 2) + (8 * i431_9)))], [.int (f2 f (((x3 + 2) + (8 * i431_9)) + 4))], M) _
                  refine ml_if (S1 := (525, [(0, .ref m0), (3, .int x3), (9, .int i431_9)], [], M)) (S2 := (506, [(0, .ref m0), (3, .int x3), (9, .int i431_9), (10, .int ((x3 + 2) + (8 * i431_9)))], [], M)) rfl rfl rfl (fun c_503 => ?_) (fun c_503 => ?_)
                  · have c_503 : (f2 f (((x3 + 2) + (8 * i431_9)) + 4)) = 0 := of_decide_eq_true c_503
                    refine ml_st (S' := (528, [(9, .int (i431_9 + 1)), (0, .ref m0), (3, .int x3)], [], M)) rfl rfl rfl ?_
                    refine ml_st (S' := (431, [(0, .ref m0), (3, .int x3), (9, .int (i431_9 + 1))], [], M)) rfl rfl rfl ?_
                    exact ih_431 (i431_9 + 1) (loop_inc (Int32.not_le.mp c_438) hn_431) (by rw [inc_lt (Int32.not_le.mp c_438)]; omega)
                  · have c_503 : ¬ ((f2 f (((x3 + 2) + (8 * i431_9)) + 4)) = 0) := of_decide_eq_false c_503
                    refine ml_blk 3 (S' := (510, [(0, .ref m0), (3, .int x3), (9, .int i431_9), (10, .int ((x3 + 2) + (8 * i431_9)))], [.int ((x3 + 2) + (8 * i431_9)), .ref m0, .ref m0], M)) rfl ?_
                    refine ml_blk 2 (S' := (512, [(0, .ref m0), (3, .int x3), (9, .int i431_9), (10, .int ((x3 + 2) + (8 * i431_9)))], [.int (((x3 + 2) + (8 * i431_9)) + 4), .ref m0, .ref m0], M)) rfl ?_
                    refine ml_call (a := [.ref m0, .int (((x3 + 2) + (8 * i431_9)) + 4)]) (rest := [.ref m0]) rfl (hR.okc rfl rfl rfl) rfl rfl (rm_u2 hR hF (by omega) (by omega) (by omega)) (fun v158 M159 h160 => ?_)
                    obtain ⟨rfl, h160⟩ := h160
                    rw [h160]
                    show ml _ _ _ (515, [(0, .ref m0), (3, .int x3), (9, .int i431_9), (10, .int ((x3 + 2) + (8 * i431_9)))], [.int (f2 f (((x3 + 2) + (8 * i431_9)) + 4)), .ref m0], M) _
                    refine ml_call (a := [.ref m0, .int (f2 f (((x3 + 2) + (8 * i431_9)) + 4))]) (rest := []) rfl (hR.okc rfl rfl rfl) rfl rfl (rm_tag hR hF hP (by omega)) (fun v161 M162 h163 => ?_)
                    obtain ⟨rfl, h163⟩ := h163
                    rw [h163]
                    show ml _ _ _ (518, [(0, .ref m0), (3, .int x3), (9, .int i431_9), (10, .int ((x3 + 2) + (8 * i431_9)))], [.int (tgf f cp pa (f2 f (((x3 + 2) + (8 * i431_9)) + 4)))], M) _
                    refine ml_st (S' := (519, [(0, .ref m0), (3, .int x3), (9, .int i431_9), (10, .int ((x3 + 2) + (8 * i431_9)))], [.int 1, .int (tgf f cp pa (f2 f (((x3 + 2) + (8 * i431_9)) + 4)))], M)) rfl rfl rfl ?_
                    refine ml_if2 (S1 := (525, [(0, .ref m0), (3, .int x3), (9, .int i431_9)], [], M)) (S2 := (522, [], [], M)) rfl rfl rfl (fun c_519 => ?_) (fun c_519 => ?_)
                    · have c_519 : (tgf f cp pa (f2 f (((x3 + 2) + (8 * i431_9)) + 4))) = 1 := of_decide_eq_true c_519
                      refine ml_st (S' := (528, [(9, .int (i431_9 + 1)), (0, .ref m0), (3, .int x3)], [], M)) rfl rfl rfl ?_
                      refine ml_st (S' := (431, [(0, .ref m0), (3, .int x3), (9, .int (i431_9 + 1))], [], M)) rfl rfl rfl ?_
                      exact ih_431 (i431_9 + 1) (loop_inc (Int32.not_le.mp c_438) hn_431) (by rw [inc_lt (Int32.not_le.mp c_438)]; omega)
                    · have c_519 : ¬ ((tgf f cp pa (f2 f (((x3 + 2) + (8 * i431_9)) + 4))) = 1) := of_decide_eq_false c_519
                      refine ml_st (S' := (524, [], [.int 33], M)) rfl rfl rfl ?_
                      exact ml_ret rfl (rfl) (⟨_, _, _, rfl, hR, eqI.rf, eqR.rf, hN⟩)
                refine ml_if (S1 := (495, [(0, .ref m0), (3, .int x3), (9, .int i431_9), (10, .int ((x3 + 2) + (8 * i431_9)))], [], M)) (S2 := (478, [(10, .int ((x3 + 2) + (8 * i431_9))), (0, .ref m0), (3, .int x3), (9, .int i431_9)], [], M)) rfl rfl rfl (fun c_475 => ?_) (fun c_475 => ?_)
                · have c_475 : (f2 f (((x3 + 2) + (8 * i431_9)) + 2)) = 0 := of_decide_eq_true c_475
                  exact J_495 
                · have c_475 : ¬ ((f2 f (((x3 + 2) + (8 * i431_9)) + 2)) = 0) := of_decide_eq_false c_475
                  refine ml_blk 3 (S' := (482, [(10, .int ((x3 + 2) + (8 * i431_9))), (0, .ref m0), (3, .int x3), (9, .int i431_9)], [.int ((x3 + 2) + (8 * i431_9)), .ref m0, .ref m0], M)) rfl ?_
                  refine ml_blk 2 (S' := (484, [(10, .int ((x3 + 2) + (8 * i431_9))), (0, .ref m0), (3, .int x3), (9, .int i431_9)], [.int (((x3 + 2) + (8 * i431_9)) + 2), .ref m0, .ref m0], M)) rfl ?_
                  refine ml_call (a := [.ref m0, .int (((x3 + 2) + (8 * i431_9)) + 2)]) (rest := [.ref m0]) rfl (hR.okc rfl rfl rfl) rfl rfl (rm_u2 hR hF (by omega) (by omega) (by omega)) (fun v164 M165 h166 => ?_)
                  obtain ⟨rfl, h166⟩ := h166
                  rw [h166]
                  show ml _ _ _ (487, [(10, .int ((x3 + 2) + (8 * i431_9))), (0, .ref m0), (3, .int x3), (9, .int i431_9)], [.int (f2 f (((x3 + 2) + (8 * i431_9)) + 2)), .ref m0], M) _
                  refine ml_call (a := [.ref m0, .int (f2 f (((x3 + 2) + (8 * i431_9)) + 2))]) (rest := []) rfl (hR.okc rfl rfl rfl) rfl rfl (rm_tag hR hF hP (by omega)) (fun v167 M168 h169 => ?_)
                  obtain ⟨rfl, h169⟩ := h169
                  rw [h169]
                  show ml _ _ _ (490, [(10, .int ((x3 + 2) + (8 * i431_9))), (0, .ref m0), (3, .int x3), (9, .int i431_9)], [.int (tgf f cp pa (f2 f (((x3 + 2) + (8 * i431_9)) + 2)))], M) _
                  refine ml_st (S' := (492, [(10, .int ((x3 + 2) + (8 * i431_9))), (0, .ref m0), (3, .int x3), (9, .int i431_9)], [.int 7, .int (tgf f cp pa (f2 f (((x3 + 2) + (8 * i431_9)) + 2)))], M)) rfl rfl rfl ?_
                  refine ml_if2 (S1 := (522, [], [], M)) (S2 := (495, [(0, .ref m0), (3, .int x3), (9, .int i431_9), (10, .int ((x3 + 2) + (8 * i431_9)))], [], M)) rfl rfl rfl (fun c_492 => ?_) (fun c_492 => ?_)
                  · have c_492 : ¬ (tgf f cp pa (f2 f (((x3 + 2) + (8 * i431_9)) + 2))) = 7 := of_decide_eq_true c_492
                    refine ml_st (S' := (524, [], [.int 33], M)) rfl rfl rfl ?_
                    exact ml_ret rfl (rfl) (⟨_, _, _, rfl, hR, eqI.rf, eqR.rf, hN⟩)
                  · have c_492 : ¬ (¬ (tgf f cp pa (f2 f (((x3 + 2) + (8 * i431_9)) + 2))) = 7) := of_decide_eq_false c_492
                    exact J_495 
        exact L_431 _ 0 (Nat.le_refl _) (by decide)
      · have c_422 : ¬ ((x4 - x3) = (2 + (8 * (f2 f x3)))) := of_decide_eq_false c_422
        refine ml_st (S' := (427, [], [.int 30], M)) rfl rfl rfl ?_
        exact ml_ret rfl (rfl) (⟨_, _, _, rfl, hR, eqI.rf, eqR.rf, hN⟩)
  · show ml _ _ _ (542, [(0, .ref m0), (1, .int x1), (2, .int x2), (3, .int x3), (4, .int x4), (5, .int x5), (6, .int x6)], [], M) _
    refine ml_blk 3 (S' := (546, [(0, .ref m0), (1, .int x1), (2, .int x2), (3, .int x3), (4, .int x4), (5, .int x5), (6, .int x6)], [.int x4, .int x3, .ref m0], M)) rfl ?_
    refine ml_call (a := [.ref m0, .int x3, .int x4]) (rest := []) rfl (hR.okc rfl rfl rfl) rfl rfl (rm_bootstraps hR hF hP (h0) (h1) (h2) (by omega)) (fun v170 M171 h172 => ?_)
    obtain ⟨u178, I173, R174, rfl, hR175, hI176, hV177, w179⟩ := h172
    show ml _ _ _ (549, [(0, .ref m0), (1, .int x1), (2, .int x2), (3, .int x3), (4, .int x4), (5, .int x5), (6, .int x6)], [.int u178], M171) _
    exact ml_ret rfl (rfl) (⟨_, _, _, rfl, hR175, (eqI.rf.tr hI176 (by decide)), (eqR.rf.tr hV177 (by decide)), (nw_boot hN hI176 w179)⟩)
  · show ml _ _ _ (550, [(0, .ref m0), (1, .int x1), (2, .int x2), (3, .int x3), (4, .int x4), (5, .int x5), (6, .int x6)], [], M) _
    refine ml_blk 3 (S' := (554, [(0, .ref m0), (1, .int x1), (2, .int x2), (3, .int x3), (4, .int x4), (5, .int x5), (6, .int x6)], [.int (x4 - x3)], M)) rfl ?_
    refine ml_st (S' := (555, [(0, .ref m0), (1, .int x1), (2, .int x2), (3, .int x3), (4, .int x4), (5, .int x5), (6, .int x6)], [.int 2, .int (x4 - x3)], M)) rfl rfl rfl ?_
    refine ml_if2 (S1 := (561, [(0, .ref m0), (1, .int x1), (2, .int x2), (3, .int x3), (4, .int x4), (5, .int x5), (6, .int x6)], [], M)) (S2 := (558, [(0, .ref m0), (1, .int x1), (2, .int x2), (3, .int x3), (4, .int x4), (5, .int x5), (6, .int x6)], [], M)) rfl rfl rfl (fun c_555 => ?_) (fun c_555 => ?_)
    · have c_555 : (x4 - x3) = 2 := of_decide_eq_true c_555
      have hd2 : (x4 - x3).toInt = 2 := by rw [c_555]; rfl
      rw [i_sub (by omega) (by omega)] at hd2
      refine ml_blk 3 (S' := (564, [(0, .ref m0), (1, .int x1), (2, .int x2), (3, .int x3), (4, .int x4), (5, .int x5), (6, .int x6)], [.int x3, .ref m0, .ref m0], M)) rfl ?_
      refine ml_call (a := [.ref m0, .int x3]) (rest := [.ref m0]) rfl (hR.okc rfl rfl rfl) rfl rfl (rm_u2 hR hF (h0) (by omega) (by omega)) (fun v180 M181 h182 => ?_)
      obtain ⟨rfl, h182⟩ := h182
      rw [h182]
      show ml _ _ _ (567, [(0, .ref m0), (1, .int x1), (2, .int x2), (3, .int x3), (4, .int x4), (5, .int x5), (6, .int x6)], [.int (f2 f x3), .ref m0], M) _
      refine ml_call (a := [.ref m0, .int (f2 f x3)]) (rest := []) rfl (hR.okc rfl rfl rfl) rfl rfl (rm_tag hR hF hP (by omega)) (fun v183 M184 h185 => ?_)
      obtain ⟨rfl, h185⟩ := h185
      rw [h185]
      show ml _ _ _ (570, [(0, .ref m0), (1, .int x1), (2, .int x2), (3, .int x3), (4, .int x4), (5, .int x5), (6, .int x6)], [.int (tgf f cp pa (f2 f x3))], M) _
      refine ml_st (S' := (572, [(0, .ref m0), (1, .int x1), (2, .int x2), (3, .int x3), (4, .int x4), (5, .int x5), (6, .int x6)], [.int 7, .int (tgf f cp pa (f2 f x3))], M)) rfl rfl rfl ?_
      refine ml_if2 (S1 := (586, [], [], M)) (S2 := (575, [(0, .ref m0), (1, .int x1), (2, .int x2), (3, .int x3), (4, .int x4), (5, .int x5), (6, .int x6)], [], M)) rfl rfl rfl (fun c_572 => ?_) (fun c_572 => ?_)
      · have c_572 : ¬ (tgf f cp pa (f2 f x3)) = 7 := of_decide_eq_true c_572
        refine ml_st (S' := (588, [], [.int 34], M)) rfl rfl rfl ?_
        exact ml_ret rfl (rfl) (⟨_, _, _, rfl, hR, eqI.rf, eqR.rf, hN⟩)
      · have c_572 : ¬ (¬ (tgf f cp pa (f2 f x3)) = 7) := of_decide_eq_false c_572
        refine ml_blk 3 (S' := (580, [(0, .ref m0), (1, .int x1), (2, .int x2), (3, .int x3), (4, .int x4), (5, .int x5), (6, .int x6)], [.int (x6 >>> (7 &&& 31))], M)) rfl ?_
        refine ml_blk 3 (S' := (583, [(0, .ref m0), (1, .int x1), (2, .int x2), (3, .int x3), (4, .int x4), (5, .int x5), (6, .int x6)], [.int 1, .int ((x6 >>> (7 &&& 31)) &&& 1)], M)) rfl ?_
        refine ml_if2 (S1 := (589, [(0, .ref m0), (1, .int x1), (2, .int x2), (3, .int x3), (4, .int x4), (5, .int x5), (6, .int x6)], [], M)) (S2 := (586, [], [], M)) rfl rfl rfl (fun c_583 => ?_) (fun c_583 => ?_)
        · have c_583 : ¬ ((x6 >>> (7 &&& 31)) &&& 1) = 1 := of_decide_eq_true c_583
          refine ml_blk 3 (S' := (592, [(0, .ref m0), (1, .int x1), (2, .int x2), (3, .int x3), (4, .int x4), (5, .int x5), (6, .int x6)], [.int x3, .ref m0, .ref m0], M)) rfl ?_
          refine ml_call (a := [.ref m0, .int x3]) (rest := [.ref m0]) rfl (hR.okc rfl rfl rfl) rfl rfl (rm_u2 hR hF (h0) (by omega) (by omega)) (fun v186 M187 h188 => ?_)
          obtain ⟨rfl, h188⟩ := h188
          rw [h188]
          show ml _ _ _ (595, [(0, .ref m0), (1, .int x1), (2, .int x2), (3, .int x3), (4, .int x4), (5, .int x5), (6, .int x6)], [.int (f2 f x3), .ref m0], M) _
          refine rp_int rfl hR rfl (fun M189 I190 hR191 e192 f193 => ?_)
          show ml _ _ _ (598, [(0, .ref m0), (1, .int x1), (2, .int x2), (3, .int x3), (4, .int x4), (5, .int x5), (6, .int x6)], [], M189) _
          refine ml_st (S' := (599, [(0, .ref m0), (1, .int x1), (2, .int x2), (3, .int x3), (4, .int x4), (5, .int x5), (6, .int x6)], [.int 0], M189)) rfl rfl rfl ?_
          exact ml_ret rfl (rfl) (⟨_, _, _, rfl, hR191, (eqI.rf.put f193 (by decide)), eqR.rf, (hN.put (by decide) e192 f193)⟩)
        · have c_583 : ¬ (¬ ((x6 >>> (7 &&& 31)) &&& 1) = 1) := of_decide_eq_false c_583
          refine ml_st (S' := (588, [], [.int 34], M)) rfl rfl rfl ?_
          exact ml_ret rfl (rfl) (⟨_, _, _, rfl, hR, eqI.rf, eqR.rf, hN⟩)
    · have c_555 : ¬ ((x4 - x3) = 2) := of_decide_eq_false c_555
      refine ml_st (S' := (560, [(0, .ref m0), (1, .int x1), (2, .int x2), (3, .int x3), (4, .int x4), (5, .int x5), (6, .int x6)], [.int 30], M)) rfl rfl rfl ?_
      exact ml_ret rfl (rfl) (⟨_, _, _, rfl, hR, eqI.rf, eqR.rf, hN⟩)
  · show ml _ _ _ (600, [(0, .ref m0), (1, .int x1), (2, .int x2), (3, .int x3), (4, .int x4), (5, .int x5), (6, .int x6)], [], M) _
    refine ml_blk 3 (S' := (604, [(0, .ref m0), (1, .int x1), (2, .int x2), (3, .int x3), (4, .int x4), (5, .int x5), (6, .int x6)], [.int x4, .int x3, .ref m0], M)) rfl ?_
    refine ml_call (a := [.ref m0, .int x3, .int x4]) (rest := []) rfl (hR.okc rfl rfl rfl) rfl rfl (rm_components hR hF hY hP (h0) (h1) (h2) (by omega)) (fun v194 M195 h196 => ?_)
    obtain ⟨u202, I197, R198, rfl, hR199, hI200, hV201, w203⟩ := h196
    show ml _ _ _ (607, [(0, .ref m0), (1, .int x1), (2, .int x2), (3, .int x3), (4, .int x4), (5, .int x5), (6, .int x6)], [.int u202], M195) _
    exact ml_ret rfl (rfl) (⟨_, _, _, rfl, hR199, (eqI.rf.tr hI200 (by decide)), (eqR.rf.tr hV201 (by decide)), (nw_comp hN hI200 w203)⟩)
set_option maxHeartbeats 2000000 in
theorem rm_checkAttributes4 {g : xe_G}  {m0 : Nat} {q : Nat → Nat} {z : Nat × Nat} {I : rI} {R : rR} {M : mi_H} {x1 x2 x3 nf : Int32} {n : Nat} {f : Nat → Int32} {S cN : Nat} {sa sl ch : Nat → Int32} {cp mj : Int32} {pa py : Nat → Int32} {e : Int32}  (hR : RS g m0 q z I R M) (hk58 : I 58 = some nf) (hF : FK n f I R) (hY : SK S cN sa sl ch I R) (hP : PK n f S cp mj pa py I R) (hK : KW I R) (hw : x2 = 4) (hat : AT f n x1 e) (hN : NW f n I) {d : Nat} (hd : 7 ≤ d) : mt (mT g) d 187 [.ref m0, .int x1, .int x2, .int x3] M (fun v M' => ∃ (x : Int32) (I' : rI) (R' : rR), v = some (.int x) ∧ RS g m0 q z I' R' M' ∧ eqI [47, 48, 65, 66, 67, 68, 69, 70, 71, 72] I I' ∧ eqR [] R R' ∧ (x.toInt < 0 ∨ x = e) ∧ NW f n I') := by
  obtain ⟨d, rfl⟩ : ∃ e, d = e + 1 := ⟨d - 1, by omega⟩
  refine mt_in (b := mb_187 g) rfl rfl ?_
  show ml (mT g) d (mb_187 g).2 (0, [(0, .ref m0), (1, .int x1), (2, .int x2), (3, .int x3)], [], M) _
  have hn := hF.1
  refine ml_blk 2 (S' := (2, [(0, .ref m0), (1, .int x1), (2, .int x2), (3, .int x3)], [.int x1, .ref m0], M)) rfl ?_
  refine ml_call (a := [.ref m0, .int x1]) (rest := []) rfl (hR.okc rfl rfl rfl) rfl rfl (rm_u2 hR hF (hat.1) (hat.2.1) (by omega)) (fun v11 M12 h13 => ?_)
  obtain ⟨rfl, h13⟩ := h13
  rw [h13]
  show ml _ _ _ (5, [(0, .ref m0), (1, .int x1), (2, .int x2), (3, .int x3)], [.int (f2 f x1)], M) _
  refine ml_st (S' := (7, [(4, .int (f2 f x1)), (0, .ref m0), (1, .int x1), (2, .int x2), (3, .int x3)], [], M)) rfl rfl rfl ?_
  refine ml_blk 3 (S' := (10, [(4, .int (f2 f x1)), (0, .ref m0), (1, .int x1), (2, .int x2), (3, .int x3)], [.int (x1 + 2)], M)) rfl ?_
  refine ml_st (S' := (12, [(5, .int (x1 + 2)), (4, .int (f2 f x1)), (0, .ref m0), (1, .int x1), (2, .int x2), (3, .int x3)], [], M)) rfl rfl rfl ?_
  refine ml_st (S' := (13, [(5, .int (x1 + 2)), (4, .int (f2 f x1)), (0, .ref m0), (1, .int x1), (2, .int x2), (3, .int x3)], [.int 0], M)) rfl rfl rfl ?_
  refine ml_st (S' := (15, [(6, .int 0), (5, .int (x1 + 2)), (4, .int (f2 f x1)), (0, .ref m0), (1, .int x1), (2, .int x2), (3, .int x3)], [], M)) rfl rfl rfl ?_
  refine ml_st (S' := (16, [(6, .int 0), (5, .int (x1 + 2)), (4, .int (f2 f x1)), (0, .ref m0), (1, .int x1), (2, .int x2), (3, .int x3)], [.int 0], M)) rfl rfl rfl ?_
  refine ml_st (S' := (18, [(0, .ref m0), (2, .int x2), (3, .int x3), (4, .int (f2 f x1)), (5, .int (x1 + 2)), (6, .int 0), (7, .int 0)], [], M)) rfl rfl rfl ?_
  have L_18 : ∀ (n_18 : Nat) (i18_5 : Int32) (i18_6 : Int32) (i18_7 : Int32) (M_18 : mi_H) (I_18 : rI) (R_18 : rR), (2147483648 - i18_7.toInt).toNat ≤ n_18 → RS g m0 q z I_18 R_18 M_18 → eqI [47, 48, 65, 66, 67, 68, 69, 70, 71, 72] I I_18 → eqR [] R R_18 → (0 ≤ i18_7.toInt ∧ i18_7.toInt ≤ (f2 f x1).toInt ∧ itr (RA1 f n) ((f2 f x1).toInt - i18_7.toInt).toNat i18_5 e ∧ NW f n I_18) → ml (mT g) d (mb_187 g).2 (18, [(0, .ref m0), (2, .int x2), (3, .int x3), (4, .int (f2 f x1)), (5, .int i18_5), (6, .int i18_6), (7, .int i18_7)], [], M_18) (fun v M' => ∃ (x : Int32) (I' : rI) (R' : rR), v = some (.int x) ∧ RS g m0 q z I' R' M' ∧ eqI [47, 48, 65, 66, 67, 68, 69, 70, 71, 72] I I' ∧ eqR [] R R' ∧ (x.toInt < 0 ∨ x = e) ∧ NW f n I') := by
    intro n_18
    induction n_18 with
    | zero => intro i18_5 i18_6 i18_7 M_18 I_18 R_18 hn; exact (loop_zero hn).elim
    | succ n_18 ih_18 =>
      intro i18_5 i18_6 i18_7 M_18 I_18 R_18 hn_18 hR_18 hI_18 hV_18 hi_18
      obtain ⟨hk0, hk1, hit, hnw18⟩ := hi_18
      refine ml_blk 2 (S' := (22, [(0, .ref m0), (2, .int x2), (3, .int x3), (4, .int (f2 f x1)), (5, .int i18_5), (6, .int i18_6), (7, .int i18_7)], [.int (f2 f x1), .int i18_7], M_18)) rfl ?_
      refine ml_if2 (S1 := (284, [(0, .ref m0), (2, .int x2), (3, .int x3), (4, .int (f2 f x1)), (5, .int i18_5), (6, .int i18_6), (7, .int i18_7)], [], M_18)) (S2 := (25, [(0, .ref m0), (2, .int x2), (3, .int x3), (4, .int (f2 f x1)), (5, .int i18_5), (6, .int i18_6), (7, .int i18_7)], [], M_18)) rfl rfl rfl (fun c_22 => ?_) (fun c_22 => ?_)
      · have c_22 : (f2 f x1) ≤ i18_7 := of_decide_eq_true c_22
        refine ml_st (S' := (286, [(0, .ref m0), (2, .int x2), (3, .int x3), (4, .int (f2 f x1)), (5, .int i18_5), (6, .int i18_6), (7, .int i18_7)], [.int i18_5], M_18)) rfl rfl rfl ?_
        exact ml_ret rfl (rfl) (⟨_, _, _, rfl, hR_18, (eqI.rf.tr hI_18 (by decide)), (eqR.rf.tr hV_18 (by decide)), ⟨Or.inr (itr_one hit (by have := i_le c_22; omega)).symm, hnw18⟩⟩)
      · have c_22 : ¬ ((f2 f x1) ≤ i18_7) := of_decide_eq_false c_22
        obtain ⟨b1, hb1, hnx⟩ := itr_next hit c_22
        have hb2 := hb1
        obtain ⟨g0, g1, g2, g3⟩ := hb2
        have ep2 : (i18_5 + 2).toInt = i18_5.toInt + 2 := i_add (by have : (2 : Int32).toInt = 2 := rfl; omega) (by have : (2 : Int32).toInt = 2 := rfl; omega)
        have ep6 : (i18_5 + 6).toInt = i18_5.toInt + 6 := i_add (by have : (6 : Int32).toInt = 6 := rfl; omega) (by have : (6 : Int32).toInt = 6 := rfl; omega)
        have hra := ra_of (f := f) hn g0 g2
        have hl0 := f4_pos (f := f) (x := i18_5 + 2)
        have hle : (i18_5 + 6 + Int64.toInt32 (f4 f (i18_5 + 2))).toInt = i18_5.toInt + 6 + (f4 f (i18_5 + 2)).toInt := by have di : (Int64.toInt32 (f4 f (i18_5 + 2))).toInt = (f4 f (i18_5 + 2)).toInt := i_of (by omega) (by omega); rw [i_add (by omega) (by omega), di, ep6]
        refine ml_blk 3 (S' := (29, [(0, .ref m0), (2, .int x2), (3, .int x3), (4, .int (f2 f x1)), (5, .int i18_5), (6, .int i18_6), (7, .int i18_7)], [.int 2, .int i18_5, .ref m0], M_18)) rfl ?_
        refine ml_st (S' := (30, [(0, .ref m0), (2, .int x2), (3, .int x3), (4, .int (f2 f x1)), (5, .int i18_5), (6, .int i18_6), (7, .int i18_7)], [.int (i18_5 + 2), .ref m0], M_18)) rfl rfl rfl ?_
        have hF14 : FK n f I_18 R_18 := (hF.mono (cIx hI_18 (by decide)) (cRx hV_18 (by decide)))
        refine ml_call (a := [.ref m0, .int (i18_5 + 2)]) (rest := []) rfl (hR_18.okc rfl rfl rfl) rfl rfl (rm_u4 hR_18 hF14 (by omega) (by omega) (by omega)) (fun v15 M16 h17 => ?_)
        obtain ⟨rfl, h17⟩ := h17
        rw [h17]
        show ml _ _ _ (33, [(0, .ref m0), (2, .int x2), (3, .int x3), (4, .int (f2 f x1)), (5, .int i18_5), (6, .int i18_6), (7, .int i18_7)], [.long (f4 f (i18_5 + 2))], M_18) _
        refine ml_st (S' := (34, [(0, .ref m0), (2, .int x2), (3, .int x3), (4, .int (f2 f x1)), (5, .int i18_5), (6, .int i18_6), (7, .int i18_7)], [.int (Int64.toInt32 (f4 f (i18_5 + 2)))], M_18)) rfl rfl rfl ?_
        refine ml_st (S' := (36, [(8, .int (Int64.toInt32 (f4 f (i18_5 + 2)))), (0, .ref m0), (2, .int x2), (3, .int x3), (4, .int (f2 f x1)), (5, .int i18_5), (6, .int i18_6), (7, .int i18_7)], [], M_18)) rfl rfl rfl ?_
        refine ml_blk 3 (S' := (40, [(8, .int (Int64.toInt32 (f4 f (i18_5 + 2)))), (0, .ref m0), (2, .int x2), (3, .int x3), (4, .int (f2 f x1)), (5, .int i18_5), (6, .int i18_6), (7, .int i18_7)], [.int i18_5, .ref m0, .ref m0], M_18)) rfl ?_
        refine ml_call (a := [.ref m0, .int i18_5]) (rest := [.ref m0]) rfl (hR_18.okc rfl rfl rfl) rfl rfl (rm_u2 hR_18 hF14 (g0) (by omega) (by omega)) (fun v18 M19 h20 => ?_)
        obtain ⟨rfl, h20⟩ := h20
        rw [h20]
        show ml _ _ _ (43, [(8, .int (Int64.toInt32 (f4 f (i18_5 + 2)))), (0, .ref m0), (2, .int x2), (3, .int x3), (4, .int (f2 f x1)), (5, .int i18_5), (6, .int i18_6), (7, .int i18_7)], [.int (f2 f i18_5), .ref m0], M_18) _
        have hP21 : PK n f S cp mj pa py I_18 R_18 := (hP.mono (cIx hI_18 (by decide)) (cRx hV_18 (by decide)))
        refine ml_call (a := [.ref m0, .int (f2 f i18_5)]) (rest := []) rfl (hR_18.okc rfl rfl rfl) rfl rfl (rm_tag hR_18 hF14 hP21 (by omega)) (fun v22 M23 h24 => ?_)
        obtain ⟨rfl, h24⟩ := h24
        rw [h24]
        show ml _ _ _ (46, [(8, .int (Int64.toInt32 (f4 f (i18_5 + 2)))), (0, .ref m0), (2, .int x2), (3, .int x3), (4, .int (f2 f x1)), (5, .int i18_5), (6, .int i18_6), (7, .int i18_7)], [.int (tgf f cp pa (f2 f i18_5))], M_18) _
        refine ml_st (S' := (47, [(8, .int (Int64.toInt32 (f4 f (i18_5 + 2)))), (0, .ref m0), (2, .int x2), (3, .int x3), (4, .int (f2 f x1)), (5, .int i18_5), (6, .int i18_6), (7, .int i18_7)], [.int 1, .int (tgf f cp pa (f2 f i18_5))], M_18)) rfl rfl rfl ?_
        refine ml_if2 (S1 := (61, [(8, .int (Int64.toInt32 (f4 f (i18_5 + 2)))), (0, .ref m0), (2, .int x2), (3, .int x3), (4, .int (f2 f x1)), (5, .int i18_5), (6, .int i18_6), (7, .int i18_7)], [], M_18)) (S2 := (50, [(8, .int (Int64.toInt32 (f4 f (i18_5 + 2)))), (0, .ref m0), (2, .int x2), (3, .int x3), (4, .int (f2 f x1)), (5, .int i18_5), (6, .int i18_6), (7, .int i18_7)], [], M_18)) rfl rfl rfl (fun c_47 => ?_) (fun c_47 => ?_)
        · have c_47 : (tgf f cp pa (f2 f i18_5)) = 1 := of_decide_eq_true c_47
          refine ml_blk 3 (S' := (65, [(8, .int (Int64.toInt32 (f4 f (i18_5 + 2)))), (0, .ref m0), (2, .int x2), (3, .int x3), (4, .int (f2 f x1)), (5, .int i18_5), (6, .int i18_6), (7, .int i18_7)], [.int i18_5, .ref m0, .ref m0], M_18)) rfl ?_
          refine ml_call (a := [.ref m0, .int i18_5]) (rest := [.ref m0]) rfl (hR_18.okc rfl rfl rfl) rfl rfl (rm_u2 hR_18 hF14 (g0) (by omega) (by omega)) (fun v25 M26 h27 => ?_)
          obtain ⟨rfl, h27⟩ := h27
          rw [h27]
          show ml _ _ _ (68, [(8, .int (Int64.toInt32 (f4 f (i18_5 + 2)))), (0, .ref m0), (2, .int x2), (3, .int x3), (4, .int (f2 f x1)), (5, .int i18_5), (6, .int i18_6), (7, .int i18_7)], [.int (f2 f i18_5), .ref m0], M_18) _
          refine ml_call (a := [.ref m0, .int (f2 f i18_5)]) (rest := []) rfl (hR_18.okc rfl rfl rfl) rfl rfl (rm_symOf hR_18 hP21 (c_47) (by omega)) (fun v28 M29 h30 => ?_)
          obtain ⟨rfl, h30⟩ := h30
          rw [h30]
          show ml _ _ _ (71, [(8, .int (Int64.toInt32 (f4 f (i18_5 + 2)))), (0, .ref m0), (2, .int x2), (3, .int x3), (4, .int (f2 f x1)), (5, .int i18_5), (6, .int i18_6), (7, .int i18_7)], [.int (pyf py (f2 f i18_5))], M_18) _
          refine ml_st (S' := (73, [(9, .int (pyf py (f2 f i18_5))), (8, .int (Int64.toInt32 (f4 f (i18_5 + 2)))), (0, .ref m0), (2, .int x2), (3, .int x3), (4, .int (f2 f x1)), (5, .int i18_5), (6, .int i18_6), (7, .int i18_7)], [], M_18)) rfl rfl rfl ?_
          have hy9 := hP.y (show tgf f cp pa (f2 f i18_5) = 1 from c_47)
          refine ml_st (S' := (74, [(9, .int (pyf py (f2 f i18_5))), (8, .int (Int64.toInt32 (f4 f (i18_5 + 2)))), (0, .ref m0), (2, .int x2), (3, .int x3), (4, .int (f2 f x1)), (5, .int i18_5), (6, .int i18_6), (7, .int i18_7)], [.int (-1)], M_18)) rfl rfl rfl ?_
          refine ml_st (S' := (76, [(10, .int (-1)), (9, .int (pyf py (f2 f i18_5))), (8, .int (Int64.toInt32 (f4 f (i18_5 + 2)))), (0, .ref m0), (2, .int x2), (3, .int x3), (4, .int (f2 f x1)), (5, .int i18_5), (6, .int i18_6), (7, .int i18_7)], [], M_18)) rfl rfl rfl ?_
          refine ml_st (S' := (77, [(10, .int (-1)), (9, .int (pyf py (f2 f i18_5))), (8, .int (Int64.toInt32 (f4 f (i18_5 + 2)))), (0, .ref m0), (2, .int x2), (3, .int x3), (4, .int (f2 f x1)), (5, .int i18_5), (6, .int i18_6), (7, .int i18_7)], [.int 0], M_18)) rfl rfl rfl ?_
          refine ml_st (S' := (79, [(0, .ref m0), (2, .int x2), (3, .int x3), (4, .int (f2 f x1)), (5, .int i18_5), (6, .int i18_6), (7, .int i18_7), (8, .int (Int64.toInt32 (f4 f (i18_5 + 2)))), (9, .int (pyf py (f2 f i18_5))), (10, .int (-1)), (11, .int 0)], [], M_18)) rfl rfl rfl ?_
          have L_79 : ∀ (n_79 : Nat) (i79_10 : Int32) (i79_11 : Int32), (2147483648 - i79_11.toInt).toNat ≤ n_79 → (0 ≤ i79_11.toInt ∧ (i79_10 < 0 ∨ (0 ≤ i79_10.toInt ∧ i79_10.toInt < 10 ∧ kin i79_10 = x2))) → ml (mT g) d (mb_187 g).2 (79, [(0, .ref m0), (2, .int x2), (3, .int x3), (4, .int (f2 f x1)), (5, .int i18_5), (6, .int i18_6), (7, .int i18_7), (8, .int (Int64.toInt32 (f4 f (i18_5 + 2)))), (9, .int (pyf py (f2 f i18_5))), (10, .int i79_10), (11, .int i79_11)], [], M_18) (fun v M' => ∃ (x : Int32) (I' : rI) (R' : rR), v = some (.int x) ∧ RS g m0 q z I' R' M' ∧ eqI [47, 48, 65, 66, 67, 68, 69, 70, 71, 72] I I' ∧ eqR [] R R' ∧ (x.toInt < 0 ∨ x = e) ∧ NW f n I') := by
            intro n_79
            induction n_79 with
            | zero => intro i79_10 i79_11 hn; exact (loop_zero hn).elim
            | succ n_79 ih_79 =>
              intro i79_10 i79_11 hn_79 hi_79
              obtain ⟨hj0, hjw⟩ := hi_79
              refine ml_blk 2 (S' := (82, [(0, .ref m0), (2, .int x2), (3, .int x3), (4, .int (f2 f x1)), (5, .int i18_5), (6, .int i18_6), (7, .int i18_7), (8, .int (Int64.toInt32 (f4 f (i18_5 + 2)))), (9, .int (pyf py (f2 f i18_5))), (10, .int i79_10), (11, .int i79_11)], [.ref m0, .int i79_11], M_18)) rfl ?_
              refine rg_ref (S' := (85, [(0, .ref m0), (2, .int x2), (3, .int x3), (4, .int (f2 f x1)), (5, .int i18_5), (6, .int i18_6), (7, .int i18_7), (8, .int (Int64.toInt32 (f4 f (i18_5 + 2)))), (9, .int (pyf py (f2 f i18_5))), (10, .int i79_10), (11, .int i79_11)], [.ref (q 62), .int i79_11], M_18)) rfl hR_18 rfl rfl ?_
              refine rl_kn (S' := (86, [(0, .ref m0), (2, .int x2), (3, .int x3), (4, .int (f2 f x1)), (5, .int i18_5), (6, .int i18_6), (7, .int i18_7), (8, .int (Int64.toInt32 (f4 f (i18_5 + 2)))), (9, .int (pyf py (f2 f i18_5))), (10, .int i79_10), (11, .int i79_11)], [.int (nI 10), .int i79_11], M_18)) rfl hR_18 rfl ?_
              refine ml_if2 (S1 := (140, [(0, .ref m0), (2, .int x2), (3, .int x3), (4, .int (f2 f x1)), (5, .int i18_5), (6, .int i18_6), (7, .int i18_7), (8, .int (Int64.toInt32 (f4 f (i18_5 + 2)))), (9, .int (pyf py (f2 f i18_5))), (10, .int i79_10), (11, .int i79_11)], [], M_18)) (S2 := (89, [(0, .ref m0), (2, .int x2), (3, .int x3), (4, .int (f2 f x1)), (5, .int i18_5), (6, .int i18_6), (7, .int i18_7), (8, .int (Int64.toInt32 (f4 f (i18_5 + 2)))), (9, .int (pyf py (f2 f i18_5))), (10, .int i79_10), (11, .int i79_11)], [], M_18)) rfl rfl rfl (fun c_86 => ?_) (fun c_86 => ?_)
              · have c_86 : (nI 10) ≤ i79_11 := of_decide_eq_true c_86
                refine ml_st (S' := (142, [(0, .ref m0), (2, .int x2), (3, .int x3), (4, .int (f2 f x1)), (5, .int i18_5), (6, .int i18_6), (7, .int i18_7), (8, .int (Int64.toInt32 (f4 f (i18_5 + 2)))), (9, .int (pyf py (f2 f i18_5))), (10, .int i79_10), (11, .int i79_11)], [.int i79_10], M_18)) rfl rfl rfl ?_
                refine ml_if (S1 := (268, [(0, .ref m0), (2, .int x2), (3, .int x3), (4, .int (f2 f x1)), (5, .int i18_5), (6, .int i18_6), (7, .int i18_7), (8, .int (Int64.toInt32 (f4 f (i18_5 + 2))))], [], M_18)) (S2 := (145, [(0, .ref m0), (2, .int x2), (3, .int x3), (4, .int (f2 f x1)), (5, .int i18_5), (6, .int i18_6), (7, .int i18_7), (8, .int (Int64.toInt32 (f4 f (i18_5 + 2)))), (9, .int (pyf py (f2 f i18_5))), (10, .int i79_10), (11, .int i79_11)], [], M_18)) rfl rfl rfl (fun c_142 => ?_) (fun c_142 => ?_)
                · have c_142 : i79_10 < 0 := of_decide_eq_true c_142
                  refine ml_blk 3 (S' := (274, [(0, .ref m0), (2, .int x2), (3, .int x3), (4, .int (f2 f x1)), (5, .int i18_5), (6, .int i18_6), (7, .int i18_7), (8, .int (Int64.toInt32 (f4 f (i18_5 + 2))))], [.int (Int64.toInt32 (f4 f (i18_5 + 2))), .int 6, .int i18_5], M_18)) rfl ?_
                  refine ml_blk 2 (S' := (276, [(0, .ref m0), (2, .int x2), (3, .int x3), (4, .int (f2 f x1)), (5, .int i18_5), (6, .int i18_6), (7, .int i18_7), (8, .int (Int64.toInt32 (f4 f (i18_5 + 2))))], [.int (i18_5 + (6 + (Int64.toInt32 (f4 f (i18_5 + 2)))))], M_18)) rfl ?_
                  refine ml_st (S' := (278, [(5, .int (i18_5 + (6 + (Int64.toInt32 (f4 f (i18_5 + 2)))))), (0, .ref m0), (2, .int x2), (3, .int x3), (4, .int (f2 f x1)), (6, .int i18_6), (7, .int i18_7), (8, .int (Int64.toInt32 (f4 f (i18_5 + 2))))], [], M_18)) rfl rfl rfl ?_
                  refine ml_st (S' := (281, [(7, .int (i18_7 + 1)), (5, .int (i18_5 + (6 + (Int64.toInt32 (f4 f (i18_5 + 2)))))), (0, .ref m0), (2, .int x2), (3, .int x3), (4, .int (f2 f x1)), (6, .int i18_6), (8, .int (Int64.toInt32 (f4 f (i18_5 + 2))))], [], M_18)) rfl rfl rfl ?_
                  refine ml_st (S' := (18, [(0, .ref m0), (2, .int x2), (3, .int x3), (4, .int (f2 f x1)), (5, .int (i18_5 + (6 + (Int64.toInt32 (f4 f (i18_5 + 2)))))), (6, .int i18_6), (7, .int (i18_7 + 1))], [], M_18)) rfl rfl rfl ?_
                  exact ih_18 (i18_5 + (6 + (Int64.toInt32 (f4 f (i18_5 + 2))))) i18_6 (i18_7 + 1) _ _ _ (loop_inc (Int32.not_le.mp c_22) hn_18) hR_18 (eqI.rf.tr hI_18 (by decide)) (eqR.rf.tr hV_18 (by decide)) (⟨by rw [inc_lt (Int32.not_le.mp c_22)]; omega, by rw [inc_lt (Int32.not_le.mp c_22)]; have := i_nle c_22; omega, hb1.eq hra ▸ hnx, hnw18⟩)
                · have c_142 : ¬ (i79_10 < 0) := of_decide_eq_false c_142
                  have hwn := hjw.resolve_left c_142
                  refine ml_blk 2 (S' := (147, [(0, .ref m0), (2, .int x2), (3, .int x3), (4, .int (f2 f x1)), (5, .int i18_5), (6, .int i18_6), (7, .int i18_7), (8, .int (Int64.toInt32 (f4 f (i18_5 + 2)))), (9, .int (pyf py (f2 f i18_5))), (10, .int i79_10), (11, .int i79_11)], [.int 1, .int x2], M_18)) rfl ?_
                  refine ml_if2 (S1 := (160, [(0, .ref m0), (2, .int x2), (3, .int x3), (4, .int (f2 f x1)), (5, .int i18_5), (6, .int i18_6), (7, .int i18_7), (8, .int (Int64.toInt32 (f4 f (i18_5 + 2)))), (10, .int i79_10)], [], M_18)) (S2 := (150, [(0, .ref m0), (2, .int x2), (3, .int x3), (4, .int (f2 f x1)), (5, .int i18_5), (6, .int i18_6), (7, .int i18_7), (8, .int (Int64.toInt32 (f4 f (i18_5 + 2)))), (9, .int (pyf py (f2 f i18_5))), (10, .int i79_10), (11, .int i79_11)], [], M_18)) rfl rfl rfl (fun c_147 => ?_) (fun c_147 => ?_)
                  rotate_left
                  · exact absurd ((by rw [hw]; decide : ¬ x2 = 1)) (of_decide_eq_false c_147)
                  refine ml_blk 2 (S' := (162, [(0, .ref m0), (2, .int x2), (3, .int x3), (4, .int (f2 f x1)), (5, .int i18_5), (6, .int i18_6), (7, .int i18_7), (8, .int (Int64.toInt32 (f4 f (i18_5 + 2)))), (10, .int i79_10)], [.int 2, .int x2], M_18)) rfl ?_
                  refine ml_if2 (S1 := (175, [(0, .ref m0), (2, .int x2), (3, .int x3), (4, .int (f2 f x1)), (5, .int i18_5), (6, .int i18_6), (7, .int i18_7), (8, .int (Int64.toInt32 (f4 f (i18_5 + 2)))), (10, .int i79_10)], [], M_18)) (S2 := (165, [(0, .ref m0), (2, .int x2), (3, .int x3), (4, .int (f2 f x1)), (5, .int i18_5), (6, .int i18_6), (7, .int i18_7), (8, .int (Int64.toInt32 (f4 f (i18_5 + 2)))), (10, .int i79_10)], [], M_18)) rfl rfl rfl (fun c_162 => ?_) (fun c_162 => ?_)
                  rotate_left
                  · exact absurd ((by rw [hw]; decide : ¬ x2 = 2)) (of_decide_eq_false c_162)
                  refine ml_blk 2 (S' := (177, [(0, .ref m0), (2, .int x2), (3, .int x3), (4, .int (f2 f x1)), (5, .int i18_5), (6, .int i18_6), (7, .int i18_7), (8, .int (Int64.toInt32 (f4 f (i18_5 + 2)))), (10, .int i79_10)], [.int 4, .int x2], M_18)) rfl ?_
                  refine ml_if2 (S1 := (190, [(0, .ref m0), (2, .int x2), (3, .int x3), (4, .int (f2 f x1)), (5, .int i18_5), (6, .int i18_6), (7, .int i18_7), (8, .int (Int64.toInt32 (f4 f (i18_5 + 2)))), (10, .int i79_10)], [], M_18)) (S2 := (180, [(0, .ref m0), (2, .int x2), (3, .int x3), (4, .int (f2 f x1)), (5, .int i18_5), (6, .int i18_6), (7, .int i18_7), (8, .int (Int64.toInt32 (f4 f (i18_5 + 2)))), (10, .int i79_10)], [], M_18)) rfl rfl rfl (fun c_177 => ?_) (fun c_177 => ?_)
                  · exact absurd (of_decide_eq_true c_177) ((fun h => h hw))
                  obtain ⟨v66, hv66⟩ := hnw18.1 66 (by decide)
                  refine ml_blk 2 (S' := (182, [(0, .ref m0), (2, .int x2), (3, .int x3), (4, .int (f2 f x1)), (5, .int i18_5), (6, .int i18_6), (7, .int i18_7), (8, .int (Int64.toInt32 (f4 f (i18_5 + 2)))), (10, .int i79_10)], [.ref m0, .ref m0], M_18)) rfl ?_
                  refine rg_int (S' := (185, [(0, .ref m0), (2, .int x2), (3, .int x3), (4, .int (f2 f x1)), (5, .int i18_5), (6, .int i18_6), (7, .int i18_7), (8, .int (Int64.toInt32 (f4 f (i18_5 + 2)))), (10, .int i79_10)], [.int v66, .ref m0], M_18)) rfl hR_18 rfl (hv66) rfl ?_
                  refine ml_blk 2 (S' := (187, [(0, .ref m0), (2, .int x2), (3, .int x3), (4, .int (f2 f x1)), (5, .int i18_5), (6, .int i18_6), (7, .int i18_7), (8, .int (Int64.toInt32 (f4 f (i18_5 + 2)))), (10, .int i79_10)], [.int (v66 + 1), .ref m0], M_18)) rfl ?_
                  refine rp_int rfl hR_18 rfl (fun M31 I32 hR33 e34 f35 => ?_)
                  show ml _ _ _ (190, [(0, .ref m0), (2, .int x2), (3, .int x3), (4, .int (f2 f x1)), (5, .int i18_5), (6, .int i18_6), (7, .int i18_7), (8, .int (Int64.toInt32 (f4 f (i18_5 + 2)))), (10, .int i79_10)], [], M31) _
                  refine ml_blk 3 (S' := (195, [(0, .ref m0), (2, .int x2), (3, .int x3), (4, .int (f2 f x1)), (5, .int i18_5), (6, .int i18_6), (7, .int i18_7), (8, .int (Int64.toInt32 (f4 f (i18_5 + 2)))), (10, .int i79_10)], [.int (i18_6 >>> (i79_10 &&& 31))], M31)) rfl ?_
                  refine ml_blk 3 (S' := (198, [(0, .ref m0), (2, .int x2), (3, .int x3), (4, .int (f2 f x1)), (5, .int i18_5), (6, .int i18_6), (7, .int i18_7), (8, .int (Int64.toInt32 (f4 f (i18_5 + 2)))), (10, .int i79_10)], [.int 1, .int ((i18_6 >>> (i79_10 &&& 31)) &&& 1)], M31)) rfl ?_
                  refine ml_if2 (S1 := (212, [(0, .ref m0), (2, .int x2), (3, .int x3), (4, .int (f2 f x1)), (5, .int i18_5), (6, .int i18_6), (7, .int i18_7), (8, .int (Int64.toInt32 (f4 f (i18_5 + 2)))), (10, .int i79_10)], [], M31)) (S2 := (201, [(0, .ref m0), (2, .int x2), (3, .int x3), (4, .int (f2 f x1)), (5, .int i18_5), (6, .int i18_6), (7, .int i18_7), (8, .int (Int64.toInt32 (f4 f (i18_5 + 2)))), (10, .int i79_10)], [], M31)) rfl rfl rfl (fun c_198 => ?_) (fun c_198 => ?_)
                  · have c_198 : ¬ ((i18_6 >>> (i79_10 &&& 31)) &&& 1) = 1 := of_decide_eq_true c_198
                    refine ml_blk 3 (S' := (217, [(0, .ref m0), (2, .int x2), (3, .int x3), (4, .int (f2 f x1)), (5, .int i18_5), (6, .int i18_6), (7, .int i18_7), (8, .int (Int64.toInt32 (f4 f (i18_5 + 2)))), (10, .int i79_10)], [.int i18_5, .int i79_10, .ref m0], M31)) rfl ?_
                    refine ml_blk 3 (S' := (222, [(0, .ref m0), (2, .int x2), (3, .int x3), (4, .int (f2 f x1)), (5, .int i18_5), (6, .int i18_6), (7, .int i18_7), (8, .int (Int64.toInt32 (f4 f (i18_5 + 2)))), (10, .int i79_10)], [.int (i18_5 + 6), .int i18_5, .int i79_10, .ref m0], M31)) rfl ?_
                    refine ml_blk 3 (S' := (227, [(0, .ref m0), (2, .int x2), (3, .int x3), (4, .int (f2 f x1)), (5, .int i18_5), (6, .int i18_6), (7, .int i18_7), (8, .int (Int64.toInt32 (f4 f (i18_5 + 2)))), (10, .int i79_10)], [.int (i18_5 + 6), .int (i18_5 + 6), .int i18_5, .int i79_10, .ref m0], M31)) rfl ?_
                    refine ml_blk 3 (S' := (231, [(0, .ref m0), (2, .int x2), (3, .int x3), (4, .int (f2 f x1)), (5, .int i18_5), (6, .int i18_6), (7, .int i18_7), (8, .int (Int64.toInt32 (f4 f (i18_5 + 2)))), (10, .int i79_10)], [.int x3, .int ((i18_5 + 6) + (Int64.toInt32 (f4 f (i18_5 + 2)))), .int (i18_5 + 6), .int i18_5, .int i79_10, .ref m0], M31)) rfl ?_
                    refine ml_st (S' := (233, [(0, .ref m0), (2, .int x2), (3, .int x3), (4, .int (f2 f x1)), (5, .int i18_5), (6, .int i18_6), (7, .int i18_7), (8, .int (Int64.toInt32 (f4 f (i18_5 + 2)))), (10, .int i79_10)], [.int i18_6, .int x3, .int ((i18_5 + 6) + (Int64.toInt32 (f4 f (i18_5 + 2)))), .int (i18_5 + 6), .int i18_5, .int i79_10, .ref m0], M31)) rfl rfl rfl ?_
                    have hF36 : FK n f I32 R_18 := (hF14.mono (pIx f35 (by decide)) (fun _ _ => rfl))
                    have hY37 : SK S cN sa sl ch I32 R_18 := ((hY.mono (cIx hI_18 (by decide)) (cRx hV_18 (by decide))).mono (pIx f35 (by decide)) (fun _ _ => rfl))
                    have hP38 : PK n f S cp mj pa py I32 R_18 := (hP21.mono (pIx f35 (by decide)) (fun _ _ => rfl))
                    refine ml_call (a := [.ref m0, .int i79_10, .int i18_5, .int (i18_5 + 6), .int ((i18_5 + 6) + (Int64.toInt32 (f4 f (i18_5 + 2)))), .int x3, .int i18_6]) (rest := []) rfl (hR33.okc rfl rfl rfl) rfl rfl (rm_attr4 hR33 ((f35 58 (by decide)).trans ((hI_18 58 (by decide)).trans (hk58))) hF36 hY37 hP38 (kin_4 hwn.1 hwn.2.1 (hwn.2.2.trans hw)) (by omega) (by rw [hle]; omega) (by rw [hle]; omega) ((hnw18.put (by decide) e34 f35)) (by omega)) (fun v39 M40 h41 => ?_)
                    obtain ⟨u47, I42, R43, rfl, hR44, hI45, hV46, w48⟩ := h41
                    show ml _ _ _ (236, [(0, .ref m0), (2, .int x2), (3, .int x3), (4, .int (f2 f x1)), (5, .int i18_5), (6, .int i18_6), (7, .int i18_7), (8, .int (Int64.toInt32 (f4 f (i18_5 + 2)))), (10, .int i79_10)], [.int u47], M40) _
                    refine ml_st (S' := (238, [(11, .int u47), (0, .ref m0), (2, .int x2), (3, .int x3), (4, .int (f2 f x1)), (5, .int i18_5), (6, .int i18_6), (7, .int i18_7), (8, .int (Int64.toInt32 (f4 f (i18_5 + 2)))), (10, .int i79_10)], [], M40)) rfl rfl rfl ?_
                    refine ml_blk 3 (S' := (243, [(11, .int u47), (0, .ref m0), (2, .int x2), (3, .int x3), (4, .int (f2 f x1)), (5, .int i18_5), (6, .int i18_6), (7, .int i18_7), (8, .int (Int64.toInt32 (f4 f (i18_5 + 2)))), (10, .int i79_10)], [.int i79_10, .int 1, .int i18_6], M40)) rfl ?_
                    refine ml_blk 2 (S' := (245, [(11, .int u47), (0, .ref m0), (2, .int x2), (3, .int x3), (4, .int (f2 f x1)), (5, .int i18_5), (6, .int i18_6), (7, .int i18_7), (8, .int (Int64.toInt32 (f4 f (i18_5 + 2)))), (10, .int i79_10)], [.int (i18_6 ||| (1 <<< (i79_10 &&& 31)))], M40)) rfl ?_
                    refine ml_st (S' := (247, [(6, .int (i18_6 ||| (1 <<< (i79_10 &&& 31)))), (11, .int u47), (0, .ref m0), (2, .int x2), (3, .int x3), (4, .int (f2 f x1)), (5, .int i18_5), (7, .int i18_7), (8, .int (Int64.toInt32 (f4 f (i18_5 + 2)))), (10, .int i79_10)], [], M40)) rfl rfl rfl ?_
                    refine ml_st (S' := (249, [(6, .int (i18_6 ||| (1 <<< (i79_10 &&& 31)))), (11, .int u47), (0, .ref m0), (2, .int x2), (3, .int x3), (4, .int (f2 f x1)), (5, .int i18_5), (7, .int i18_7), (8, .int (Int64.toInt32 (f4 f (i18_5 + 2)))), (10, .int i79_10)], [.int u47], M40)) rfl rfl rfl ?_
                    refine ml_if (S1 := (261, [(0, .ref m0), (2, .int x2), (3, .int x3), (4, .int (f2 f x1)), (5, .int i18_5), (6, .int (i18_6 ||| (1 <<< (i79_10 &&& 31)))), (7, .int i18_7), (8, .int (Int64.toInt32 (f4 f (i18_5 + 2)))), (11, .int u47)], [], M40)) (S2 := (252, [(6, .int (i18_6 ||| (1 <<< (i79_10 &&& 31)))), (11, .int u47), (0, .ref m0), (2, .int x2), (3, .int x3), (4, .int (f2 f x1)), (5, .int i18_5), (7, .int i18_7), (8, .int (Int64.toInt32 (f4 f (i18_5 + 2)))), (10, .int i79_10)], [], M40)) rfl rfl rfl (fun c_249 => ?_) (fun c_249 => ?_)
                    · have c_249 : u47 ≤ 0 := of_decide_eq_true c_249
                      refine ml_st (S' := (263, [(0, .ref m0), (2, .int x2), (3, .int x3), (4, .int (f2 f x1)), (5, .int i18_5), (6, .int (i18_6 ||| (1 <<< (i79_10 &&& 31)))), (7, .int i18_7), (8, .int (Int64.toInt32 (f4 f (i18_5 + 2)))), (11, .int u47)], [.int u47], M40)) rfl rfl rfl ?_
                      refine ml_if (S1 := (268, [(0, .ref m0), (2, .int x2), (3, .int x3), (4, .int (f2 f x1)), (5, .int i18_5), (6, .int (i18_6 ||| (1 <<< (i79_10 &&& 31)))), (7, .int i18_7), (8, .int (Int64.toInt32 (f4 f (i18_5 + 2))))], [], M40)) (S2 := (266, [(0, .ref m0), (2, .int x2), (3, .int x3), (4, .int (f2 f x1)), (5, .int i18_5), (6, .int (i18_6 ||| (1 <<< (i79_10 &&& 31)))), (7, .int i18_7), (8, .int (Int64.toInt32 (f4 f (i18_5 + 2)))), (11, .int u47)], [], M40)) rfl rfl rfl (fun c_263 => ?_) (fun c_263 => ?_)
                      · have c_263 : u47 = 0 := of_decide_eq_true c_263
                        refine ml_blk 3 (S' := (274, [(0, .ref m0), (2, .int x2), (3, .int x3), (4, .int (f2 f x1)), (5, .int i18_5), (6, .int (i18_6 ||| (1 <<< (i79_10 &&& 31)))), (7, .int i18_7), (8, .int (Int64.toInt32 (f4 f (i18_5 + 2))))], [.int (Int64.toInt32 (f4 f (i18_5 + 2))), .int 6, .int i18_5], M40)) rfl ?_
                        refine ml_blk 2 (S' := (276, [(0, .ref m0), (2, .int x2), (3, .int x3), (4, .int (f2 f x1)), (5, .int i18_5), (6, .int (i18_6 ||| (1 <<< (i79_10 &&& 31)))), (7, .int i18_7), (8, .int (Int64.toInt32 (f4 f (i18_5 + 2))))], [.int (i18_5 + (6 + (Int64.toInt32 (f4 f (i18_5 + 2)))))], M40)) rfl ?_
                        refine ml_st (S' := (278, [(5, .int (i18_5 + (6 + (Int64.toInt32 (f4 f (i18_5 + 2)))))), (0, .ref m0), (2, .int x2), (3, .int x3), (4, .int (f2 f x1)), (6, .int (i18_6 ||| (1 <<< (i79_10 &&& 31)))), (7, .int i18_7), (8, .int (Int64.toInt32 (f4 f (i18_5 + 2))))], [], M40)) rfl rfl rfl ?_
                        refine ml_st (S' := (281, [(7, .int (i18_7 + 1)), (5, .int (i18_5 + (6 + (Int64.toInt32 (f4 f (i18_5 + 2)))))), (0, .ref m0), (2, .int x2), (3, .int x3), (4, .int (f2 f x1)), (6, .int (i18_6 ||| (1 <<< (i79_10 &&& 31)))), (8, .int (Int64.toInt32 (f4 f (i18_5 + 2))))], [], M40)) rfl rfl rfl ?_
                        refine ml_st (S' := (18, [(0, .ref m0), (2, .int x2), (3, .int x3), (4, .int (f2 f x1)), (5, .int (i18_5 + (6 + (Int64.toInt32 (f4 f (i18_5 + 2)))))), (6, .int (i18_6 ||| (1 <<< (i79_10 &&& 31)))), (7, .int (i18_7 + 1))], [], M40)) rfl rfl rfl ?_
                        exact ih_18 (i18_5 + (6 + (Int64.toInt32 (f4 f (i18_5 + 2))))) (i18_6 ||| (1 <<< (i79_10 &&& 31))) (i18_7 + 1) _ _ _ (loop_inc (Int32.not_le.mp c_22) hn_18) hR44 (((eqI.rf.tr hI_18 (by decide)).put f35 (by decide)).tr hI45 (by decide)) ((eqR.rf.tr hV_18 (by decide)).tr hV46 (by decide)) (⟨by rw [inc_lt (Int32.not_le.mp c_22)]; omega, by rw [inc_lt (Int32.not_le.mp c_22)]; have := i_nle c_22; omega, hb1.eq hra ▸ hnx, w48⟩)
                      · have c_263 : ¬ (u47 = 0) := of_decide_eq_false c_263
                        refine ml_st (S' := (267, [(0, .ref m0), (2, .int x2), (3, .int x3), (4, .int (f2 f x1)), (5, .int i18_5), (6, .int (i18_6 ||| (1 <<< (i79_10 &&& 31)))), (7, .int i18_7), (8, .int (Int64.toInt32 (f4 f (i18_5 + 2)))), (11, .int u47)], [.int (-1)], M40)) rfl rfl rfl ?_
                        exact ml_ret rfl (rfl) (⟨_, _, _, rfl, hR44, (((eqI.rf.tr hI_18 (by decide)).put f35 (by decide)).tr hI45 (by decide)), ((eqR.rf.tr hV_18 (by decide)).tr hV46 (by decide)), ⟨Or.inl (by decide), w48⟩⟩)
                    · have c_249 : ¬ (u47 ≤ 0) := of_decide_eq_false c_249
                      refine ml_blk 3 (S' := (257, [(6, .int (i18_6 ||| (1 <<< (i79_10 &&& 31)))), (11, .int u47), (0, .ref m0), (2, .int x2), (3, .int x3), (4, .int (f2 f x1)), (5, .int i18_5), (7, .int i18_7), (8, .int (Int64.toInt32 (f4 f (i18_5 + 2)))), (10, .int i79_10)], [.int i18_5, .int u47, .ref m0], M40)) rfl ?_
                      refine ml_call (a := [.ref m0, .int u47, .int i18_5]) (rest := []) rfl (hR44.okc rfl rfl rfl) rfl rfl (rm_wrong hR44 (by omega)) (fun v49 M50 h51 => ?_)
                      obtain ⟨u57, I52, R53, rfl, hR54, hI55, hV56, z58, w59⟩ := h51
                      show ml _ _ _ (260, [(6, .int (i18_6 ||| (1 <<< (i79_10 &&& 31)))), (11, .int u47), (0, .ref m0), (2, .int x2), (3, .int x3), (4, .int (f2 f x1)), (5, .int i18_5), (7, .int i18_7), (8, .int (Int64.toInt32 (f4 f (i18_5 + 2)))), (10, .int i79_10)], [.int u57], M50) _
                      refine ml_st (S' := (261, [(0, .ref m0), (2, .int x2), (3, .int x3), (4, .int (f2 f x1)), (5, .int i18_5), (6, .int (i18_6 ||| (1 <<< (i79_10 &&& 31)))), (7, .int i18_7), (8, .int (Int64.toInt32 (f4 f (i18_5 + 2)))), (11, .int u47)], [], M50)) rfl rfl rfl ?_
                      refine ml_st (S' := (263, [(0, .ref m0), (2, .int x2), (3, .int x3), (4, .int (f2 f x1)), (5, .int i18_5), (6, .int (i18_6 ||| (1 <<< (i79_10 &&& 31)))), (7, .int i18_7), (8, .int (Int64.toInt32 (f4 f (i18_5 + 2)))), (11, .int u47)], [.int u47], M50)) rfl rfl rfl ?_
                      refine ml_if (S1 := (268, [(0, .ref m0), (2, .int x2), (3, .int x3), (4, .int (f2 f x1)), (5, .int i18_5), (6, .int (i18_6 ||| (1 <<< (i79_10 &&& 31)))), (7, .int i18_7), (8, .int (Int64.toInt32 (f4 f (i18_5 + 2))))], [], M50)) (S2 := (266, [(0, .ref m0), (2, .int x2), (3, .int x3), (4, .int (f2 f x1)), (5, .int i18_5), (6, .int (i18_6 ||| (1 <<< (i79_10 &&& 31)))), (7, .int i18_7), (8, .int (Int64.toInt32 (f4 f (i18_5 + 2)))), (11, .int u47)], [], M50)) rfl rfl rfl (fun c_263 => ?_) (fun c_263 => ?_)
                      · have c_263 : u47 = 0 := of_decide_eq_true c_263
                        refine ml_blk 3 (S' := (274, [(0, .ref m0), (2, .int x2), (3, .int x3), (4, .int (f2 f x1)), (5, .int i18_5), (6, .int (i18_6 ||| (1 <<< (i79_10 &&& 31)))), (7, .int i18_7), (8, .int (Int64.toInt32 (f4 f (i18_5 + 2))))], [.int (Int64.toInt32 (f4 f (i18_5 + 2))), .int 6, .int i18_5], M50)) rfl ?_
                        refine ml_blk 2 (S' := (276, [(0, .ref m0), (2, .int x2), (3, .int x3), (4, .int (f2 f x1)), (5, .int i18_5), (6, .int (i18_6 ||| (1 <<< (i79_10 &&& 31)))), (7, .int i18_7), (8, .int (Int64.toInt32 (f4 f (i18_5 + 2))))], [.int (i18_5 + (6 + (Int64.toInt32 (f4 f (i18_5 + 2)))))], M50)) rfl ?_
                        refine ml_st (S' := (278, [(5, .int (i18_5 + (6 + (Int64.toInt32 (f4 f (i18_5 + 2)))))), (0, .ref m0), (2, .int x2), (3, .int x3), (4, .int (f2 f x1)), (6, .int (i18_6 ||| (1 <<< (i79_10 &&& 31)))), (7, .int i18_7), (8, .int (Int64.toInt32 (f4 f (i18_5 + 2))))], [], M50)) rfl rfl rfl ?_
                        refine ml_st (S' := (281, [(7, .int (i18_7 + 1)), (5, .int (i18_5 + (6 + (Int64.toInt32 (f4 f (i18_5 + 2)))))), (0, .ref m0), (2, .int x2), (3, .int x3), (4, .int (f2 f x1)), (6, .int (i18_6 ||| (1 <<< (i79_10 &&& 31)))), (8, .int (Int64.toInt32 (f4 f (i18_5 + 2))))], [], M50)) rfl rfl rfl ?_
                        refine ml_st (S' := (18, [(0, .ref m0), (2, .int x2), (3, .int x3), (4, .int (f2 f x1)), (5, .int (i18_5 + (6 + (Int64.toInt32 (f4 f (i18_5 + 2)))))), (6, .int (i18_6 ||| (1 <<< (i79_10 &&& 31)))), (7, .int (i18_7 + 1))], [], M50)) rfl rfl rfl ?_
                        exact ih_18 (i18_5 + (6 + (Int64.toInt32 (f4 f (i18_5 + 2))))) (i18_6 ||| (1 <<< (i79_10 &&& 31))) (i18_7 + 1) _ _ _ (loop_inc (Int32.not_le.mp c_22) hn_18) hR54 ((((eqI.rf.tr hI_18 (by decide)).put f35 (by decide)).tr hI45 (by decide)).tr hI55 (by decide)) (((eqR.rf.tr hV_18 (by decide)).tr hV46 (by decide)).tr hV56 (by decide)) (⟨by rw [inc_lt (Int32.not_le.mp c_22)]; omega, by rw [inc_lt (Int32.not_le.mp c_22)]; have := i_nle c_22; omega, hb1.eq hra ▸ hnx, (w48.fr (cIx hI55 (by decide)))⟩)
                      · have c_263 : ¬ (u47 = 0) := of_decide_eq_false c_263
                        refine ml_st (S' := (267, [(0, .ref m0), (2, .int x2), (3, .int x3), (4, .int (f2 f x1)), (5, .int i18_5), (6, .int (i18_6 ||| (1 <<< (i79_10 &&& 31)))), (7, .int i18_7), (8, .int (Int64.toInt32 (f4 f (i18_5 + 2)))), (11, .int u47)], [.int (-1)], M50)) rfl rfl rfl ?_
                        exact ml_ret rfl (rfl) (⟨_, _, _, rfl, hR54, ((((eqI.rf.tr hI_18 (by decide)).put f35 (by decide)).tr hI45 (by decide)).tr hI55 (by decide)), (((eqR.rf.tr hV_18 (by decide)).tr hV46 (by decide)).tr hV56 (by decide)), ⟨Or.inl (by decide), (w48.fr (cIx hI55 (by decide)))⟩⟩)
                  · have c_198 : ¬ (¬ ((i18_6 >>> (i79_10 &&& 31)) &&& 1) = 1) := of_decide_eq_false c_198
                    refine ml_blk 3 (S' := (206, [(0, .ref m0), (2, .int x2), (3, .int x3), (4, .int (f2 f x1)), (5, .int i18_5), (6, .int i18_6), (7, .int i18_7), (8, .int (Int64.toInt32 (f4 f (i18_5 + 2)))), (10, .int i79_10)], [.int i18_5, .int 29, .ref m0], M31)) rfl ?_
                    refine ml_call (a := [.ref m0, .int 29, .int i18_5]) (rest := []) rfl (hR33.okc rfl rfl rfl) rfl rfl (rm_wrong hR33 (by omega)) (fun v60 M61 h62 => ?_)
                    obtain ⟨u68, I63, R64, rfl, hR65, hI66, hV67, z69, w70⟩ := h62
                    show ml _ _ _ (209, [(0, .ref m0), (2, .int x2), (3, .int x3), (4, .int (f2 f x1)), (5, .int i18_5), (6, .int i18_6), (7, .int i18_7), (8, .int (Int64.toInt32 (f4 f (i18_5 + 2)))), (10, .int i79_10)], [.int u68], M61) _
                    refine ml_blk 2 (S' := (211, [(0, .ref m0), (2, .int x2), (3, .int x3), (4, .int (f2 f x1)), (5, .int i18_5), (6, .int i18_6), (7, .int i18_7), (8, .int (Int64.toInt32 (f4 f (i18_5 + 2)))), (10, .int i79_10)], [.int (-1)], M61)) rfl ?_
                    exact ml_ret rfl (rfl) (⟨_, _, _, rfl, hR65, (((eqI.rf.tr hI_18 (by decide)).put f35 (by decide)).tr hI66 (by decide)), ((eqR.rf.tr hV_18 (by decide)).tr hV67 (by decide)), ⟨Or.inl (by decide), ((hnw18.put (by decide) e34 f35).fr (cIx hI66 (by decide)))⟩⟩)
              · have c_86 : ¬ ((nI 10) ≤ i79_11) := of_decide_eq_false c_86
                have hjl : i79_11.toInt < 10 := by have q := i_nle c_86; rw [nI_val (by decide)] at q; omega
                refine ml_st (S' := (90, [(0, .ref m0), (2, .int x2), (3, .int x3), (4, .int (f2 f x1)), (5, .int i18_5), (6, .int i18_6), (7, .int i18_7), (8, .int (Int64.toInt32 (f4 f (i18_5 + 2)))), (9, .int (pyf py (f2 f i18_5))), (10, .int i79_10), (11, .int i79_11)], [.ref m0], M_18)) rfl rfl rfl ?_
                refine rg_ref (S' := (93, [(0, .ref m0), (2, .int x2), (3, .int x3), (4, .int (f2 f x1)), (5, .int i18_5), (6, .int i18_6), (7, .int i18_7), (8, .int (Int64.toInt32 (f4 f (i18_5 + 2)))), (9, .int (pyf py (f2 f i18_5))), (10, .int i79_10), (11, .int i79_11)], [.ref (q 63)], M_18)) rfl hR_18 rfl rfl ?_
                refine ml_st (S' := (95, [(0, .ref m0), (2, .int x2), (3, .int x3), (4, .int (f2 f x1)), (5, .int i18_5), (6, .int i18_6), (7, .int i18_7), (8, .int (Int64.toInt32 (f4 f (i18_5 + 2)))), (9, .int (pyf py (f2 f i18_5))), (10, .int i79_10), (11, .int i79_11)], [.int i79_11, .ref (q 63)], M_18)) rfl rfl rfl ?_
                have hK71 : KW I_18 R_18 := (hK.mono (cIx hI_18 (by decide)) (cRx hV_18 (by decide)))
                refine ra_ld (k := 63) (S' := (96, [(0, .ref m0), (2, .int x2), (3, .int x3), (4, .int (f2 f x1)), (5, .int i18_5), (6, .int i18_6), (7, .int i18_7), (8, .int (Int64.toInt32 (f4 f (i18_5 + 2)))), (9, .int (pyf py (f2 f i18_5))), (10, .int i79_10), (11, .int i79_11)], [.int (kin i79_11)], M_18)) rfl hR_18 rfl (vin_lt hj0 (by omega)) (hK71.1 i79_11 hj0 hjl) rfl ?_
                refine ml_st (S' := (97, [(0, .ref m0), (2, .int x2), (3, .int x3), (4, .int (f2 f x1)), (5, .int i18_5), (6, .int i18_6), (7, .int i18_7), (8, .int (Int64.toInt32 (f4 f (i18_5 + 2)))), (9, .int (pyf py (f2 f i18_5))), (10, .int i79_10), (11, .int i79_11)], [.int x2, .int (kin i79_11)], M_18)) rfl rfl rfl ?_
                refine ml_if2 (S1 := (134, [(0, .ref m0), (2, .int x2), (3, .int x3), (4, .int (f2 f x1)), (5, .int i18_5), (6, .int i18_6), (7, .int i18_7), (8, .int (Int64.toInt32 (f4 f (i18_5 + 2)))), (9, .int (pyf py (f2 f i18_5))), (10, .int i79_10), (11, .int i79_11)], [], M_18)) (S2 := (100, [(0, .ref m0), (2, .int x2), (3, .int x3), (4, .int (f2 f x1)), (5, .int i18_5), (6, .int i18_6), (7, .int i18_7), (8, .int (Int64.toInt32 (f4 f (i18_5 + 2)))), (9, .int (pyf py (f2 f i18_5))), (10, .int i79_10), (11, .int i79_11)], [], M_18)) rfl rfl rfl (fun c_97 => ?_) (fun c_97 => ?_)
                · have c_97 : ¬ (kin i79_11) = x2 := of_decide_eq_true c_97
                  refine ml_st (S' := (137, [(11, .int (i79_11 + 1)), (0, .ref m0), (2, .int x2), (3, .int x3), (4, .int (f2 f x1)), (5, .int i18_5), (6, .int i18_6), (7, .int i18_7), (8, .int (Int64.toInt32 (f4 f (i18_5 + 2)))), (9, .int (pyf py (f2 f i18_5))), (10, .int i79_10)], [], M_18)) rfl rfl rfl ?_
                  refine ml_st (S' := (79, [(0, .ref m0), (2, .int x2), (3, .int x3), (4, .int (f2 f x1)), (5, .int i18_5), (6, .int i18_6), (7, .int i18_7), (8, .int (Int64.toInt32 (f4 f (i18_5 + 2)))), (9, .int (pyf py (f2 f i18_5))), (10, .int i79_10), (11, .int (i79_11 + 1))], [], M_18)) rfl rfl rfl ?_
                  exact ih_79 i79_10 (i79_11 + 1) (loop_inc (Int32.not_le.mp c_86) hn_79) (⟨by rw [inc_lt (Int32.not_le.mp c_86)]; omega, hjw⟩)
                · have c_97 : ¬ (¬ (kin i79_11) = x2) := of_decide_eq_false c_97
                  refine ml_st (S' := (101, [(0, .ref m0), (2, .int x2), (3, .int x3), (4, .int (f2 f x1)), (5, .int i18_5), (6, .int i18_6), (7, .int i18_7), (8, .int (Int64.toInt32 (f4 f (i18_5 + 2)))), (9, .int (pyf py (f2 f i18_5))), (10, .int i79_10), (11, .int i79_11)], [.ref m0], M_18)) rfl rfl rfl ?_
                  refine rg_int (S' := (104, [(0, .ref m0), (2, .int x2), (3, .int x3), (4, .int (f2 f x1)), (5, .int i18_5), (6, .int i18_6), (7, .int i18_7), (8, .int (Int64.toInt32 (f4 f (i18_5 + 2)))), (9, .int (pyf py (f2 f i18_5))), (10, .int i79_10), (11, .int i79_11)], [.int mj], M_18)) rfl hR_18 rfl ((hI_18 53 (by decide)).trans (hP.2.2.1)) rfl ?_
                  refine ml_st (S' := (105, [(0, .ref m0), (2, .int x2), (3, .int x3), (4, .int (f2 f x1)), (5, .int i18_5), (6, .int i18_6), (7, .int i18_7), (8, .int (Int64.toInt32 (f4 f (i18_5 + 2)))), (9, .int (pyf py (f2 f i18_5))), (10, .int i79_10), (11, .int i79_11)], [.ref m0, .int mj], M_18)) rfl rfl rfl ?_
                  refine rg_ref (S' := (108, [(0, .ref m0), (2, .int x2), (3, .int x3), (4, .int (f2 f x1)), (5, .int i18_5), (6, .int i18_6), (7, .int i18_7), (8, .int (Int64.toInt32 (f4 f (i18_5 + 2)))), (9, .int (pyf py (f2 f i18_5))), (10, .int i79_10), (11, .int i79_11)], [.ref (q 64), .int mj], M_18)) rfl hR_18 rfl rfl ?_
                  refine ml_st (S' := (110, [(0, .ref m0), (2, .int x2), (3, .int x3), (4, .int (f2 f x1)), (5, .int i18_5), (6, .int i18_6), (7, .int i18_7), (8, .int (Int64.toInt32 (f4 f (i18_5 + 2)))), (9, .int (pyf py (f2 f i18_5))), (10, .int i79_10), (11, .int i79_11)], [.int i79_11, .ref (q 64), .int mj], M_18)) rfl rfl rfl ?_
                  obtain ⟨v110, hv110⟩ := hK71.2 i79_11 hj0 hjl
                  refine ra_ld (k := 64) (S' := (111, [(0, .ref m0), (2, .int x2), (3, .int x3), (4, .int (f2 f x1)), (5, .int i18_5), (6, .int i18_6), (7, .int i18_7), (8, .int (Int64.toInt32 (f4 f (i18_5 + 2)))), (9, .int (pyf py (f2 f i18_5))), (10, .int i79_10), (11, .int i79_11)], [.int v110, .int mj], M_18)) rfl hR_18 rfl (vin_lt hj0 (by omega)) (hv110) rfl ?_
                  refine ml_if2 (S1 := (134, [(0, .ref m0), (2, .int x2), (3, .int x3), (4, .int (f2 f x1)), (5, .int i18_5), (6, .int i18_6), (7, .int i18_7), (8, .int (Int64.toInt32 (f4 f (i18_5 + 2)))), (9, .int (pyf py (f2 f i18_5))), (10, .int i79_10), (11, .int i79_11)], [], M_18)) (S2 := (114, [(0, .ref m0), (2, .int x2), (3, .int x3), (4, .int (f2 f x1)), (5, .int i18_5), (6, .int i18_6), (7, .int i18_7), (8, .int (Int64.toInt32 (f4 f (i18_5 + 2)))), (9, .int (pyf py (f2 f i18_5))), (10, .int i79_10), (11, .int i79_11)], [], M_18)) rfl rfl rfl (fun c_111 => ?_) (fun c_111 => ?_)
                  · have c_111 : mj < v110 := of_decide_eq_true c_111
                    refine ml_st (S' := (137, [(11, .int (i79_11 + 1)), (0, .ref m0), (2, .int x2), (3, .int x3), (4, .int (f2 f x1)), (5, .int i18_5), (6, .int i18_6), (7, .int i18_7), (8, .int (Int64.toInt32 (f4 f (i18_5 + 2)))), (9, .int (pyf py (f2 f i18_5))), (10, .int i79_10)], [], M_18)) rfl rfl rfl ?_
                    refine ml_st (S' := (79, [(0, .ref m0), (2, .int x2), (3, .int x3), (4, .int (f2 f x1)), (5, .int i18_5), (6, .int i18_6), (7, .int i18_7), (8, .int (Int64.toInt32 (f4 f (i18_5 + 2)))), (9, .int (pyf py (f2 f i18_5))), (10, .int i79_10), (11, .int (i79_11 + 1))], [], M_18)) rfl rfl rfl ?_
                    exact ih_79 i79_10 (i79_11 + 1) (loop_inc (Int32.not_le.mp c_86) hn_79) (⟨by rw [inc_lt (Int32.not_le.mp c_86)]; omega, hjw⟩)
                  · have c_111 : ¬ (mj < v110) := of_decide_eq_false c_111
                    refine ml_blk 3 (S' := (118, [(0, .ref m0), (2, .int x2), (3, .int x3), (4, .int (f2 f x1)), (5, .int i18_5), (6, .int i18_6), (7, .int i18_7), (8, .int (Int64.toInt32 (f4 f (i18_5 + 2)))), (9, .int (pyf py (f2 f i18_5))), (10, .int i79_10), (11, .int i79_11)], [.ref m0, .int (pyf py (f2 f i18_5)), .ref m0], M_18)) rfl ?_
                    refine rg_ref (S' := (121, [(0, .ref m0), (2, .int x2), (3, .int x3), (4, .int (f2 f x1)), (5, .int i18_5), (6, .int i18_6), (7, .int i18_7), (8, .int (Int64.toInt32 (f4 f (i18_5 + 2)))), (9, .int (pyf py (f2 f i18_5))), (10, .int i79_10), (11, .int i79_11)], [.ref (q 62), .int (pyf py (f2 f i18_5)), .ref m0], M_18)) rfl hR_18 rfl rfl ?_
                    refine ml_st (S' := (123, [(0, .ref m0), (2, .int x2), (3, .int x3), (4, .int (f2 f x1)), (5, .int i18_5), (6, .int i18_6), (7, .int i18_7), (8, .int (Int64.toInt32 (f4 f (i18_5 + 2)))), (9, .int (pyf py (f2 f i18_5))), (10, .int i79_10), (11, .int i79_11)], [.int i79_11, .ref (q 62), .int (pyf py (f2 f i18_5)), .ref m0], M_18)) rfl rfl rfl ?_
                    refine ra_kn (S' := (124, [(0, .ref m0), (2, .int x2), (3, .int x3), (4, .int (f2 f x1)), (5, .int i18_5), (6, .int i18_6), (7, .int i18_7), (8, .int (Int64.toInt32 (f4 f (i18_5 + 2)))), (9, .int (pyf py (f2 f i18_5))), (10, .int i79_10), (11, .int i79_11)], [.ref (g.2.1 (15 + Int32.toNatClampNeg i79_11)), .int (pyf py (f2 f i18_5)), .ref m0], M_18)) rfl hR_18 hj0 hjl rfl ?_
                    have hY72 : SK S cN sa sl ch I_18 R_18 := (hY.mono (cIx hI_18 (by decide)) (cRx hV_18 (by decide)))
                    refine ml_call (a := [.ref m0, .int (pyf py (f2 f i18_5)), .ref (g.2.1 (15 + Int32.toNatClampNeg i79_11))]) (rest := []) rfl (hR_18.okc rfl rfl rfl) rfl rfl (rm_is hR_18 hY72 (hy9.2.2.1) (hy9.2.2.2) (by show 15 ≤ 15 + i79_11.toInt.toNat ∧ 15 + i79_11.toInt.toNat < 30; omega) (by omega)) (fun v73 M74 h75 => ?_)
                    obtain ⟨⟨u76, rfl, z77⟩, h75⟩ := h75
                    rw [h75]
                    show ml _ _ _ (127, [(0, .ref m0), (2, .int x2), (3, .int x3), (4, .int (f2 f x1)), (5, .int i18_5), (6, .int i18_6), (7, .int i18_7), (8, .int (Int64.toInt32 (f4 f (i18_5 + 2)))), (9, .int (pyf py (f2 f i18_5))), (10, .int i79_10), (11, .int i79_11)], [.int u76], M_18) _
                    refine ml_if (S1 := (134, [(0, .ref m0), (2, .int x2), (3, .int x3), (4, .int (f2 f x1)), (5, .int i18_5), (6, .int i18_6), (7, .int i18_7), (8, .int (Int64.toInt32 (f4 f (i18_5 + 2)))), (9, .int (pyf py (f2 f i18_5))), (10, .int i79_10), (11, .int i79_11)], [], M_18)) (S2 := (130, [(0, .ref m0), (2, .int x2), (3, .int x3), (4, .int (f2 f x1)), (5, .int i18_5), (6, .int i18_6), (7, .int i18_7), (8, .int (Int64.toInt32 (f4 f (i18_5 + 2)))), (9, .int (pyf py (f2 f i18_5))), (10, .int i79_10), (11, .int i79_11)], [], M_18)) rfl rfl rfl (fun c_127 => ?_) (fun c_127 => ?_)
                    · have c_127 : u76 = 0 := of_decide_eq_true c_127
                      refine ml_st (S' := (137, [(11, .int (i79_11 + 1)), (0, .ref m0), (2, .int x2), (3, .int x3), (4, .int (f2 f x1)), (5, .int i18_5), (6, .int i18_6), (7, .int i18_7), (8, .int (Int64.toInt32 (f4 f (i18_5 + 2)))), (9, .int (pyf py (f2 f i18_5))), (10, .int i79_10)], [], M_18)) rfl rfl rfl ?_
                      refine ml_st (S' := (79, [(0, .ref m0), (2, .int x2), (3, .int x3), (4, .int (f2 f x1)), (5, .int i18_5), (6, .int i18_6), (7, .int i18_7), (8, .int (Int64.toInt32 (f4 f (i18_5 + 2)))), (9, .int (pyf py (f2 f i18_5))), (10, .int i79_10), (11, .int (i79_11 + 1))], [], M_18)) rfl rfl rfl ?_
                      exact ih_79 i79_10 (i79_11 + 1) (loop_inc (Int32.not_le.mp c_86) hn_79) (⟨by rw [inc_lt (Int32.not_le.mp c_86)]; omega, hjw⟩)
                    · have c_127 : ¬ (u76 = 0) := of_decide_eq_false c_127
                      refine ml_st (S' := (132, [(0, .ref m0), (2, .int x2), (3, .int x3), (4, .int (f2 f x1)), (5, .int i18_5), (6, .int i18_6), (7, .int i18_7), (8, .int (Int64.toInt32 (f4 f (i18_5 + 2)))), (9, .int (pyf py (f2 f i18_5))), (10, .int i79_10), (11, .int i79_11)], [.int i79_11], M_18)) rfl rfl rfl ?_
                      refine ml_st (S' := (134, [(0, .ref m0), (2, .int x2), (3, .int x3), (4, .int (f2 f x1)), (5, .int i18_5), (6, .int i18_6), (7, .int i18_7), (8, .int (Int64.toInt32 (f4 f (i18_5 + 2)))), (9, .int (pyf py (f2 f i18_5))), (10, .int i79_11), (11, .int i79_11)], [], M_18)) rfl rfl rfl ?_
                      refine ml_st (S' := (137, [(11, .int (i79_11 + 1)), (0, .ref m0), (2, .int x2), (3, .int x3), (4, .int (f2 f x1)), (5, .int i18_5), (6, .int i18_6), (7, .int i18_7), (8, .int (Int64.toInt32 (f4 f (i18_5 + 2)))), (9, .int (pyf py (f2 f i18_5))), (10, .int i79_11)], [], M_18)) rfl rfl rfl ?_
                      refine ml_st (S' := (79, [(0, .ref m0), (2, .int x2), (3, .int x3), (4, .int (f2 f x1)), (5, .int i18_5), (6, .int i18_6), (7, .int i18_7), (8, .int (Int64.toInt32 (f4 f (i18_5 + 2)))), (9, .int (pyf py (f2 f i18_5))), (10, .int i79_11), (11, .int (i79_11 + 1))], [], M_18)) rfl rfl rfl ?_
                      exact ih_79 i79_11 (i79_11 + 1) (loop_inc (Int32.not_le.mp c_86) hn_79) (⟨by rw [inc_lt (Int32.not_le.mp c_86)]; omega, Or.inr ⟨hj0, hjl, Decidable.not_not.mp c_97⟩⟩)
          exact L_79 _ (-1) 0 (Nat.le_refl _) (⟨by decide, Or.inl (by decide)⟩)
        · have c_47 : ¬ ((tgf f cp pa (f2 f i18_5)) = 1) := of_decide_eq_false c_47
          refine ml_blk 3 (S' := (55, [(8, .int (Int64.toInt32 (f4 f (i18_5 + 2)))), (0, .ref m0), (2, .int x2), (3, .int x3), (4, .int (f2 f x1)), (5, .int i18_5), (6, .int i18_6), (7, .int i18_7)], [.int i18_5, .int 28, .ref m0], M_18)) rfl ?_
          refine ml_call (a := [.ref m0, .int 28, .int i18_5]) (rest := []) rfl (hR_18.okc rfl rfl rfl) rfl rfl (rm_wrong hR_18 (by omega)) (fun v78 M79 h80 => ?_)
          obtain ⟨u86, I81, R82, rfl, hR83, hI84, hV85, z87, w88⟩ := h80
          show ml _ _ _ (58, [(8, .int (Int64.toInt32 (f4 f (i18_5 + 2)))), (0, .ref m0), (2, .int x2), (3, .int x3), (4, .int (f2 f x1)), (5, .int i18_5), (6, .int i18_6), (7, .int i18_7)], [.int u86], M79) _
          refine ml_blk 2 (S' := (60, [(8, .int (Int64.toInt32 (f4 f (i18_5 + 2)))), (0, .ref m0), (2, .int x2), (3, .int x3), (4, .int (f2 f x1)), (5, .int i18_5), (6, .int i18_6), (7, .int i18_7)], [.int (-1)], M79)) rfl ?_
          exact ml_ret rfl (rfl) (⟨_, _, _, rfl, hR83, ((eqI.rf.tr hI_18 (by decide)).tr hI84 (by decide)), ((eqR.rf.tr hV_18 (by decide)).tr hV85 (by decide)), ⟨Or.inl (by decide), (hnw18.fr (cIx hI84 (by decide)))⟩⟩)
  exact L_18 _ (x1 + 2) 0 0 _ _ _ (Nat.le_refl _) hR eqI.rf eqR.rf (⟨by decide, by show (0 : Int) ≤ _; exact f2_pos, by rw [show ((f2 f x1).toInt - (0 : Int32).toInt).toNat = (f2 f x1).toInt.toNat by have : (0 : Int32).toInt = 0 := rfl; omega]; exact hat.2.2.1, hN⟩)
end
section
/-! the reference: members (my own text) -/
section MIE
def KFR : List Nat := [27, 28, 29, 30, 31, 32, 33]
def FKN (k : Nat) (R : rR) : Prop := ∀ x, x < k → kn [27, 28, 29, 30, 31, 32, 33] x R
theorem FKN.step {k : Nat} {R R' : rR} (h : FKN k R) (hp : pw k R R') (hk : kn [27, 28, 29, 30, 31, 32, 33] k R') : FKN (k + 1) R' := by
  intro x hx
  by_cases e : x = k
  · subst e
    exact hk
  · intro a ha
    rw [hp a x e]
    exact h x (by omega) a ha
theorem FKN.eq {k : Nat} {V : List Nat} {R R' : rR} (h : FKN k R) (h' : eqR V R R') (hd : ∀ a, a ∈ [27, 28, 29, 30, 31, 32, 33] → a ∉ V) : FKN k R' := fun x hx => (h x hx).eq h' hd
variable {f : Nat → Int32} {n S : Nat} {sa sl ch : Nat → Int32}
def MK1 (f : Nat → Int32) (n S : Nat) (sa sl ch : Nat → Int32) (x : Nat) (R : rR) : Prop := kn [34, 35, 37, 38, 39, 40, 42, 43, 44, 45, 46] x R ∧ MCD f n x R ∧ ∃ ds : Int32, R 36 x = some ds ∧ 0 ≤ ds.toInt ∧ ds.toInt < S ∧ MTX sa sl ch ds
def MKN (f : Nat → Int32) (n S : Nat) (sa sl ch : Nat → Int32) (k : Nat) (R : rR) : Prop := ∀ x, x < k → MK1 f n S sa sl ch x R
theorem MK1.fr {x : Nat} {R R' : rR} (h : MK1 f n S sa sl ch x R) (h' : ∀ k, R' k x = R k x) : MK1 f n S sa sl ch x R' := by
  obtain ⟨h1, h2, ds, h3, h4⟩ := h
  refine ⟨fun k hk => by rw [h' k]; exact h1 k hk, h2.fr (fun k _ => h' k), ds, by rw [h' 36]; exact h3, h4⟩
theorem MKN.step {k : Nat} {R R' : rR} (h : MKN f n S sa sl ch k R) (hp : pw k R R') (hk : MK1 f n S sa sl ch k R') : MKN f n S sa sl ch (k + 1) R' := by
  intro x hx
  by_cases e : x = k
  · subst e
    exact hk
  · exact (h x (by omega)).fr (fun a => hp a x e)
theorem MKN.eq {k : Nat} {R R' : rR} (h : MKN f n S sa sl ch k R) (h' : eqR [] R R') : MKN f n S sa sl ch k R' := fun x hx => (h x hx).fr (fun a => congrFun (h' a (by simp)) x)
end MIE
end
section
/-! the reference: members (laid by wip/p2/c70.py) -/
set_option maxHeartbeats 2000000 in
theorem rm_several {g : xe_G}  {m0 : Nat} {q : Nat → Nat} {z : Nat × Nat} {I : rI} {R : rR} {M : mi_H} {x1 x2 x3 x4 : Int32}  (hR : RS g m0 q z I R M) {d : Nat} (hd : 1 ≤ d) : mt (mT g) d 242 [.int x1, .int x2, .int x3, .int x4] M (fun v M' => (∃ x : Int32, v = some (.int x) ∧ (x = 0 ∨ x = 1)) ∧ M' = M) := by
  obtain ⟨d, rfl⟩ : ∃ e, d = e + 1 := ⟨d - 1, by omega⟩
  refine mt_in (b := mb_242 g) rfl rfl ?_
  show ml (mT g) d (mb_242 g).2 (0, [(0, .int x1), (1, .int x2), (2, .int x3), (3, .int x4)], [], M) _
  refine ml_blk 3 (S' := (3, [(0, .int x1), (1, .int x2), (2, .int x3), (3, .int x4)], [.int (x1 &&& x2)], M)) rfl ?_
  refine ml_if (S1 := (10, [(0, .int x1), (1, .int x2), (2, .int x3), (3, .int x4)], [], M)) (S2 := (6, [(0, .int x1), (1, .int x2), (2, .int x3), (3, .int x4)], [], M)) rfl rfl rfl (fun c_3 => ?_) (fun c_3 => ?_)
  · have c_3 : (x1 &&& x2) = 0 := of_decide_eq_true c_3
    refine ml_st (S' := (11, [(0, .int x1), (2, .int x3), (3, .int x4)], [.int 0], M)) rfl rfl rfl ?_
    refine ml_blk 3 (S' := (14, [(0, .int x1), (2, .int x3), (3, .int x4)], [.int (x1 &&& x3), .int 0], M)) rfl ?_
    refine ml_if (S1 := (21, [(0, .int x1), (2, .int x3), (3, .int x4)], [.int 0], M)) (S2 := (17, [(0, .int x1), (2, .int x3), (3, .int x4)], [.int 0], M)) rfl rfl rfl (fun c_14 => ?_) (fun c_14 => ?_)
    · have c_14 : (x1 &&& x3) = 0 := of_decide_eq_true c_14
      refine ml_st (S' := (22, [(0, .int x1), (3, .int x4)], [.int 0, .int 0], M)) rfl rfl rfl ?_
      refine ml_blk 3 (S' := (25, [(0, .int x1), (3, .int x4)], [.int x4, .int x1, .int (0 + 0)], M)) rfl ?_
      refine ml_st (S' := (26, [(0, .int x1), (3, .int x4)], [.int (x1 &&& x4), .int (0 + 0)], M)) rfl rfl rfl ?_
      refine ml_if (S1 := (33, [(0, .int x1), (3, .int x4)], [.int (0 + 0)], M)) (S2 := (29, [(0, .int x1), (3, .int x4)], [.int (0 + 0)], M)) rfl rfl rfl (fun c_26 => ?_) (fun c_26 => ?_)
      · have c_26 : (x1 &&& x4) = 0 := of_decide_eq_true c_26
        refine ml_st (S' := (34, [], [.int 0, .int (0 + 0)], M)) rfl rfl rfl ?_
        refine ml_blk 2 (S' := (36, [], [.int 1, .int ((0 + 0) + 0)], M)) rfl ?_
        refine ml_if2 (S1 := (43, [], [], M)) (S2 := (39, [], [], M)) rfl rfl rfl (fun c_36 => ?_) (fun c_36 => ?_)
        · have c_36 : ((0 + 0) + 0) ≤ 1 := of_decide_eq_true c_36
          refine ml_st (S' := (44, [], [.int 0], M)) rfl rfl rfl ?_
          exact ml_ret rfl (r_z (Or.inl rfl)) (⟨⟨_, rfl, Or.inl rfl⟩, rfl⟩)
        · have c_36 : ¬ (((0 + 0) + 0) ≤ 1) := of_decide_eq_false c_36
          refine ml_st (S' := (40, [], [.int 1], M)) rfl rfl rfl ?_
          refine ml_st (S' := (44, [], [.int 1], M)) rfl rfl rfl ?_
          exact ml_ret rfl (r_z (Or.inr rfl)) (⟨⟨_, rfl, Or.inr rfl⟩, rfl⟩)
      · have c_26 : ¬ ((x1 &&& x4) = 0) := of_decide_eq_false c_26
        refine ml_st (S' := (30, [(0, .int x1), (3, .int x4)], [.int 1, .int (0 + 0)], M)) rfl rfl rfl ?_
        refine ml_st (S' := (34, [], [.int 1, .int (0 + 0)], M)) rfl rfl rfl ?_
        refine ml_blk 2 (S' := (36, [], [.int 1, .int ((0 + 0) + 1)], M)) rfl ?_
        refine ml_if2 (S1 := (43, [], [], M)) (S2 := (39, [], [], M)) rfl rfl rfl (fun c_36 => ?_) (fun c_36 => ?_)
        · have c_36 : ((0 + 0) + 1) ≤ 1 := of_decide_eq_true c_36
          refine ml_st (S' := (44, [], [.int 0], M)) rfl rfl rfl ?_
          exact ml_ret rfl (r_z (Or.inl rfl)) (⟨⟨_, rfl, Or.inl rfl⟩, rfl⟩)
        · have c_36 : ¬ (((0 + 0) + 1) ≤ 1) := of_decide_eq_false c_36
          refine ml_st (S' := (40, [], [.int 1], M)) rfl rfl rfl ?_
          refine ml_st (S' := (44, [], [.int 1], M)) rfl rfl rfl ?_
          exact ml_ret rfl (r_z (Or.inr rfl)) (⟨⟨_, rfl, Or.inr rfl⟩, rfl⟩)
    · have c_14 : ¬ ((x1 &&& x3) = 0) := of_decide_eq_false c_14
      refine ml_st (S' := (18, [(0, .int x1), (2, .int x3), (3, .int x4)], [.int 1, .int 0], M)) rfl rfl rfl ?_
      refine ml_st (S' := (22, [(0, .int x1), (3, .int x4)], [.int 1, .int 0], M)) rfl rfl rfl ?_
      refine ml_blk 3 (S' := (25, [(0, .int x1), (3, .int x4)], [.int x4, .int x1, .int (0 + 1)], M)) rfl ?_
      refine ml_st (S' := (26, [(0, .int x1), (3, .int x4)], [.int (x1 &&& x4), .int (0 + 1)], M)) rfl rfl rfl ?_
      refine ml_if (S1 := (33, [(0, .int x1), (3, .int x4)], [.int (0 + 1)], M)) (S2 := (29, [(0, .int x1), (3, .int x4)], [.int (0 + 1)], M)) rfl rfl rfl (fun c_26 => ?_) (fun c_26 => ?_)
      · have c_26 : (x1 &&& x4) = 0 := of_decide_eq_true c_26
        refine ml_st (S' := (34, [], [.int 0, .int (0 + 1)], M)) rfl rfl rfl ?_
        refine ml_blk 2 (S' := (36, [], [.int 1, .int ((0 + 1) + 0)], M)) rfl ?_
        refine ml_if2 (S1 := (43, [], [], M)) (S2 := (39, [], [], M)) rfl rfl rfl (fun c_36 => ?_) (fun c_36 => ?_)
        · have c_36 : ((0 + 1) + 0) ≤ 1 := of_decide_eq_true c_36
          refine ml_st (S' := (44, [], [.int 0], M)) rfl rfl rfl ?_
          exact ml_ret rfl (r_z (Or.inl rfl)) (⟨⟨_, rfl, Or.inl rfl⟩, rfl⟩)
        · have c_36 : ¬ (((0 + 1) + 0) ≤ 1) := of_decide_eq_false c_36
          refine ml_st (S' := (40, [], [.int 1], M)) rfl rfl rfl ?_
          refine ml_st (S' := (44, [], [.int 1], M)) rfl rfl rfl ?_
          exact ml_ret rfl (r_z (Or.inr rfl)) (⟨⟨_, rfl, Or.inr rfl⟩, rfl⟩)
      · have c_26 : ¬ ((x1 &&& x4) = 0) := of_decide_eq_false c_26
        refine ml_st (S' := (30, [(0, .int x1), (3, .int x4)], [.int 1, .int (0 + 1)], M)) rfl rfl rfl ?_
        refine ml_st (S' := (34, [], [.int 1, .int (0 + 1)], M)) rfl rfl rfl ?_
        refine ml_blk 2 (S' := (36, [], [.int 1, .int ((0 + 1) + 1)], M)) rfl ?_
        refine ml_if2 (S1 := (43, [], [], M)) (S2 := (39, [], [], M)) rfl rfl rfl (fun c_36 => ?_) (fun c_36 => ?_)
        · have c_36 : ((0 + 1) + 1) ≤ 1 := of_decide_eq_true c_36
          refine ml_st (S' := (44, [], [.int 0], M)) rfl rfl rfl ?_
          exact ml_ret rfl (r_z (Or.inl rfl)) (⟨⟨_, rfl, Or.inl rfl⟩, rfl⟩)
        · have c_36 : ¬ (((0 + 1) + 1) ≤ 1) := of_decide_eq_false c_36
          refine ml_st (S' := (40, [], [.int 1], M)) rfl rfl rfl ?_
          refine ml_st (S' := (44, [], [.int 1], M)) rfl rfl rfl ?_
          exact ml_ret rfl (r_z (Or.inr rfl)) (⟨⟨_, rfl, Or.inr rfl⟩, rfl⟩)
  · have c_3 : ¬ ((x1 &&& x2) = 0) := of_decide_eq_false c_3
    refine ml_st (S' := (7, [(0, .int x1), (1, .int x2), (2, .int x3), (3, .int x4)], [.int 1], M)) rfl rfl rfl ?_
    refine ml_st (S' := (11, [(0, .int x1), (2, .int x3), (3, .int x4)], [.int 1], M)) rfl rfl rfl ?_
    refine ml_blk 3 (S' := (14, [(0, .int x1), (2, .int x3), (3, .int x4)], [.int (x1 &&& x3), .int 1], M)) rfl ?_
    refine ml_if (S1 := (21, [(0, .int x1), (2, .int x3), (3, .int x4)], [.int 1], M)) (S2 := (17, [(0, .int x1), (2, .int x3), (3, .int x4)], [.int 1], M)) rfl rfl rfl (fun c_14 => ?_) (fun c_14 => ?_)
    · have c_14 : (x1 &&& x3) = 0 := of_decide_eq_true c_14
      refine ml_st (S' := (22, [(0, .int x1), (3, .int x4)], [.int 0, .int 1], M)) rfl rfl rfl ?_
      refine ml_blk 3 (S' := (25, [(0, .int x1), (3, .int x4)], [.int x4, .int x1, .int (1 + 0)], M)) rfl ?_
      refine ml_st (S' := (26, [(0, .int x1), (3, .int x4)], [.int (x1 &&& x4), .int (1 + 0)], M)) rfl rfl rfl ?_
      refine ml_if (S1 := (33, [(0, .int x1), (3, .int x4)], [.int (1 + 0)], M)) (S2 := (29, [(0, .int x1), (3, .int x4)], [.int (1 + 0)], M)) rfl rfl rfl (fun c_26 => ?_) (fun c_26 => ?_)
      · have c_26 : (x1 &&& x4) = 0 := of_decide_eq_true c_26
        refine ml_st (S' := (34, [], [.int 0, .int (1 + 0)], M)) rfl rfl rfl ?_
        refine ml_blk 2 (S' := (36, [], [.int 1, .int ((1 + 0) + 0)], M)) rfl ?_
        refine ml_if2 (S1 := (43, [], [], M)) (S2 := (39, [], [], M)) rfl rfl rfl (fun c_36 => ?_) (fun c_36 => ?_)
        · have c_36 : ((1 + 0) + 0) ≤ 1 := of_decide_eq_true c_36
          refine ml_st (S' := (44, [], [.int 0], M)) rfl rfl rfl ?_
          exact ml_ret rfl (r_z (Or.inl rfl)) (⟨⟨_, rfl, Or.inl rfl⟩, rfl⟩)
        · have c_36 : ¬ (((1 + 0) + 0) ≤ 1) := of_decide_eq_false c_36
          refine ml_st (S' := (40, [], [.int 1], M)) rfl rfl rfl ?_
          refine ml_st (S' := (44, [], [.int 1], M)) rfl rfl rfl ?_
          exact ml_ret rfl (r_z (Or.inr rfl)) (⟨⟨_, rfl, Or.inr rfl⟩, rfl⟩)
      · have c_26 : ¬ ((x1 &&& x4) = 0) := of_decide_eq_false c_26
        refine ml_st (S' := (30, [(0, .int x1), (3, .int x4)], [.int 1, .int (1 + 0)], M)) rfl rfl rfl ?_
        refine ml_st (S' := (34, [], [.int 1, .int (1 + 0)], M)) rfl rfl rfl ?_
        refine ml_blk 2 (S' := (36, [], [.int 1, .int ((1 + 0) + 1)], M)) rfl ?_
        refine ml_if2 (S1 := (43, [], [], M)) (S2 := (39, [], [], M)) rfl rfl rfl (fun c_36 => ?_) (fun c_36 => ?_)
        · have c_36 : ((1 + 0) + 1) ≤ 1 := of_decide_eq_true c_36
          refine ml_st (S' := (44, [], [.int 0], M)) rfl rfl rfl ?_
          exact ml_ret rfl (r_z (Or.inl rfl)) (⟨⟨_, rfl, Or.inl rfl⟩, rfl⟩)
        · have c_36 : ¬ (((1 + 0) + 1) ≤ 1) := of_decide_eq_false c_36
          refine ml_st (S' := (40, [], [.int 1], M)) rfl rfl rfl ?_
          refine ml_st (S' := (44, [], [.int 1], M)) rfl rfl rfl ?_
          exact ml_ret rfl (r_z (Or.inr rfl)) (⟨⟨_, rfl, Or.inr rfl⟩, rfl⟩)
    · have c_14 : ¬ ((x1 &&& x3) = 0) := of_decide_eq_false c_14
      refine ml_st (S' := (18, [(0, .int x1), (2, .int x3), (3, .int x4)], [.int 1, .int 1], M)) rfl rfl rfl ?_
      refine ml_st (S' := (22, [(0, .int x1), (3, .int x4)], [.int 1, .int 1], M)) rfl rfl rfl ?_
      refine ml_blk 3 (S' := (25, [(0, .int x1), (3, .int x4)], [.int x4, .int x1, .int (1 + 1)], M)) rfl ?_
      refine ml_st (S' := (26, [(0, .int x1), (3, .int x4)], [.int (x1 &&& x4), .int (1 + 1)], M)) rfl rfl rfl ?_
      refine ml_if (S1 := (33, [(0, .int x1), (3, .int x4)], [.int (1 + 1)], M)) (S2 := (29, [(0, .int x1), (3, .int x4)], [.int (1 + 1)], M)) rfl rfl rfl (fun c_26 => ?_) (fun c_26 => ?_)
      · have c_26 : (x1 &&& x4) = 0 := of_decide_eq_true c_26
        refine ml_st (S' := (34, [], [.int 0, .int (1 + 1)], M)) rfl rfl rfl ?_
        refine ml_blk 2 (S' := (36, [], [.int 1, .int ((1 + 1) + 0)], M)) rfl ?_
        refine ml_if2 (S1 := (43, [], [], M)) (S2 := (39, [], [], M)) rfl rfl rfl (fun c_36 => ?_) (fun c_36 => ?_)
        · have c_36 : ((1 + 1) + 0) ≤ 1 := of_decide_eq_true c_36
          refine ml_st (S' := (44, [], [.int 0], M)) rfl rfl rfl ?_
          exact ml_ret rfl (r_z (Or.inl rfl)) (⟨⟨_, rfl, Or.inl rfl⟩, rfl⟩)
        · have c_36 : ¬ (((1 + 1) + 0) ≤ 1) := of_decide_eq_false c_36
          refine ml_st (S' := (40, [], [.int 1], M)) rfl rfl rfl ?_
          refine ml_st (S' := (44, [], [.int 1], M)) rfl rfl rfl ?_
          exact ml_ret rfl (r_z (Or.inr rfl)) (⟨⟨_, rfl, Or.inr rfl⟩, rfl⟩)
      · have c_26 : ¬ ((x1 &&& x4) = 0) := of_decide_eq_false c_26
        refine ml_st (S' := (30, [(0, .int x1), (3, .int x4)], [.int 1, .int (1 + 1)], M)) rfl rfl rfl ?_
        refine ml_st (S' := (34, [], [.int 1, .int (1 + 1)], M)) rfl rfl rfl ?_
        refine ml_blk 2 (S' := (36, [], [.int 1, .int ((1 + 1) + 1)], M)) rfl ?_
        refine ml_if2 (S1 := (43, [], [], M)) (S2 := (39, [], [], M)) rfl rfl rfl (fun c_36 => ?_) (fun c_36 => ?_)
        · have c_36 : ((1 + 1) + 1) ≤ 1 := of_decide_eq_true c_36
          refine ml_st (S' := (44, [], [.int 0], M)) rfl rfl rfl ?_
          exact ml_ret rfl (r_z (Or.inl rfl)) (⟨⟨_, rfl, Or.inl rfl⟩, rfl⟩)
        · have c_36 : ¬ (((1 + 1) + 1) ≤ 1) := of_decide_eq_false c_36
          refine ml_st (S' := (40, [], [.int 1], M)) rfl rfl rfl ?_
          refine ml_st (S' := (44, [], [.int 1], M)) rfl rfl rfl ?_
          exact ml_ret rfl (r_z (Or.inr rfl)) (⟨⟨_, rfl, Or.inr rfl⟩, rfl⟩)
set_option maxHeartbeats 2000000 in
theorem rm_flagsFit {g : xe_G}  {m0 : Nat} {q : Nat → Nat} {z : Nat × Nat} {I : rI} {R : rR} {M : mi_H} {x1 x2 x3 mj : Int32}  (hR : RS g m0 q z I R M) (hk53 : I 53 = some mj) {d : Nat} (hd : 2 ≤ d) : mt (mT g) d 209 [.ref m0, .int x1, .int x2, .int x3] M (fun v M' => (∃ x : Int32, v = some (.int x) ∧ (x = 0 ∨ x = 1)) ∧ M' = M) := by
  obtain ⟨d, rfl⟩ : ∃ e, d = e + 1 := ⟨d - 1, by omega⟩
  refine mt_in (b := mb_209 g) rfl rfl ?_
  show ml (mT g) d (mb_209 g).2 (0, [(0, .ref m0), (1, .int x1), (2, .int x2), (3, .int x3)], [], M) _
  refine ml_st (S' := (1, [(0, .ref m0), (1, .int x1), (2, .int x2), (3, .int x3)], [.int x2], M)) rfl rfl rfl ?_
  refine ml_if (S1 := (28, [(0, .ref m0), (1, .int x1), (2, .int x2), (3, .int x3)], [], M)) (S2 := (4, [(0, .ref m0), (1, .int x1), (2, .int x2), (3, .int x3)], [], M)) rfl rfl rfl (fun c_1 => ?_) (fun c_1 => ?_)
  · have c_1 : x2 = 0 := of_decide_eq_true c_1
    refine ml_blk 3 (S' := (33, [(0, .ref m0), (1, .int x1), (2, .int x2), (3, .int x3)], [.int (x1 &&& 1024)], M)) rfl ?_
    have J_75 : ∀ (s75_0 : Int32), ml (mT g) d (mb_209 g).2 (75, [(0, .ref m0), (1, .int x1), (3, .int x3)], [.int s75_0], M) (fun v M' => (∃ x : Int32, v = some (.int x) ∧ (x = 0 ∨ x = 1)) ∧ M' = M) := by
      intro s75_0
      refine ml_st (S' := (77, [(4, .int s75_0), (0, .ref m0), (1, .int x1), (3, .int x3)], [], M)) rfl rfl rfl ?_
      refine ml_st (S' := (78, [(4, .int s75_0), (0, .ref m0), (1, .int x1), (3, .int x3)], [.int x3], M)) rfl rfl rfl ?_
      refine ml_if (S1 := (102, [(4, .int s75_0), (0, .ref m0), (1, .int x1), (3, .int x3)], [], M)) (S2 := (81, [(4, .int s75_0), (0, .ref m0), (1, .int x1), (3, .int x3)], [], M)) rfl rfl rfl (fun c_78 => ?_) (fun c_78 => ?_)
      · have c_78 : ¬ x3 = 0 := of_decide_eq_true c_78
        refine ml_blk 3 (S' := (107, [(4, .int s75_0), (0, .ref m0), (1, .int x1), (3, .int x3)], [.int (x1 &&& 308)], M)) rfl ?_
        refine ml_if (S1 := (112, [(4, .int s75_0), (0, .ref m0), (1, .int x1), (3, .int x3)], [], M)) (S2 := (110, [(4, .int s75_0), (0, .ref m0), (1, .int x1), (3, .int x3)], [], M)) rfl rfl rfl (fun c_107 => ?_) (fun c_107 => ?_)
        · have c_107 : (x1 &&& 308) = 0 := of_decide_eq_true c_107
          refine ml_st (S' := (113, [(4, .int s75_0), (0, .ref m0), (1, .int x1), (3, .int x3)], [.ref m0], M)) rfl rfl rfl ?_
          refine rg_int (S' := (116, [(4, .int s75_0), (0, .ref m0), (1, .int x1), (3, .int x3)], [.int mj], M)) rfl hR rfl (hk53) rfl ?_
          refine ml_st (S' := (118, [(4, .int s75_0), (0, .ref m0), (1, .int x1), (3, .int x3)], [.int 52, .int mj], M)) rfl rfl rfl ?_
          have J_172 : ml (mT g) d (mb_209 g).2 (172, [(4, .int s75_0)], [], M) (fun v M' => (∃ x : Int32, v = some (.int x) ∧ (x = 0 ∨ x = 1)) ∧ M' = M) := by
            refine ml_st (S' := (174, [(4, .int s75_0)], [.int s75_0], M)) rfl rfl rfl ?_
            refine ml_if (S1 := (181, [(4, .int s75_0)], [], M)) (S2 := (177, [(4, .int s75_0)], [], M)) rfl rfl rfl (fun c_174 => ?_) (fun c_174 => ?_)
            · have c_174 : ¬ s75_0 = 0 := of_decide_eq_true c_174
              refine ml_st (S' := (182, [], [.int 0], M)) rfl rfl rfl ?_
              exact ml_ret rfl (r_z (Or.inl rfl)) (⟨⟨_, rfl, Or.inl rfl⟩, rfl⟩)
            · have c_174 : ¬ (¬ s75_0 = 0) := of_decide_eq_false c_174
              refine ml_st (S' := (178, [(4, .int s75_0)], [.int 1], M)) rfl rfl rfl ?_
              refine ml_st (S' := (182, [], [.int 1], M)) rfl rfl rfl ?_
              exact ml_ret rfl (r_z (Or.inr rfl)) (⟨⟨_, rfl, Or.inr rfl⟩, rfl⟩)
          have J_170 : ml (mT g) d (mb_209 g).2 (170, [], [], M) (fun v M' => (∃ x : Int32, v = some (.int x) ∧ (x = 0 ∨ x = 1)) ∧ M' = M) := by
            refine ml_st (S' := (171, [], [.int 0], M)) rfl rfl rfl ?_
            exact ml_ret rfl (r_z (Or.inl rfl)) (⟨⟨_, rfl, Or.inl rfl⟩, rfl⟩)
          refine ml_if2 (S1 := (145, [(4, .int s75_0), (0, .ref m0), (1, .int x1), (3, .int x3)], [], M)) (S2 := (121, [(4, .int s75_0), (0, .ref m0), (1, .int x1), (3, .int x3)], [], M)) rfl rfl rfl (fun c_118 => ?_) (fun c_118 => ?_)
          · have c_118 : 52 ≤ mj := of_decide_eq_true c_118
            refine ml_blk 3 (S' := (148, [(4, .int s75_0), (0, .ref m0), (1, .int x1), (3, .int x3)], [.int (x1 &&& 1)], M)) rfl ?_
            have J_156 : ∀ (s156_0 : Int32), ml (mT g) d (mb_209 g).2 (156, [(1, .int x1), (4, .int s75_0)], [.int s156_0], M) (fun v M' => (∃ x : Int32, v = some (.int x) ∧ (x = 0 ∨ x = 1)) ∧ M' = M) := by
              intro s156_0
              refine ml_blk 3 (S' := (159, [(1, .int x1), (4, .int s75_0)], [.int (x1 &&& 2), .int s156_0], M)) rfl ?_
              have J_167 : ∀ (s167_0 : Int32), ml (mT g) d (mb_209 g).2 (167, [(4, .int s75_0)], [.int s167_0, .int s156_0], M) (fun v M' => (∃ x : Int32, v = some (.int x) ∧ (x = 0 ∨ x = 1)) ∧ M' = M) := by
                intro s167_0
                refine ml_if2 (S1 := (172, [(4, .int s75_0)], [], M)) (S2 := (170, [], [], M)) rfl rfl rfl (fun c_167 => ?_) (fun c_167 => ?_)
                · have c_167 : ¬ s156_0 = s167_0 := of_decide_eq_true c_167
                  exact J_172 
                · have c_167 : ¬ (¬ s156_0 = s167_0) := of_decide_eq_false c_167
                  exact J_170 
              refine ml_if (S1 := (166, [(1, .int x1), (4, .int s75_0)], [.int s156_0], M)) (S2 := (162, [(1, .int x1), (4, .int s75_0)], [.int s156_0], M)) rfl rfl rfl (fun c_159 => ?_) (fun c_159 => ?_)
              · have c_159 : (x1 &&& 2) = 0 := of_decide_eq_true c_159
                refine ml_st (S' := (167, [(4, .int s75_0)], [.int 0, .int s156_0], M)) rfl rfl rfl ?_
                exact J_167 0
              · have c_159 : ¬ ((x1 &&& 2) = 0) := of_decide_eq_false c_159
                refine ml_st (S' := (163, [(1, .int x1), (4, .int s75_0)], [.int 1, .int s156_0], M)) rfl rfl rfl ?_
                refine ml_st (S' := (167, [(4, .int s75_0)], [.int 1, .int s156_0], M)) rfl rfl rfl ?_
                exact J_167 1
            refine ml_if (S1 := (155, [(4, .int s75_0), (0, .ref m0), (1, .int x1), (3, .int x3)], [], M)) (S2 := (151, [(4, .int s75_0), (0, .ref m0), (1, .int x1), (3, .int x3)], [], M)) rfl rfl rfl (fun c_148 => ?_) (fun c_148 => ?_)
            · have c_148 : (x1 &&& 1) = 0 := of_decide_eq_true c_148
              refine ml_st (S' := (156, [(1, .int x1), (4, .int s75_0)], [.int 0], M)) rfl rfl rfl ?_
              exact J_156 0
            · have c_148 : ¬ ((x1 &&& 1) = 0) := of_decide_eq_false c_148
              refine ml_st (S' := (152, [(4, .int s75_0), (0, .ref m0), (1, .int x1), (3, .int x3)], [.int 1], M)) rfl rfl rfl ?_
              refine ml_st (S' := (156, [(1, .int x1), (4, .int s75_0)], [.int 1], M)) rfl rfl rfl ?_
              exact J_156 1
          · have c_118 : ¬ (52 ≤ mj) := of_decide_eq_false c_118
            refine ml_blk 3 (S' := (124, [(4, .int s75_0), (0, .ref m0), (1, .int x1), (3, .int x3)], [.int (x1 &&& 1)], M)) rfl ?_
            refine ml_if (S1 := (170, [], [], M)) (S2 := (127, [(4, .int s75_0), (0, .ref m0), (1, .int x1), (3, .int x3)], [], M)) rfl rfl rfl (fun c_124 => ?_) (fun c_124 => ?_)
            · have c_124 : (x1 &&& 1) = 0 := of_decide_eq_true c_124
              exact J_170 
            · have c_124 : ¬ ((x1 &&& 1) = 0) := of_decide_eq_false c_124
              refine ml_blk 3 (S' := (132, [(4, .int s75_0), (0, .ref m0), (1, .int x1), (3, .int x3)], [.int (x1 &&& 1024)], M)) rfl ?_
              refine ml_if (S1 := (170, [], [], M)) (S2 := (135, [(4, .int s75_0), (0, .ref m0), (1, .int x1), (3, .int x3)], [], M)) rfl rfl rfl (fun c_132 => ?_) (fun c_132 => ?_)
              · have c_132 : (x1 &&& 1024) = 0 := of_decide_eq_true c_132
                exact J_170 
              · have c_132 : ¬ ((x1 &&& 1024) = 0) := of_decide_eq_false c_132
                refine ml_blk 3 (S' := (139, [(4, .int s75_0), (0, .ref m0), (1, .int x1), (3, .int x3)], [.int (x1 &&& 8)], M)) rfl ?_
                refine ml_if (S1 := (172, [(4, .int s75_0)], [], M)) (S2 := (142, [(4, .int s75_0), (0, .ref m0), (1, .int x1), (3, .int x3)], [], M)) rfl rfl rfl (fun c_139 => ?_) (fun c_139 => ?_)
                · have c_139 : (x1 &&& 8) = 0 := of_decide_eq_true c_139
                  exact J_172 
                · have c_139 : ¬ ((x1 &&& 8) = 0) := of_decide_eq_false c_139
                  refine ml_st (S' := (170, [], [], M)) rfl rfl rfl ?_
                  exact J_170 
        · have c_107 : ¬ ((x1 &&& 308) = 0) := of_decide_eq_false c_107
          refine ml_st (S' := (111, [(4, .int s75_0), (0, .ref m0), (1, .int x1), (3, .int x3)], [.int 0], M)) rfl rfl rfl ?_
          exact ml_ret rfl (r_z (Or.inl rfl)) (⟨⟨_, rfl, Or.inl rfl⟩, rfl⟩)
      · have c_78 : ¬ (¬ x3 = 0) := of_decide_eq_false c_78
        refine ml_blk 3 (S' := (84, [(4, .int s75_0), (0, .ref m0), (1, .int x1), (3, .int x3)], [.int 2, .int 1, .int x1], M)) rfl ?_
        refine ml_st (S' := (85, [(4, .int s75_0), (0, .ref m0), (1, .int x1), (3, .int x3)], [.int 4, .int 2, .int 1, .int x1], M)) rfl rfl rfl ?_
        refine ml_call (a := [.int x1, .int 1, .int 2, .int 4]) (rest := []) rfl (rfl) rfl rfl (rm_several hR (by omega)) (fun v11 M12 h13 => ?_)
        obtain ⟨⟨u14, rfl, z15⟩, h13⟩ := h13
        rw [h13]
        show ml _ _ _ (88, [(4, .int s75_0), (0, .ref m0), (1, .int x1), (3, .int x3)], [.int u14], M) _
        refine ml_if (S1 := (100, [], [], M)) (S2 := (91, [(4, .int s75_0), (0, .ref m0), (1, .int x1), (3, .int x3)], [], M)) rfl rfl rfl (fun c_88 => ?_) (fun c_88 => ?_)
        · have c_88 : ¬ u14 = 0 := of_decide_eq_true c_88
          refine ml_st (S' := (101, [], [.int 0], M)) rfl rfl rfl ?_
          exact ml_ret rfl (r_z (Or.inl rfl)) (⟨⟨_, rfl, Or.inl rfl⟩, rfl⟩)
        · have c_88 : ¬ (¬ u14 = 0) := of_decide_eq_false c_88
          refine ml_st (S' := (93, [(4, .int s75_0), (0, .ref m0), (1, .int x1), (3, .int x3)], [.int s75_0], M)) rfl rfl rfl ?_
          refine ml_if (S1 := (100, [], [], M)) (S2 := (96, [(4, .int s75_0), (0, .ref m0), (1, .int x1), (3, .int x3)], [], M)) rfl rfl rfl (fun c_93 => ?_) (fun c_93 => ?_)
          · have c_93 : ¬ s75_0 = 0 := of_decide_eq_true c_93
            refine ml_st (S' := (101, [], [.int 0], M)) rfl rfl rfl ?_
            exact ml_ret rfl (r_z (Or.inl rfl)) (⟨⟨_, rfl, Or.inl rfl⟩, rfl⟩)
          · have c_93 : ¬ (¬ s75_0 = 0) := of_decide_eq_false c_93
            refine ml_st (S' := (97, [(4, .int s75_0), (0, .ref m0), (1, .int x1), (3, .int x3)], [.int 1], M)) rfl rfl rfl ?_
            refine ml_st (S' := (101, [], [.int 1], M)) rfl rfl rfl ?_
            exact ml_ret rfl (r_z (Or.inr rfl)) (⟨⟨_, rfl, Or.inr rfl⟩, rfl⟩)
    refine ml_if (S1 := (74, [(0, .ref m0), (1, .int x1), (3, .int x3)], [], M)) (S2 := (36, [(0, .ref m0), (1, .int x1), (2, .int x2), (3, .int x3)], [], M)) rfl rfl rfl (fun c_33 => ?_) (fun c_33 => ?_)
    · have c_33 : (x1 &&& 1024) = 0 := of_decide_eq_true c_33
      refine ml_st (S' := (75, [(0, .ref m0), (1, .int x1), (3, .int x3)], [.int 0], M)) rfl rfl rfl ?_
      exact J_75 0
    · have c_33 : ¬ ((x1 &&& 1024) = 0) := of_decide_eq_false c_33
      refine ml_blk 3 (S' := (41, [(0, .ref m0), (1, .int x1), (2, .int x2), (3, .int x3)], [.int (x1 &&& 314)], M)) rfl ?_
      refine ml_if (S1 := (70, [(0, .ref m0), (1, .int x1), (3, .int x3)], [], M)) (S2 := (44, [(0, .ref m0), (1, .int x1), (2, .int x2), (3, .int x3)], [], M)) rfl rfl rfl (fun c_41 => ?_) (fun c_41 => ?_)
      · have c_41 : ¬ (x1 &&& 314) = 0 := of_decide_eq_true c_41
        refine ml_st (S' := (71, [(0, .ref m0), (1, .int x1), (3, .int x3)], [.int 1], M)) rfl rfl rfl ?_
        refine ml_st (S' := (75, [(0, .ref m0), (1, .int x1), (3, .int x3)], [.int 1], M)) rfl rfl rfl ?_
        exact J_75 1
      · have c_41 : ¬ (¬ (x1 &&& 314) = 0) := of_decide_eq_false c_41
        refine ml_st (S' := (45, [(0, .ref m0), (1, .int x1), (2, .int x2), (3, .int x3)], [.ref m0], M)) rfl rfl rfl ?_
        refine rg_int (S' := (48, [(0, .ref m0), (1, .int x1), (2, .int x2), (3, .int x3)], [.int mj], M)) rfl hR rfl (hk53) rfl ?_
        refine ml_st (S' := (50, [(0, .ref m0), (1, .int x1), (2, .int x2), (3, .int x3)], [.int 46, .int mj], M)) rfl rfl rfl ?_
        refine ml_if2 (S1 := (74, [(0, .ref m0), (1, .int x1), (3, .int x3)], [], M)) (S2 := (53, [(0, .ref m0), (1, .int x1), (2, .int x2), (3, .int x3)], [], M)) rfl rfl rfl (fun c_50 => ?_) (fun c_50 => ?_)
        · have c_50 : mj < 46 := of_decide_eq_true c_50
          refine ml_st (S' := (75, [(0, .ref m0), (1, .int x1), (3, .int x3)], [.int 0], M)) rfl rfl rfl ?_
          exact J_75 0
        · have c_50 : ¬ (mj < 46) := of_decide_eq_false c_50
          refine ml_st (S' := (54, [(0, .ref m0), (1, .int x1), (2, .int x2), (3, .int x3)], [.ref m0], M)) rfl rfl rfl ?_
          refine rg_int (S' := (57, [(0, .ref m0), (1, .int x1), (2, .int x2), (3, .int x3)], [.int mj], M)) rfl hR rfl (hk53) rfl ?_
          refine ml_st (S' := (59, [(0, .ref m0), (1, .int x1), (2, .int x2), (3, .int x3)], [.int 60, .int mj], M)) rfl rfl rfl ?_
          refine ml_if2 (S1 := (74, [(0, .ref m0), (1, .int x1), (3, .int x3)], [], M)) (S2 := (62, [(0, .ref m0), (1, .int x1), (2, .int x2), (3, .int x3)], [], M)) rfl rfl rfl (fun c_59 => ?_) (fun c_59 => ?_)
          · have c_59 : 60 < mj := of_decide_eq_true c_59
            refine ml_st (S' := (75, [(0, .ref m0), (1, .int x1), (3, .int x3)], [.int 0], M)) rfl rfl rfl ?_
            exact J_75 0
          · have c_59 : ¬ (60 < mj) := of_decide_eq_false c_59
            refine ml_blk 3 (S' := (67, [(0, .ref m0), (1, .int x1), (2, .int x2), (3, .int x3)], [.int (x1 &&& 2048)], M)) rfl ?_
            refine ml_if (S1 := (74, [(0, .ref m0), (1, .int x1), (3, .int x3)], [], M)) (S2 := (70, [(0, .ref m0), (1, .int x1), (3, .int x3)], [], M)) rfl rfl rfl (fun c_67 => ?_) (fun c_67 => ?_)
            · have c_67 : (x1 &&& 2048) = 0 := of_decide_eq_true c_67
              refine ml_st (S' := (75, [(0, .ref m0), (1, .int x1), (3, .int x3)], [.int 0], M)) rfl rfl rfl ?_
              exact J_75 0
            · have c_67 : ¬ ((x1 &&& 2048) = 0) := of_decide_eq_false c_67
              refine ml_st (S' := (71, [(0, .ref m0), (1, .int x1), (3, .int x3)], [.int 1], M)) rfl rfl rfl ?_
              refine ml_st (S' := (75, [(0, .ref m0), (1, .int x1), (3, .int x3)], [.int 1], M)) rfl rfl rfl ?_
              exact J_75 1
  · have c_1 : ¬ (x2 = 0) := of_decide_eq_false c_1
    refine ml_blk 3 (S' := (7, [(0, .ref m0), (1, .int x1), (2, .int x2), (3, .int x3)], [.int 2, .int 1, .int x1], M)) rfl ?_
    refine ml_st (S' := (8, [(0, .ref m0), (1, .int x1), (2, .int x2), (3, .int x3)], [.int 4, .int 2, .int 1, .int x1], M)) rfl rfl rfl ?_
    refine ml_call (a := [.int x1, .int 1, .int 2, .int 4]) (rest := []) rfl (rfl) rfl rfl (rm_several hR (by omega)) (fun v16 M17 h18 => ?_)
    obtain ⟨⟨u19, rfl, z20⟩, h18⟩ := h18
    rw [h18]
    show ml _ _ _ (11, [(0, .ref m0), (1, .int x1), (2, .int x2), (3, .int x3)], [.int u19], M) _
    refine ml_if (S1 := (26, [], [], M)) (S2 := (14, [(0, .ref m0), (1, .int x1), (2, .int x2), (3, .int x3)], [], M)) rfl rfl rfl (fun c_11 => ?_) (fun c_11 => ?_)
    · have c_11 : ¬ u19 = 0 := of_decide_eq_true c_11
      refine ml_st (S' := (27, [], [.int 0], M)) rfl rfl rfl ?_
      exact ml_ret rfl (r_z (Or.inl rfl)) (⟨⟨_, rfl, Or.inl rfl⟩, rfl⟩)
    · have c_11 : ¬ (¬ u19 = 0) := of_decide_eq_false c_11
      refine ml_blk 3 (S' := (19, [(0, .ref m0), (1, .int x1), (2, .int x2), (3, .int x3)], [.int (x1 &&& 1400)], M)) rfl ?_
      refine ml_if (S1 := (26, [], [], M)) (S2 := (22, [(0, .ref m0), (1, .int x1), (2, .int x2), (3, .int x3)], [], M)) rfl rfl rfl (fun c_19 => ?_) (fun c_19 => ?_)
      · have c_19 : ¬ (x1 &&& 1400) = 0 := of_decide_eq_true c_19
        refine ml_st (S' := (27, [], [.int 0], M)) rfl rfl rfl ?_
        exact ml_ret rfl (r_z (Or.inl rfl)) (⟨⟨_, rfl, Or.inl rfl⟩, rfl⟩)
      · have c_19 : ¬ (¬ (x1 &&& 1400) = 0) := of_decide_eq_false c_19
        refine ml_st (S' := (23, [(0, .ref m0), (1, .int x1), (2, .int x2), (3, .int x3)], [.int 1], M)) rfl rfl rfl ?_
        refine ml_st (S' := (27, [], [.int 1], M)) rfl rfl rfl ?_
        exact ml_ret rfl (r_z (Or.inr rfl)) (⟨⟨_, rfl, Or.inr rfl⟩, rfl⟩)
theorem nI_back {k : Int32} (h : 0 ≤ k.toInt) (h1 : k.toInt ≤ 65535) : nI k.toInt.toNat = k := by
  apply Int32.toInt_inj.mp
  rw [nI_val (by omega)]
  omega
end
section
set_option maxHeartbeats 2000000 in
theorem rm_checkFields {g : xe_G}  {m0 : Nat} {q : Nat → Nat} {z : Nat × Nat} {I : rI} {R : rR} {M : mi_H} {fA nf : Int32} {n : Nat} {f : Nat → Int32} {S cN : Nat} {sa sl ch : Nat → Int32} {cp mj : Int32} {pa py : Nat → Int32} {mA : Int32}  (hR : RS g m0 q z I R M) (hk55 : I 55 = some fA) (hk25 : I 25 = some 0) (hk58 : I 58 = some nf) (hF : FK n f I R) (hY : SK S cN sa sl ch I R) (hP : PK n f S cp mj pa py I R) (hK : KW I R) (hmb : MB f n fA mA) {d : Nat} (hd : 8 ≤ d) : mt (mT g) d 189 [.ref m0] M (fun v M' => ∃ (x : Int32) (I' : rI) (R' : rR), v = some (.int x) ∧ RS g m0 q z I' R' M' ∧ eqI [25, 47, 48] I I' ∧ eqR [27, 28, 29, 30, 31, 32, 33] R R' ∧ (x = 0 ∨ x = 1) ∧ (x = 0 ∨ ∃ k : Nat, k ≤ 8192 ∧ I' 25 = some (nI k) ∧ FKN k R')) := by
  obtain ⟨d, rfl⟩ : ∃ e, d = e + 1 := ⟨d - 1, by omega⟩
  refine mt_in (b := mb_189 g) rfl rfl ?_
  show ml (mT g) d (mb_189 g).2 (0, [(0, .ref m0)], [], M) _
  have hn := hF.1
  have hA0 := hmb.1
  have hA1 := hmb.2.1
  have eA2 : (fA + 2).toInt = fA.toInt + 2 := i_add (by have : (2 : Int32).toInt = 2 := rfl; omega) (by have : (2 : Int32).toInt = 2 := rfl; omega)
  refine ml_st (S' := (1, [(0, .ref m0)], [.ref m0], M)) rfl rfl rfl ?_
  refine rg_int (S' := (4, [(0, .ref m0)], [.int fA], M)) rfl hR rfl (hk55) rfl ?_
  refine ml_st (S' := (5, [(1, .int fA), (0, .ref m0)], [], M)) rfl rfl rfl ?_
  refine ml_blk 2 (S' := (7, [(1, .int fA), (0, .ref m0)], [.int fA, .ref m0], M)) rfl ?_
  refine ml_call (a := [.ref m0, .int fA]) (rest := []) rfl (hR.okc rfl rfl rfl) rfl rfl (rm_u2 hR hF (hA0) (hA1) (by omega)) (fun v11 M12 h13 => ?_)
  obtain ⟨rfl, h13⟩ := h13
  rw [h13]
  show ml _ _ _ (10, [(1, .int fA), (0, .ref m0)], [.int (f2 f fA)], M) _
  refine ml_st (S' := (11, [(2, .int (f2 f fA)), (1, .int fA), (0, .ref m0)], [], M)) rfl rfl rfl ?_
  refine ml_st (S' := (14, [(1, .int (fA + 2)), (2, .int (f2 f fA)), (0, .ref m0)], [], M)) rfl rfl rfl ?_
  refine ml_st (S' := (15, [(1, .int (fA + 2)), (2, .int (f2 f fA)), (0, .ref m0)], [.ref m0], M)) rfl rfl rfl ?_
  refine rg_int (S' := (18, [(1, .int (fA + 2)), (2, .int (f2 f fA)), (0, .ref m0)], [.int 0], M)) rfl hR rfl (hk25) rfl ?_
  refine ml_st (S' := (19, [(3, .int 0), (1, .int (fA + 2)), (2, .int (f2 f fA)), (0, .ref m0)], [], M)) rfl rfl rfl ?_
  refine ml_st (S' := (20, [(3, .int 0), (1, .int (fA + 2)), (2, .int (f2 f fA)), (0, .ref m0)], [.int 0], M)) rfl rfl rfl ?_
  refine ml_st (S' := (22, [(0, .ref m0), (1, .int (fA + 2)), (2, .int (f2 f fA)), (3, .int 0), (4, .int 0)], [], M)) rfl rfl rfl ?_
  have L_22 : ∀ (n_22 : Nat) (i22_1 : Int32) (i22_4 : Int32) (M_22 : mi_H) (I_22 : rI) (R_22 : rR), (2147483648 - i22_4.toInt).toNat ≤ n_22 → RS g m0 q z I_22 R_22 M_22 → eqI [25, 47, 48] I I_22 → eqR [27, 28, 29, 30, 31, 32, 33] R R_22 → (0 ≤ i22_4.toInt ∧ i22_4.toInt ≤ (f2 f fA).toInt ∧ I_22 25 = some i22_4 ∧ itr (MB1 f n) ((f2 f fA).toInt - i22_4.toInt).toNat i22_1 mA ∧ fA.toInt + 2 + 8 * i22_4.toInt ≤ i22_1.toInt ∧ FKN i22_4.toInt.toNat R_22) → ml (mT g) d (mb_189 g).2 (22, [(0, .ref m0), (1, .int i22_1), (2, .int (f2 f fA)), (3, .int 0), (4, .int i22_4)], [], M_22) (fun v M' => ∃ (x : Int32) (I' : rI) (R' : rR), v = some (.int x) ∧ RS g m0 q z I' R' M' ∧ eqI [25, 47, 48] I I' ∧ eqR [27, 28, 29, 30, 31, 32, 33] R R' ∧ (x = 0 ∨ x = 1) ∧ (x = 0 ∨ ∃ k : Nat, k ≤ 8192 ∧ I' 25 = some (nI k) ∧ FKN k R')) := by
    intro n_22
    induction n_22 with
    | zero => intro i22_1 i22_4 M_22 I_22 R_22 hn; exact (loop_zero hn).elim
    | succ n_22 ih_22 =>
      intro i22_1 i22_4 M_22 I_22 R_22 hn_22 hR_22 hI_22 hV_22 hi_22
      obtain ⟨hk0, hk1, h25, hit, hpk, hfk⟩ := hi_22
      refine ml_blk 2 (S' := (25, [(0, .ref m0), (1, .int i22_1), (2, .int (f2 f fA)), (3, .int 0), (4, .int i22_4)], [.int (f2 f fA), .int i22_4], M_22)) rfl ?_
      refine ml_if2 (S1 := (366, [(0, .ref m0), (1, .int i22_1), (2, .int (f2 f fA)), (3, .int 0), (4, .int i22_4)], [], M_22)) (S2 := (28, [(0, .ref m0), (1, .int i22_1), (2, .int (f2 f fA)), (3, .int 0), (4, .int i22_4)], [], M_22)) rfl rfl rfl (fun c_25 => ?_) (fun c_25 => ?_)
      · have c_25 : (f2 f fA) ≤ i22_4 := of_decide_eq_true c_25
        refine ml_st (S' := (367, [(0, .ref m0), (1, .int i22_1), (2, .int (f2 f fA)), (3, .int 0), (4, .int i22_4)], [.int 1], M_22)) rfl rfl rfl ?_
        exact ml_ret rfl (r_z (Or.inr rfl)) (⟨_, _, _, rfl, hR_22, (eqI.rf.tr hI_22 (by decide)), (eqR.rf.tr hV_22 (by decide)), Or.inr rfl, Or.inr ⟨i22_4.toInt.toNat, by have := itr.ge (w := 0) (fun a b h => by have := MB1.ge hn a b h; omega) hit; have := (mb_ge hn hmb).2; omega, by rw [nI_back hk0 (Int.le_trans hk1 f2_le)]; exact h25, hfk⟩⟩)
      · have c_25 : ¬ ((f2 f fA) ≤ i22_4) := of_decide_eq_false c_25
        obtain ⟨b1, hb1, hnx⟩ := itr_next hit c_25
        obtain ⟨g0, g1, g2⟩ := hb1
        have hg := at_ge hn g2
        have hkl := i_nle c_25
        have e2 : (i22_1 + 2).toInt = i22_1.toInt + 2 := i_add (by have : (2 : Int32).toInt = 2 := rfl; omega) (by have : (2 : Int32).toInt = 2 := rfl; omega)
        have e4 : (i22_1 + 4).toInt = i22_1.toInt + 4 := i_add (by have : (4 : Int32).toInt = 4 := rfl; omega) (by have : (4 : Int32).toInt = 4 := rfl; omega)
        have e6 : (i22_1 + 6).toInt = i22_1.toInt + 6 := i_add (by have : (6 : Int32).toInt = 6 := rfl; omega) (by have : (6 : Int32).toInt = 6 := rfl; omega)
        have hk8 : i22_4.toInt < 8300 := by omega
        refine ml_blk 2 (S' := (30, [(0, .ref m0), (1, .int i22_1), (2, .int (f2 f fA)), (3, .int 0), (4, .int i22_4)], [.int i22_1, .ref m0], M_22)) rfl ?_
        have hF14 : FK n f I_22 R_22 := (hF.mono (cIx hI_22 (by decide)) (cRx hV_22 (by decide)))
        refine ml_call (a := [.ref m0, .int i22_1]) (rest := []) rfl (hR_22.okc rfl rfl rfl) rfl rfl (rm_u2 hR_22 hF14 (g0) (by omega) (by omega)) (fun v15 M16 h17 => ?_)
        obtain ⟨rfl, h17⟩ := h17
        rw [h17]
        show ml _ _ _ (33, [(0, .ref m0), (1, .int i22_1), (2, .int (f2 f fA)), (3, .int 0), (4, .int i22_4)], [.int (f2 f i22_1)], M_22) _
        refine ml_st (S' := (35, [(5, .int (f2 f i22_1)), (0, .ref m0), (1, .int i22_1), (2, .int (f2 f fA)), (3, .int 0), (4, .int i22_4)], [], M_22)) rfl rfl rfl ?_
        refine ml_blk 3 (S' := (39, [(5, .int (f2 f i22_1)), (0, .ref m0), (1, .int i22_1), (2, .int (f2 f fA)), (3, .int 0), (4, .int i22_4)], [.int 2, .int 1, .int (f2 f i22_1)], M_22)) rfl ?_
        refine ml_st (S' := (40, [(5, .int (f2 f i22_1)), (0, .ref m0), (1, .int i22_1), (2, .int (f2 f fA)), (3, .int 0), (4, .int i22_4)], [.int 4, .int 2, .int 1, .int (f2 f i22_1)], M_22)) rfl rfl rfl ?_
        refine ml_call (a := [.int (f2 f i22_1), .int 1, .int 2, .int 4]) (rest := []) rfl (rfl) rfl rfl (rm_several hR_22 (by omega)) (fun v18 M19 h20 => ?_)
        obtain ⟨⟨u21, rfl, z22⟩, h20⟩ := h20
        rw [h20]
        show ml _ _ _ (43, [(5, .int (f2 f i22_1)), (0, .ref m0), (1, .int i22_1), (2, .int (f2 f fA)), (3, .int 0), (4, .int i22_4)], [.int u21], M_22) _
        refine ml_if (S1 := (84, [(0, .ref m0), (1, .int i22_1)], [], M_22)) (S2 := (46, [(5, .int (f2 f i22_1)), (0, .ref m0), (1, .int i22_1), (2, .int (f2 f fA)), (3, .int 0), (4, .int i22_4)], [], M_22)) rfl rfl rfl (fun c_43 => ?_) (fun c_43 => ?_)
        · have c_43 : ¬ u21 = 0 := of_decide_eq_true c_43
          refine ml_blk 3 (S' := (88, [(0, .ref m0), (1, .int i22_1)], [.int i22_1, .int 19, .ref m0], M_22)) rfl ?_
          refine ml_call (a := [.ref m0, .int 19, .int i22_1]) (rest := []) rfl (hR_22.okc rfl rfl rfl) rfl rfl (rm_wrong hR_22 (by omega)) (fun v23 M24 h25 => ?_)
          obtain ⟨u31, I26, R27, rfl, hR28, hI29, hV30, z32, w33⟩ := h25
          show ml _ _ _ (91, [(0, .ref m0), (1, .int i22_1)], [.int u31], M24) _
          exact ml_ret rfl (r_z (z32)) (⟨_, _, _, rfl, hR28, ((eqI.rf.tr hI_22 (by decide)).tr hI29 (by decide)), ((eqR.rf.tr hV_22 (by decide)).tr hV30 (by decide)), z32, Or.inl w33⟩)
        · have c_43 : ¬ (¬ u21 = 0) := of_decide_eq_false c_43
          refine ml_blk 3 (S' := (51, [(5, .int (f2 f i22_1)), (0, .ref m0), (1, .int i22_1), (2, .int (f2 f fA)), (3, .int 0), (4, .int i22_4)], [.int ((f2 f i22_1) &&& 16)], M_22)) rfl ?_
          refine ml_if (S1 := (62, [(0, .ref m0), (1, .int i22_1), (2, .int (f2 f fA)), (3, .int 0), (4, .int i22_4), (5, .int (f2 f i22_1))], [], M_22)) (S2 := (54, [(5, .int (f2 f i22_1)), (0, .ref m0), (1, .int i22_1), (2, .int (f2 f fA)), (3, .int 0), (4, .int i22_4)], [], M_22)) rfl rfl rfl (fun c_51 => ?_) (fun c_51 => ?_)
          · have c_51 : ((f2 f i22_1) &&& 16) = 0 := of_decide_eq_true c_51
            refine ml_st (S' := (63, [(0, .ref m0), (1, .int i22_1), (2, .int (f2 f fA)), (3, .int 0), (4, .int i22_4), (5, .int (f2 f i22_1))], [.ref m0], M_22)) rfl rfl rfl ?_
            refine rg_int (S' := (66, [(0, .ref m0), (1, .int i22_1), (2, .int (f2 f fA)), (3, .int 0), (4, .int i22_4), (5, .int (f2 f i22_1))], [.int nf], M_22)) rfl hR_22 rfl ((hI_22 58 (by decide)).trans (hk58)) rfl ?_
            refine ml_blk 2 (S' := (70, [(0, .ref m0), (1, .int i22_1), (2, .int (f2 f fA)), (3, .int 0), (4, .int i22_4), (5, .int (f2 f i22_1))], [.int (nf &&& 512)], M_22)) rfl ?_
            have J_92 : ml (mT g) d (mb_189 g).2 (92, [(0, .ref m0), (1, .int i22_1), (2, .int (f2 f fA)), (3, .int 0), (4, .int i22_4), (5, .int (f2 f i22_1))], [], M_22) (fun v M' => ∃ (x : Int32) (I' : rI) (R' : rR), v = some (.int x) ∧ RS g m0 q z I' R' M' ∧ eqI [25, 47, 48] I I' ∧ eqR [27, 28, 29, 30, 31, 32, 33] R R' ∧ (x = 0 ∨ x = 1) ∧ (x = 0 ∨ ∃ k : Nat, k ≤ 8192 ∧ I' 25 = some (nI k) ∧ FKN k R')) := by
              refine ml_blk 3 (S' := (95, [(0, .ref m0), (1, .int i22_1), (2, .int (f2 f fA)), (3, .int 0), (4, .int i22_4), (5, .int (f2 f i22_1))], [.int i22_1, .ref m0, .ref m0], M_22)) rfl ?_
              refine ml_blk 2 (S' := (97, [(0, .ref m0), (1, .int i22_1), (2, .int (f2 f fA)), (3, .int 0), (4, .int i22_4), (5, .int (f2 f i22_1))], [.int (i22_1 + 2), .ref m0, .ref m0], M_22)) rfl ?_
              refine ml_call (a := [.ref m0, .int (i22_1 + 2)]) (rest := [.ref m0]) rfl (hR_22.okc rfl rfl rfl) rfl rfl (rm_u2 hR_22 hF14 (by omega) (by omega) (by omega)) (fun v34 M35 h36 => ?_)
              obtain ⟨rfl, h36⟩ := h36
              rw [h36]
              show ml _ _ _ (100, [(0, .ref m0), (1, .int i22_1), (2, .int (f2 f fA)), (3, .int 0), (4, .int i22_4), (5, .int (f2 f i22_1))], [.int (f2 f (i22_1 + 2)), .ref m0], M_22) _
              have hP37 : PK n f S cp mj pa py I_22 R_22 := (hP.mono (cIx hI_22 (by decide)) (cRx hV_22 (by decide)))
              refine ml_call (a := [.ref m0, .int (f2 f (i22_1 + 2))]) (rest := []) rfl (hR_22.okc rfl rfl rfl) rfl rfl (rm_tag hR_22 hF14 hP37 (by omega)) (fun v38 M39 h40 => ?_)
              obtain ⟨rfl, h40⟩ := h40
              rw [h40]
              show ml _ _ _ (103, [(0, .ref m0), (1, .int i22_1), (2, .int (f2 f fA)), (3, .int 0), (4, .int i22_4), (5, .int (f2 f i22_1))], [.int (tgf f cp pa (f2 f (i22_1 + 2)))], M_22) _
              refine ml_st (S' := (104, [(0, .ref m0), (1, .int i22_1), (2, .int (f2 f fA)), (3, .int 0), (4, .int i22_4), (5, .int (f2 f i22_1))], [.int 1, .int (tgf f cp pa (f2 f (i22_1 + 2)))], M_22)) rfl rfl rfl ?_
              refine ml_if2 (S1 := (126, [(0, .ref m0), (1, .int i22_1)], [], M_22)) (S2 := (107, [(0, .ref m0), (1, .int i22_1), (2, .int (f2 f fA)), (3, .int 0), (4, .int i22_4), (5, .int (f2 f i22_1))], [], M_22)) rfl rfl rfl (fun c_104 => ?_) (fun c_104 => ?_)
              · have c_104 : ¬ (tgf f cp pa (f2 f (i22_1 + 2))) = 1 := of_decide_eq_true c_104
                refine ml_blk 3 (S' := (130, [(0, .ref m0), (1, .int i22_1)], [.int i22_1, .int 20, .ref m0], M_22)) rfl ?_
                refine ml_blk 2 (S' := (132, [(0, .ref m0), (1, .int i22_1)], [.int (i22_1 + 2), .int 20, .ref m0], M_22)) rfl ?_
                refine ml_call (a := [.ref m0, .int 20, .int (i22_1 + 2)]) (rest := []) rfl (hR_22.okc rfl rfl rfl) rfl rfl (rm_wrong hR_22 (by omega)) (fun v41 M42 h43 => ?_)
                obtain ⟨u49, I44, R45, rfl, hR46, hI47, hV48, z50, w51⟩ := h43
                show ml _ _ _ (135, [(0, .ref m0), (1, .int i22_1)], [.int u49], M42) _
                exact ml_ret rfl (r_z (z50)) (⟨_, _, _, rfl, hR46, ((eqI.rf.tr hI_22 (by decide)).tr hI47 (by decide)), ((eqR.rf.tr hV_22 (by decide)).tr hV48 (by decide)), z50, Or.inl w51⟩)
              · have c_104 : ¬ (¬ (tgf f cp pa (f2 f (i22_1 + 2))) = 1) := of_decide_eq_false c_104
                have hyA := hP.y (show tgf f cp pa (f2 f (i22_1 + 2)) = 1 from Decidable.not_not.mp c_104)
                refine ml_blk 3 (S' := (110, [(0, .ref m0), (1, .int i22_1), (2, .int (f2 f fA)), (3, .int 0), (4, .int i22_4), (5, .int (f2 f i22_1))], [.ref m0, .ref m0, .ref m0], M_22)) rfl ?_
                refine ml_blk 3 (S' := (113, [(0, .ref m0), (1, .int i22_1), (2, .int (f2 f fA)), (3, .int 0), (4, .int i22_4), (5, .int (f2 f i22_1))], [.int (i22_1 + 2), .ref m0, .ref m0, .ref m0], M_22)) rfl ?_
                refine ml_call (a := [.ref m0, .int (i22_1 + 2)]) (rest := [.ref m0, .ref m0]) rfl (hR_22.okc rfl rfl rfl) rfl rfl (rm_u2 hR_22 hF14 (by omega) (by omega) (by omega)) (fun v52 M53 h54 => ?_)
                obtain ⟨rfl, h54⟩ := h54
                rw [h54]
                show ml _ _ _ (116, [(0, .ref m0), (1, .int i22_1), (2, .int (f2 f fA)), (3, .int 0), (4, .int i22_4), (5, .int (f2 f i22_1))], [.int (f2 f (i22_1 + 2)), .ref m0, .ref m0], M_22) _
                refine ml_call (a := [.ref m0, .int (f2 f (i22_1 + 2))]) (rest := [.ref m0]) rfl (hR_22.okc rfl rfl rfl) rfl rfl (rm_symOf hR_22 hP37 (Decidable.not_not.mp c_104) (by omega)) (fun v55 M56 h57 => ?_)
                obtain ⟨rfl, h57⟩ := h57
                rw [h57]
                show ml _ _ _ (119, [(0, .ref m0), (1, .int i22_1), (2, .int (f2 f fA)), (3, .int 0), (4, .int i22_4), (5, .int (f2 f i22_1))], [.int (pyf py (f2 f (i22_1 + 2))), .ref m0], M_22) _
                refine ml_st (S' := (120, [(0, .ref m0), (1, .int i22_1), (2, .int (f2 f fA)), (3, .int 0), (4, .int i22_4), (5, .int (f2 f i22_1))], [.int 1, .int (pyf py (f2 f (i22_1 + 2))), .ref m0], M_22)) rfl rfl rfl ?_
                have hY58 : SK S cN sa sl ch I_22 R_22 := (hY.mono (cIx hI_22 (by decide)) (cRx hV_22 (by decide)))
                refine ml_call (a := [.ref m0, .int (pyf py (f2 f (i22_1 + 2))), .int 1]) (rest := []) rfl (hR_22.okc rfl rfl rfl) rfl rfl (rm_unqualified hR_22 hY58 (hyA.2.2.1) (hyA.2.2.2) (by omega)) (fun v59 M60 h61 => ?_)
                obtain ⟨⟨u62, rfl, z63⟩, h61⟩ := h61
                rw [h61]
                show ml _ _ _ (123, [(0, .ref m0), (1, .int i22_1), (2, .int (f2 f fA)), (3, .int 0), (4, .int i22_4), (5, .int (f2 f i22_1))], [.int u62], M_22) _
                refine ml_if (S1 := (136, [(0, .ref m0), (1, .int i22_1), (2, .int (f2 f fA)), (3, .int 0), (4, .int i22_4), (5, .int (f2 f i22_1))], [], M_22)) (S2 := (126, [(0, .ref m0), (1, .int i22_1)], [], M_22)) rfl rfl rfl (fun c_123 => ?_) (fun c_123 => ?_)
                · have c_123 : ¬ u62 = 0 := of_decide_eq_true c_123
                  refine ml_blk 3 (S' := (139, [(0, .ref m0), (1, .int i22_1), (2, .int (f2 f fA)), (3, .int 0), (4, .int i22_4), (5, .int (f2 f i22_1))], [.int i22_1, .ref m0, .ref m0], M_22)) rfl ?_
                  refine ml_blk 2 (S' := (141, [(0, .ref m0), (1, .int i22_1), (2, .int (f2 f fA)), (3, .int 0), (4, .int i22_4), (5, .int (f2 f i22_1))], [.int (i22_1 + 4), .ref m0, .ref m0], M_22)) rfl ?_
                  refine ml_call (a := [.ref m0, .int (i22_1 + 4)]) (rest := [.ref m0]) rfl (hR_22.okc rfl rfl rfl) rfl rfl (rm_u2 hR_22 hF14 (by omega) (by omega) (by omega)) (fun v64 M65 h66 => ?_)
                  obtain ⟨rfl, h66⟩ := h66
                  rw [h66]
                  show ml _ _ _ (144, [(0, .ref m0), (1, .int i22_1), (2, .int (f2 f fA)), (3, .int 0), (4, .int i22_4), (5, .int (f2 f i22_1))], [.int (f2 f (i22_1 + 4)), .ref m0], M_22) _
                  refine ml_call (a := [.ref m0, .int (f2 f (i22_1 + 4))]) (rest := []) rfl (hR_22.okc rfl rfl rfl) rfl rfl (rm_tag hR_22 hF14 hP37 (by omega)) (fun v67 M68 h69 => ?_)
                  obtain ⟨rfl, h69⟩ := h69
                  rw [h69]
                  show ml _ _ _ (147, [(0, .ref m0), (1, .int i22_1), (2, .int (f2 f fA)), (3, .int 0), (4, .int i22_4), (5, .int (f2 f i22_1))], [.int (tgf f cp pa (f2 f (i22_1 + 4)))], M_22) _
                  refine ml_st (S' := (148, [(0, .ref m0), (1, .int i22_1), (2, .int (f2 f fA)), (3, .int 0), (4, .int i22_4), (5, .int (f2 f i22_1))], [.int 1, .int (tgf f cp pa (f2 f (i22_1 + 4)))], M_22)) rfl rfl rfl ?_
                  refine ml_if2 (S1 := (169, [(0, .ref m0), (1, .int i22_1)], [], M_22)) (S2 := (151, [(0, .ref m0), (1, .int i22_1), (2, .int (f2 f fA)), (3, .int 0), (4, .int i22_4), (5, .int (f2 f i22_1))], [], M_22)) rfl rfl rfl (fun c_148 => ?_) (fun c_148 => ?_)
                  · have c_148 : ¬ (tgf f cp pa (f2 f (i22_1 + 4))) = 1 := of_decide_eq_true c_148
                    refine ml_blk 3 (S' := (173, [(0, .ref m0), (1, .int i22_1)], [.int i22_1, .int 21, .ref m0], M_22)) rfl ?_
                    refine ml_blk 2 (S' := (175, [(0, .ref m0), (1, .int i22_1)], [.int (i22_1 + 4), .int 21, .ref m0], M_22)) rfl ?_
                    refine ml_call (a := [.ref m0, .int 21, .int (i22_1 + 4)]) (rest := []) rfl (hR_22.okc rfl rfl rfl) rfl rfl (rm_wrong hR_22 (by omega)) (fun v70 M71 h72 => ?_)
                    obtain ⟨u78, I73, R74, rfl, hR75, hI76, hV77, z79, w80⟩ := h72
                    show ml _ _ _ (178, [(0, .ref m0), (1, .int i22_1)], [.int u78], M71) _
                    exact ml_ret rfl (r_z (z79)) (⟨_, _, _, rfl, hR75, ((eqI.rf.tr hI_22 (by decide)).tr hI76 (by decide)), ((eqR.rf.tr hV_22 (by decide)).tr hV77 (by decide)), z79, Or.inl w80⟩)
                  · have c_148 : ¬ (¬ (tgf f cp pa (f2 f (i22_1 + 4))) = 1) := of_decide_eq_false c_148
                    have hyB := hP.y (show tgf f cp pa (f2 f (i22_1 + 4)) = 1 from Decidable.not_not.mp c_148)
                    refine ml_blk 3 (S' := (154, [(0, .ref m0), (1, .int i22_1), (2, .int (f2 f fA)), (3, .int 0), (4, .int i22_4), (5, .int (f2 f i22_1))], [.ref m0, .ref m0, .ref m0], M_22)) rfl ?_
                    refine ml_blk 3 (S' := (157, [(0, .ref m0), (1, .int i22_1), (2, .int (f2 f fA)), (3, .int 0), (4, .int i22_4), (5, .int (f2 f i22_1))], [.int (i22_1 + 4), .ref m0, .ref m0, .ref m0], M_22)) rfl ?_
                    refine ml_call (a := [.ref m0, .int (i22_1 + 4)]) (rest := [.ref m0, .ref m0]) rfl (hR_22.okc rfl rfl rfl) rfl rfl (rm_u2 hR_22 hF14 (by omega) (by omega) (by omega)) (fun v81 M82 h83 => ?_)
                    obtain ⟨rfl, h83⟩ := h83
                    rw [h83]
                    show ml _ _ _ (160, [(0, .ref m0), (1, .int i22_1), (2, .int (f2 f fA)), (3, .int 0), (4, .int i22_4), (5, .int (f2 f i22_1))], [.int (f2 f (i22_1 + 4)), .ref m0, .ref m0], M_22) _
                    refine ml_call (a := [.ref m0, .int (f2 f (i22_1 + 4))]) (rest := [.ref m0]) rfl (hR_22.okc rfl rfl rfl) rfl rfl (rm_symOf hR_22 hP37 (Decidable.not_not.mp c_148) (by omega)) (fun v84 M85 h86 => ?_)
                    obtain ⟨rfl, h86⟩ := h86
                    rw [h86]
                    show ml _ _ _ (163, [(0, .ref m0), (1, .int i22_1), (2, .int (f2 f fA)), (3, .int 0), (4, .int i22_4), (5, .int (f2 f i22_1))], [.int (pyf py (f2 f (i22_1 + 4))), .ref m0], M_22) _
                    refine ml_call (a := [.ref m0, .int (pyf py (f2 f (i22_1 + 4)))]) (rest := []) rfl (hR_22.okc rfl rfl rfl) rfl rfl (rm_isField hR_22 hY58 (hyB.2.2.1) (hyB.2.2.2) (by omega)) (fun v87 M88 h89 => ?_)
                    obtain ⟨⟨u90, rfl, z91, w92⟩, h89⟩ := h89
                    rw [h89]
                    show ml _ _ _ (166, [(0, .ref m0), (1, .int i22_1), (2, .int (f2 f fA)), (3, .int 0), (4, .int i22_4), (5, .int (f2 f i22_1))], [.int u90], M_22) _
                    refine ml_if (S1 := (179, [(0, .ref m0), (1, .int i22_1), (2, .int (f2 f fA)), (3, .int 0), (4, .int i22_4), (5, .int (f2 f i22_1))], [], M_22)) (S2 := (169, [(0, .ref m0), (1, .int i22_1)], [], M_22)) rfl rfl rfl (fun c_166 => ?_) (fun c_166 => ?_)
                    · have c_166 : ¬ u90 = 0 := of_decide_eq_true c_166
                      have hlnB := w92.resolve_left c_166
                      refine ml_st (S' := (180, [(0, .ref m0), (1, .int i22_1), (2, .int (f2 f fA)), (3, .int 0), (4, .int i22_4), (5, .int (f2 f i22_1))], [.ref m0], M_22)) rfl rfl rfl ?_
                      refine rg_int (S' := (183, [(0, .ref m0), (1, .int i22_1), (2, .int (f2 f fA)), (3, .int 0), (4, .int i22_4), (5, .int (f2 f i22_1))], [.int i22_4], M_22)) rfl hR_22 rfl (h25) rfl ?_
                      refine ml_st (S' := (185, [(6, .int i22_4), (0, .ref m0), (1, .int i22_1), (2, .int (f2 f fA)), (3, .int 0), (4, .int i22_4), (5, .int (f2 f i22_1))], [], M_22)) rfl rfl rfl ?_
                      refine ml_st (S' := (186, [(6, .int i22_4), (0, .ref m0), (1, .int i22_1), (2, .int (f2 f fA)), (3, .int 0), (4, .int i22_4), (5, .int (f2 f i22_1))], [.ref m0], M_22)) rfl rfl rfl ?_
                      refine rg_ref (S' := (189, [(6, .int i22_4), (0, .ref m0), (1, .int i22_1), (2, .int (f2 f fA)), (3, .int 0), (4, .int i22_4), (5, .int (f2 f i22_1))], [.ref (q 27)], M_22)) rfl hR_22 rfl rfl ?_
                      refine ml_blk 2 (S' := (193, [(6, .int i22_4), (0, .ref m0), (1, .int i22_1), (2, .int (f2 f fA)), (3, .int 0), (4, .int i22_4), (5, .int (f2 f i22_1))], [.int (f2 f i22_1), .int i22_4, .ref (q 27)], M_22)) rfl ?_
                      refine ra_st (k := 27) rfl hR_22 rfl (vin_lt hk0 (by omega)) (fun M93 R94 hR95 e96 g97 f98 => ?_)
                      show ml _ _ _ (194, [(6, .int i22_4), (0, .ref m0), (1, .int i22_1), (2, .int (f2 f fA)), (3, .int 0), (4, .int i22_4), (5, .int (f2 f i22_1))], [], M93) _
                      refine ml_st (S' := (195, [(6, .int i22_4), (0, .ref m0), (1, .int i22_1), (2, .int (f2 f fA)), (3, .int 0), (4, .int i22_4), (5, .int (f2 f i22_1))], [.ref m0], M93)) rfl rfl rfl ?_
                      refine rg_ref (S' := (198, [(6, .int i22_4), (0, .ref m0), (1, .int i22_1), (2, .int (f2 f fA)), (3, .int 0), (4, .int i22_4), (5, .int (f2 f i22_1))], [.ref (q 28)], M93)) rfl hR95 rfl rfl ?_
                      refine ml_blk 3 (S' := (202, [(6, .int i22_4), (0, .ref m0), (1, .int i22_1), (2, .int (f2 f fA)), (3, .int 0), (4, .int i22_4), (5, .int (f2 f i22_1))], [.ref m0, .ref m0, .int i22_4, .ref (q 28)], M93)) rfl ?_
                      refine ml_blk 3 (S' := (205, [(6, .int i22_4), (0, .ref m0), (1, .int i22_1), (2, .int (f2 f fA)), (3, .int 0), (4, .int i22_4), (5, .int (f2 f i22_1))], [.int (i22_1 + 2), .ref m0, .ref m0, .int i22_4, .ref (q 28)], M93)) rfl ?_
                      have hF99 : FK n f I_22 R94 := (hF14.mono (fun _ _ => rfl) (pRx f98 (by decide)))
                      refine ml_call (a := [.ref m0, .int (i22_1 + 2)]) (rest := [.ref m0, .int i22_4, .ref (q 28)]) rfl (hR95.okc rfl rfl rfl) rfl rfl (rm_u2 hR95 hF99 (by omega) (by omega) (by omega)) (fun v100 M101 h102 => ?_)
                      obtain ⟨rfl, h102⟩ := h102
                      rw [h102]
                      show ml _ _ _ (208, [(6, .int i22_4), (0, .ref m0), (1, .int i22_1), (2, .int (f2 f fA)), (3, .int 0), (4, .int i22_4), (5, .int (f2 f i22_1))], [.int (f2 f (i22_1 + 2)), .ref m0, .int i22_4, .ref (q 28)], M93) _
                      have hP103 : PK n f S cp mj pa py I_22 R94 := (hP37.mono (fun _ _ => rfl) (pRx f98 (by decide)))
                      refine ml_call (a := [.ref m0, .int (f2 f (i22_1 + 2))]) (rest := [.int i22_4, .ref (q 28)]) rfl (hR95.okc rfl rfl rfl) rfl rfl (rm_symOf hR95 hP103 (Decidable.not_not.mp c_104) (by omega)) (fun v104 M105 h106 => ?_)
                      obtain ⟨rfl, h106⟩ := h106
                      rw [h106]
                      show ml _ _ _ (211, [(6, .int i22_4), (0, .ref m0), (1, .int i22_1), (2, .int (f2 f fA)), (3, .int 0), (4, .int i22_4), (5, .int (f2 f i22_1))], [.int (pyf py (f2 f (i22_1 + 2))), .int i22_4, .ref (q 28)], M93) _
                      refine ra_st (k := 28) rfl hR95 rfl (vin_lt hk0 (by omega)) (fun M107 R108 hR109 e110 g111 f112 => ?_)
                      show ml _ _ _ (212, [(6, .int i22_4), (0, .ref m0), (1, .int i22_1), (2, .int (f2 f fA)), (3, .int 0), (4, .int i22_4), (5, .int (f2 f i22_1))], [], M107) _
                      refine ml_st (S' := (213, [(6, .int i22_4), (0, .ref m0), (1, .int i22_1), (2, .int (f2 f fA)), (3, .int 0), (4, .int i22_4), (5, .int (f2 f i22_1))], [.ref m0], M107)) rfl rfl rfl ?_
                      refine rg_ref (S' := (216, [(6, .int i22_4), (0, .ref m0), (1, .int i22_1), (2, .int (f2 f fA)), (3, .int 0), (4, .int i22_4), (5, .int (f2 f i22_1))], [.ref (q 29)], M107)) rfl hR109 rfl rfl ?_
                      refine ml_blk 3 (S' := (220, [(6, .int i22_4), (0, .ref m0), (1, .int i22_1), (2, .int (f2 f fA)), (3, .int 0), (4, .int i22_4), (5, .int (f2 f i22_1))], [.ref m0, .ref m0, .int i22_4, .ref (q 29)], M107)) rfl ?_
                      refine ml_blk 3 (S' := (223, [(6, .int i22_4), (0, .ref m0), (1, .int i22_1), (2, .int (f2 f fA)), (3, .int 0), (4, .int i22_4), (5, .int (f2 f i22_1))], [.int (i22_1 + 4), .ref m0, .ref m0, .int i22_4, .ref (q 29)], M107)) rfl ?_
                      have hF113 : FK n f I_22 R108 := (hF99.mono (fun _ _ => rfl) (pRx f112 (by decide)))
                      refine ml_call (a := [.ref m0, .int (i22_1 + 4)]) (rest := [.ref m0, .int i22_4, .ref (q 29)]) rfl (hR109.okc rfl rfl rfl) rfl rfl (rm_u2 hR109 hF113 (by omega) (by omega) (by omega)) (fun v114 M115 h116 => ?_)
                      obtain ⟨rfl, h116⟩ := h116
                      rw [h116]
                      show ml _ _ _ (226, [(6, .int i22_4), (0, .ref m0), (1, .int i22_1), (2, .int (f2 f fA)), (3, .int 0), (4, .int i22_4), (5, .int (f2 f i22_1))], [.int (f2 f (i22_1 + 4)), .ref m0, .int i22_4, .ref (q 29)], M107) _
                      have hP117 : PK n f S cp mj pa py I_22 R108 := (hP103.mono (fun _ _ => rfl) (pRx f112 (by decide)))
                      refine ml_call (a := [.ref m0, .int (f2 f (i22_1 + 4))]) (rest := [.int i22_4, .ref (q 29)]) rfl (hR109.okc rfl rfl rfl) rfl rfl (rm_symOf hR109 hP117 (Decidable.not_not.mp c_148) (by omega)) (fun v118 M119 h120 => ?_)
                      obtain ⟨rfl, h120⟩ := h120
                      rw [h120]
                      show ml _ _ _ (229, [(6, .int i22_4), (0, .ref m0), (1, .int i22_1), (2, .int (f2 f fA)), (3, .int 0), (4, .int i22_4), (5, .int (f2 f i22_1))], [.int (pyf py (f2 f (i22_1 + 4))), .int i22_4, .ref (q 29)], M107) _
                      refine ra_st (k := 29) rfl hR109 rfl (vin_lt hk0 (by omega)) (fun M121 R122 hR123 e124 g125 f126 => ?_)
                      show ml _ _ _ (230, [(6, .int i22_4), (0, .ref m0), (1, .int i22_1), (2, .int (f2 f fA)), (3, .int 0), (4, .int i22_4), (5, .int (f2 f i22_1))], [], M121) _
                      refine ml_st (S' := (231, [(6, .int i22_4), (0, .ref m0), (1, .int i22_1), (2, .int (f2 f fA)), (3, .int 0), (4, .int i22_4), (5, .int (f2 f i22_1))], [.ref m0], M121)) rfl rfl rfl ?_
                      refine rg_ref (S' := (234, [(6, .int i22_4), (0, .ref m0), (1, .int i22_1), (2, .int (f2 f fA)), (3, .int 0), (4, .int i22_4), (5, .int (f2 f i22_1))], [.ref (q 30)], M121)) rfl hR123 rfl rfl ?_
                      refine ml_blk 2 (S' := (237, [(6, .int i22_4), (0, .ref m0), (1, .int i22_1), (2, .int (f2 f fA)), (3, .int 0), (4, .int i22_4), (5, .int (f2 f i22_1))], [.int 0, .int i22_4, .ref (q 30)], M121)) rfl ?_
                      refine ra_st (k := 30) rfl hR123 rfl (vin_lt hk0 (by omega)) (fun M127 R128 hR129 e130 g131 f132 => ?_)
                      show ml _ _ _ (238, [(6, .int i22_4), (0, .ref m0), (1, .int i22_1), (2, .int (f2 f fA)), (3, .int 0), (4, .int i22_4), (5, .int (f2 f i22_1))], [], M127) _
                      refine ml_st (S' := (239, [(6, .int i22_4), (0, .ref m0), (1, .int i22_1), (2, .int (f2 f fA)), (3, .int 0), (4, .int i22_4), (5, .int (f2 f i22_1))], [.ref m0], M127)) rfl rfl rfl ?_
                      refine rg_ref (S' := (242, [(6, .int i22_4), (0, .ref m0), (1, .int i22_1), (2, .int (f2 f fA)), (3, .int 0), (4, .int i22_4), (5, .int (f2 f i22_1))], [.ref (q 31)], M127)) rfl hR129 rfl rfl ?_
                      refine ml_blk 2 (S' := (245, [(6, .int i22_4), (0, .ref m0), (1, .int i22_1), (2, .int (f2 f fA)), (3, .int 0), (4, .int i22_4), (5, .int (f2 f i22_1))], [.int 0, .int i22_4, .ref (q 31)], M127)) rfl ?_
                      refine ra_st (k := 31) rfl hR129 rfl (vin_lt hk0 (by omega)) (fun M133 R134 hR135 e136 g137 f138 => ?_)
                      show ml _ _ _ (246, [(6, .int i22_4), (0, .ref m0), (1, .int i22_1), (2, .int (f2 f fA)), (3, .int 0), (4, .int i22_4), (5, .int (f2 f i22_1))], [], M133) _
                      refine ml_st (S' := (247, [(6, .int i22_4), (0, .ref m0), (1, .int i22_1), (2, .int (f2 f fA)), (3, .int 0), (4, .int i22_4), (5, .int (f2 f i22_1))], [.ref m0], M133)) rfl rfl rfl ?_
                      refine rg_ref (S' := (250, [(6, .int i22_4), (0, .ref m0), (1, .int i22_1), (2, .int (f2 f fA)), (3, .int 0), (4, .int i22_4), (5, .int (f2 f i22_1))], [.ref (q 32)], M133)) rfl hR135 rfl rfl ?_
                      refine ml_blk 3 (S' := (254, [(6, .int i22_4), (0, .ref m0), (1, .int i22_1), (2, .int (f2 f fA)), (3, .int 0), (4, .int i22_4), (5, .int (f2 f i22_1))], [.int i22_1, .ref m0, .int i22_4, .ref (q 32)], M133)) rfl ?_
                      refine ml_blk 2 (S' := (256, [(6, .int i22_4), (0, .ref m0), (1, .int i22_1), (2, .int (f2 f fA)), (3, .int 0), (4, .int i22_4), (5, .int (f2 f i22_1))], [.int (i22_1 + 2), .ref m0, .int i22_4, .ref (q 32)], M133)) rfl ?_
                      have hF139 : FK n f I_22 R134 := (((hF113.mono (fun _ _ => rfl) (pRx f126 (by decide))).mono (fun _ _ => rfl) (pRx f132 (by decide))).mono (fun _ _ => rfl) (pRx f138 (by decide)))
                      refine ml_call (a := [.ref m0, .int (i22_1 + 2)]) (rest := [.int i22_4, .ref (q 32)]) rfl (hR135.okc rfl rfl rfl) rfl rfl (rm_u2 hR135 hF139 (by omega) (by omega) (by omega)) (fun v140 M141 h142 => ?_)
                      obtain ⟨rfl, h142⟩ := h142
                      rw [h142]
                      show ml _ _ _ (259, [(6, .int i22_4), (0, .ref m0), (1, .int i22_1), (2, .int (f2 f fA)), (3, .int 0), (4, .int i22_4), (5, .int (f2 f i22_1))], [.int (f2 f (i22_1 + 2)), .int i22_4, .ref (q 32)], M133) _
                      refine ra_st (k := 32) rfl hR135 rfl (vin_lt hk0 (by omega)) (fun M143 R144 hR145 e146 g147 f148 => ?_)
                      show ml _ _ _ (260, [(6, .int i22_4), (0, .ref m0), (1, .int i22_1), (2, .int (f2 f fA)), (3, .int 0), (4, .int i22_4), (5, .int (f2 f i22_1))], [], M143) _
                      refine ml_st (S' := (261, [(6, .int i22_4), (0, .ref m0), (1, .int i22_1), (2, .int (f2 f fA)), (3, .int 0), (4, .int i22_4), (5, .int (f2 f i22_1))], [.ref m0], M143)) rfl rfl rfl ?_
                      refine rg_ref (S' := (264, [(6, .int i22_4), (0, .ref m0), (1, .int i22_1), (2, .int (f2 f fA)), (3, .int 0), (4, .int i22_4), (5, .int (f2 f i22_1))], [.ref (q 33)], M143)) rfl hR145 rfl rfl ?_
                      refine ml_blk 3 (S' := (268, [(6, .int i22_4), (0, .ref m0), (1, .int i22_1), (2, .int (f2 f fA)), (3, .int 0), (4, .int i22_4), (5, .int (f2 f i22_1))], [.int i22_1, .ref m0, .int i22_4, .ref (q 33)], M143)) rfl ?_
                      refine ml_blk 2 (S' := (270, [(6, .int i22_4), (0, .ref m0), (1, .int i22_1), (2, .int (f2 f fA)), (3, .int 0), (4, .int i22_4), (5, .int (f2 f i22_1))], [.int (i22_1 + 4), .ref m0, .int i22_4, .ref (q 33)], M143)) rfl ?_
                      have hF149 : FK n f I_22 R144 := (hF139.mono (fun _ _ => rfl) (pRx f148 (by decide)))
                      refine ml_call (a := [.ref m0, .int (i22_1 + 4)]) (rest := [.int i22_4, .ref (q 33)]) rfl (hR145.okc rfl rfl rfl) rfl rfl (rm_u2 hR145 hF149 (by omega) (by omega) (by omega)) (fun v150 M151 h152 => ?_)
                      obtain ⟨rfl, h152⟩ := h152
                      rw [h152]
                      show ml _ _ _ (273, [(6, .int i22_4), (0, .ref m0), (1, .int i22_1), (2, .int (f2 f fA)), (3, .int 0), (4, .int i22_4), (5, .int (f2 f i22_1))], [.int (f2 f (i22_1 + 4)), .int i22_4, .ref (q 33)], M143) _
                      refine ra_st (k := 33) rfl hR145 rfl (vin_lt hk0 (by omega)) (fun M153 R154 hR155 e156 g157 f158 => ?_)
                      show ml _ _ _ (274, [(6, .int i22_4), (0, .ref m0), (1, .int i22_1), (2, .int (f2 f fA)), (3, .int 0), (4, .int i22_4), (5, .int (f2 f i22_1))], [], M153) _
                      refine ml_st (S' := (275, [(6, .int i22_4), (0, .ref m0), (1, .int i22_1), (2, .int (f2 f fA)), (3, .int 0), (4, .int i22_4), (5, .int (f2 f i22_1))], [.int 0], M153)) rfl rfl rfl ?_
                      refine ml_st (S' := (277, [(0, .ref m0), (1, .int i22_1), (2, .int (f2 f fA)), (3, .int 0), (4, .int i22_4), (6, .int i22_4), (7, .int 0)], [], M153)) rfl rfl rfl ?_
                      have L_277 : ∀ (n_277 : Nat) (i277_7 : Int32), (2147483648 - i277_7.toInt).toNat ≤ n_277 → 0 ≤ i277_7.toInt → ml (mT g) d (mb_189 g).2 (277, [(0, .ref m0), (1, .int i22_1), (2, .int (f2 f fA)), (3, .int 0), (4, .int i22_4), (6, .int i22_4), (7, .int i277_7)], [], M153) (fun v M' => ∃ (x : Int32) (I' : rI) (R' : rR), v = some (.int x) ∧ RS g m0 q z I' R' M' ∧ eqI [25, 47, 48] I I' ∧ eqR [27, 28, 29, 30, 31, 32, 33] R R' ∧ (x = 0 ∨ x = 1) ∧ (x = 0 ∨ ∃ k : Nat, k ≤ 8192 ∧ I' 25 = some (nI k) ∧ FKN k R')) := by
                        intro n_277
                        induction n_277 with
                        | zero => intro i277_7 hn; exact (loop_zero hn).elim
                        | succ n_277 ih_277 =>
                          intro i277_7 hn_277 hi_277
                          have hq0 := hi_277
                          refine ml_blk 2 (S' := (281, [(0, .ref m0), (1, .int i22_1), (2, .int (f2 f fA)), (3, .int 0), (4, .int i22_4), (6, .int i22_4), (7, .int i277_7)], [.int i22_4, .int i277_7], M153)) rfl ?_
                          refine ml_if2 (S1 := (332, [(0, .ref m0), (1, .int i22_1), (2, .int (f2 f fA)), (3, .int 0), (4, .int i22_4), (6, .int i22_4), (7, .int i277_7)], [], M153)) (S2 := (284, [(0, .ref m0), (1, .int i22_1), (2, .int (f2 f fA)), (3, .int 0), (4, .int i22_4), (6, .int i22_4), (7, .int i277_7)], [], M153)) rfl rfl rfl (fun c_281 => ?_) (fun c_281 => ?_)
                          · have c_281 : i22_4 ≤ i277_7 := of_decide_eq_true c_281
                            refine ml_blk 2 (S' := (334, [(0, .ref m0), (1, .int i22_1), (2, .int (f2 f fA)), (3, .int 0), (4, .int i22_4), (6, .int i22_4), (7, .int i277_7)], [.ref m0, .ref m0], M153)) rfl ?_
                            refine rg_int (S' := (337, [(0, .ref m0), (1, .int i22_1), (2, .int (f2 f fA)), (3, .int 0), (4, .int i22_4), (6, .int i22_4), (7, .int i277_7)], [.int i22_4, .ref m0], M153)) rfl hR155 rfl (h25) rfl ?_
                            refine ml_blk 2 (S' := (339, [(0, .ref m0), (1, .int i22_1), (2, .int (f2 f fA)), (3, .int 0), (4, .int i22_4), (6, .int i22_4), (7, .int i277_7)], [.int (i22_4 + 1), .ref m0], M153)) rfl ?_
                            refine rp_int rfl hR155 rfl (fun M159 I160 hR161 e162 f163 => ?_)
                            show ml _ _ _ (342, [(0, .ref m0), (1, .int i22_1), (2, .int (f2 f fA)), (3, .int 0), (4, .int i22_4), (6, .int i22_4), (7, .int i277_7)], [], M159) _
                            refine ml_blk 3 (S' := (346, [(0, .ref m0), (1, .int i22_1), (2, .int (f2 f fA)), (3, .int 0), (4, .int i22_4), (6, .int i22_4), (7, .int i277_7)], [.int 6, .int i22_1, .ref m0], M159)) rfl ?_
                            refine ml_blk 3 (S' := (350, [(0, .ref m0), (1, .int i22_1), (2, .int (f2 f fA)), (3, .int 0), (4, .int i22_4), (6, .int i22_4), (7, .int i277_7)], [.int i22_4, .int 1, .int (i22_1 + 6), .ref m0], M159)) rfl ?_
                            have hF164 : FK n f I160 R154 := ((hF149.mono (fun _ _ => rfl) (pRx f158 (by decide))).mono (pIx f163 (by decide)) (fun _ _ => rfl))
                            have hY165 : SK S cN sa sl ch I160 R154 := ((((((((hY58.mono (fun _ _ => rfl) (pRx f98 (by decide))).mono (fun _ _ => rfl) (pRx f112 (by decide))).mono (fun _ _ => rfl) (pRx f126 (by decide))).mono (fun _ _ => rfl) (pRx f132 (by decide))).mono (fun _ _ => rfl) (pRx f138 (by decide))).mono (fun _ _ => rfl) (pRx f148 (by decide))).mono (fun _ _ => rfl) (pRx f158 (by decide))).mono (pIx f163 (by decide)) (fun _ _ => rfl))
                            have hP166 : PK n f S cp mj pa py I160 R154 := ((((((hP117.mono (fun _ _ => rfl) (pRx f126 (by decide))).mono (fun _ _ => rfl) (pRx f132 (by decide))).mono (fun _ _ => rfl) (pRx f138 (by decide))).mono (fun _ _ => rfl) (pRx f148 (by decide))).mono (fun _ _ => rfl) (pRx f158 (by decide))).mono (pIx f163 (by decide)) (fun _ _ => rfl))
                            have hK167 : KW I160 R154 := (((((((((hK.mono (cIx hI_22 (by decide)) (cRx hV_22 (by decide))).mono (fun _ _ => rfl) (pRx f98 (by decide))).mono (fun _ _ => rfl) (pRx f112 (by decide))).mono (fun _ _ => rfl) (pRx f126 (by decide))).mono (fun _ _ => rfl) (pRx f132 (by decide))).mono (fun _ _ => rfl) (pRx f138 (by decide))).mono (fun _ _ => rfl) (pRx f148 (by decide))).mono (fun _ _ => rfl) (pRx f158 (by decide))).mono (pIx f163 (by decide)) (fun _ _ => rfl))
                            refine ml_call (a := [.ref m0, .int (i22_1 + 6), .int 1, .int i22_4]) (rest := []) rfl (hR161.okc rfl rfl rfl) rfl rfl (rm_checkAttributes1 hR161 hF164 hY165 hP166 hK167 (rfl) (g2) (hk0) (hk8) ((congrFun ((f158 27 (by decide)).trans ((f148 27 (by decide)).trans ((f138 27 (by decide)).trans ((f132 27 (by decide)).trans ((f126 27 (by decide)).trans ((f112 27 (by decide)))))))) _).trans e96) ((congrFun ((f158 29 (by decide)).trans ((f148 29 (by decide)).trans ((f138 29 (by decide)).trans ((f132 29 (by decide)))))) _).trans e124) (hyB.2.2.1) (hyB.2.2.2) (hlnB) (fun k hk => by simp only [List.mem_cons, List.not_mem_nil, or_false] at hk; rcases hk with rfl | rfl; exact ⟨_, (congrFun ((f158 30 (by decide)).trans ((f148 30 (by decide)).trans ((f138 30 (by decide))))) _).trans e130⟩; exact ⟨_, (congrFun ((f158 31 (by decide)).trans ((f148 31 (by decide)))) _).trans e136⟩) (by omega)) (fun v168 M169 h170 => ?_)
                            obtain ⟨u176, I171, R172, rfl, hR173, hI174, hV175, w177⟩ := h170
                            show ml _ _ _ (353, [(0, .ref m0), (1, .int i22_1), (2, .int (f2 f fA)), (3, .int 0), (4, .int i22_4), (6, .int i22_4), (7, .int i277_7)], [.int u176], M169) _
                            obtain ⟨hend, hpw9, hkn9⟩ := w177
                            refine ml_st (S' := (354, [(1, .int u176), (0, .ref m0), (2, .int (f2 f fA)), (3, .int 0), (4, .int i22_4), (6, .int i22_4), (7, .int i277_7)], [], M169)) rfl rfl rfl ?_
                            refine ml_st (S' := (355, [(1, .int u176), (0, .ref m0), (2, .int (f2 f fA)), (3, .int 0), (4, .int i22_4), (6, .int i22_4), (7, .int i277_7)], [.int u176], M169)) rfl rfl rfl ?_
                            refine ml_if (S1 := (360, [(1, .int u176), (0, .ref m0), (2, .int (f2 f fA)), (3, .int 0), (4, .int i22_4), (6, .int i22_4), (7, .int i277_7)], [], M169)) (S2 := (358, [(1, .int u176), (0, .ref m0), (2, .int (f2 f fA)), (3, .int 0), (4, .int i22_4), (6, .int i22_4), (7, .int i277_7)], [], M169)) rfl rfl rfl (fun c_355 => ?_) (fun c_355 => ?_)
                            · have c_355 : 0 ≤ u176 := of_decide_eq_true c_355
                              have hub : u176 = b1 := hend.resolve_left (fun q => by have := i_le c_355; have : (0 : Int32).toInt = 0 := rfl; omega)
                              have hfk2 : FKN (i22_4.toInt.toNat + 1) R172 := FKN.step (k := i22_4.toInt.toNat) hfk ((((((((pw.rf.st g97 f98 rfl).st g111 f112 rfl).st g125 f126 rfl).st g131 f132 rfl).st g137 f138 rfl).st g147 f148 rfl).st g157 f158 rfl).tr hpw9) (fun k hk => by simp only [List.mem_cons, List.not_mem_nil, or_false] at hk; rcases hk with rfl | rfl | rfl | rfl | rfl | rfl | rfl; exact ⟨_, (congrFun ((hV175 27 (by decide)).trans ((f158 27 (by decide)).trans ((f148 27 (by decide)).trans ((f138 27 (by decide)).trans ((f132 27 (by decide)).trans ((f126 27 (by decide)).trans ((f112 27 (by decide))))))))) _).trans e96⟩; exact ⟨_, (congrFun ((hV175 28 (by decide)).trans ((f158 28 (by decide)).trans ((f148 28 (by decide)).trans ((f138 28 (by decide)).trans ((f132 28 (by decide)).trans ((f126 28 (by decide)))))))) _).trans e110⟩; exact ⟨_, (congrFun ((hV175 29 (by decide)).trans ((f158 29 (by decide)).trans ((f148 29 (by decide)).trans ((f138 29 (by decide)).trans ((f132 29 (by decide))))))) _).trans e124⟩; exact hkn9 30 (by decide); exact hkn9 31 (by decide); exact ⟨_, (congrFun ((hV175 32 (by decide)).trans ((f158 32 (by decide)))) _).trans e146⟩; exact ⟨_, (congrFun ((hV175 33 (by decide))) _).trans e156⟩)
                              refine ml_st (S' := (363, [(4, .int (i22_4 + 1)), (1, .int u176), (0, .ref m0), (2, .int (f2 f fA)), (3, .int 0), (6, .int i22_4), (7, .int i277_7)], [], M169)) rfl rfl rfl ?_
                              refine ml_st (S' := (22, [(0, .ref m0), (1, .int u176), (2, .int (f2 f fA)), (3, .int 0), (4, .int (i22_4 + 1))], [], M169)) rfl rfl rfl ?_
                              exact ih_22 u176 (i22_4 + 1) _ _ _ (loop_inc (Int32.not_le.mp c_25) hn_22) hR173 (((eqI.rf.tr hI_22 (by decide)).put f163 (by decide)).tr hI174 (by decide)) (((((((((eqR.rf.tr hV_22 (by decide)).put f98 (by decide)).put f112 (by decide)).put f126 (by decide)).put f132 (by decide)).put f138 (by decide)).put f148 (by decide)).put f158 (by decide)).tr hV175 (by decide)) (⟨by rw [inc_lt (Int32.not_le.mp c_25)]; omega, by rw [inc_lt (Int32.not_le.mp c_25)]; omega, (hI174 25 (by decide)).trans (e162), by rw [hub]; exact hnx, by rw [hub, inc_lt (Int32.not_le.mp c_25)]; have q := hg.1; omega, by rw [show (i22_4 + 1).toInt.toNat = i22_4.toInt.toNat + 1 by rw [inc_lt (Int32.not_le.mp c_25)]; omega]; exact hfk2⟩)
                            · have c_355 : ¬ (0 ≤ u176) := of_decide_eq_false c_355
                              refine ml_st (S' := (359, [(1, .int u176), (0, .ref m0), (2, .int (f2 f fA)), (3, .int 0), (4, .int i22_4), (6, .int i22_4), (7, .int i277_7)], [.int 0], M169)) rfl rfl rfl ?_
                              exact ml_ret rfl (r_z (Or.inl rfl)) (⟨_, _, _, rfl, hR173, (((eqI.rf.tr hI_22 (by decide)).put f163 (by decide)).tr hI174 (by decide)), (((((((((eqR.rf.tr hV_22 (by decide)).put f98 (by decide)).put f112 (by decide)).put f126 (by decide)).put f132 (by decide)).put f138 (by decide)).put f148 (by decide)).put f158 (by decide)).tr hV175 (by decide)), Or.inl rfl, Or.inl rfl⟩)
                          · have c_281 : ¬ (i22_4 ≤ i277_7) := of_decide_eq_false c_281
                            have hql := i_nle c_281
                            refine ml_st (S' := (285, [(0, .ref m0), (1, .int i22_1), (2, .int (f2 f fA)), (3, .int 0), (4, .int i22_4), (6, .int i22_4), (7, .int i277_7)], [.ref m0], M153)) rfl rfl rfl ?_
                            refine rg_ref (S' := (288, [(0, .ref m0), (1, .int i22_1), (2, .int (f2 f fA)), (3, .int 0), (4, .int i22_4), (6, .int i22_4), (7, .int i277_7)], [.ref (q 28)], M153)) rfl hR155 rfl rfl ?_
                            refine ml_st (S' := (290, [(0, .ref m0), (1, .int i22_1), (2, .int (f2 f fA)), (3, .int 0), (4, .int i22_4), (6, .int i22_4), (7, .int i277_7)], [.int i277_7, .ref (q 28)], M153)) rfl rfl rfl ?_
                            obtain ⟨v178, hv179⟩ := hfk i277_7.toNatClampNeg (by show i277_7.toInt.toNat < i22_4.toInt.toNat; omega) 28 (by decide)
                            have q180 : pw i22_4.toNatClampNeg R_22 R154 := (((((((pw.rf.st g97 f98 rfl).st g111 f112 rfl).st g125 f126 rfl).st g131 f132 rfl).st g137 f138 rfl).st g147 f148 rfl).st g157 f158 rfl)
                            refine ra_ld (k := 28) (S' := (291, [(0, .ref m0), (1, .int i22_1), (2, .int (f2 f fA)), (3, .int 0), (4, .int i22_4), (6, .int i22_4), (7, .int i277_7)], [.int v178], M153)) rfl hR155 rfl (vin_lt hq0 (by omega)) ((q180 28 _ (by show i277_7.toInt.toNat ≠ i22_4.toInt.toNat; omega)).trans hv179) rfl ?_
                            refine ml_st (S' := (292, [(0, .ref m0), (1, .int i22_1), (2, .int (f2 f fA)), (3, .int 0), (4, .int i22_4), (6, .int i22_4), (7, .int i277_7)], [.ref m0, .int v178], M153)) rfl rfl rfl ?_
                            refine rg_ref (S' := (295, [(0, .ref m0), (1, .int i22_1), (2, .int (f2 f fA)), (3, .int 0), (4, .int i22_4), (6, .int i22_4), (7, .int i277_7)], [.ref (q 28), .int v178], M153)) rfl hR155 rfl rfl ?_
                            refine ml_st (S' := (297, [(0, .ref m0), (1, .int i22_1), (2, .int (f2 f fA)), (3, .int 0), (4, .int i22_4), (6, .int i22_4), (7, .int i277_7)], [.int i22_4, .ref (q 28), .int v178], M153)) rfl rfl rfl ?_
                            refine ra_ld (k := 28) (S' := (298, [(0, .ref m0), (1, .int i22_1), (2, .int (f2 f fA)), (3, .int 0), (4, .int i22_4), (6, .int i22_4), (7, .int i277_7)], [.int (pyf py (f2 f (i22_1 + 2))), .int v178], M153)) rfl hR155 rfl (vin_lt hk0 (by omega)) ((congrFun ((f158 28 (by decide)).trans ((f148 28 (by decide)).trans ((f138 28 (by decide)).trans ((f132 28 (by decide)).trans ((f126 28 (by decide))))))) _).trans e110) rfl ?_
                            refine ml_if2 (S1 := (326, [(0, .ref m0), (1, .int i22_1), (2, .int (f2 f fA)), (3, .int 0), (4, .int i22_4), (6, .int i22_4), (7, .int i277_7)], [], M153)) (S2 := (301, [(0, .ref m0), (1, .int i22_1), (2, .int (f2 f fA)), (3, .int 0), (4, .int i22_4), (6, .int i22_4), (7, .int i277_7)], [], M153)) rfl rfl rfl (fun c_298 => ?_) (fun c_298 => ?_)
                            · have c_298 : ¬ v178 = (pyf py (f2 f (i22_1 + 2))) := of_decide_eq_true c_298
                              refine ml_st (S' := (329, [(7, .int (i277_7 + 1)), (0, .ref m0), (1, .int i22_1), (2, .int (f2 f fA)), (3, .int 0), (4, .int i22_4), (6, .int i22_4)], [], M153)) rfl rfl rfl ?_
                              refine ml_st (S' := (277, [(0, .ref m0), (1, .int i22_1), (2, .int (f2 f fA)), (3, .int 0), (4, .int i22_4), (6, .int i22_4), (7, .int (i277_7 + 1))], [], M153)) rfl rfl rfl ?_
                              exact ih_277 (i277_7 + 1) (loop_inc (Int32.not_le.mp c_281) hn_277) (by rw [inc_lt (Int32.not_le.mp c_281)]; omega)
                            · have c_298 : ¬ (¬ v178 = (pyf py (f2 f (i22_1 + 2)))) := of_decide_eq_false c_298
                              refine ml_st (S' := (302, [(0, .ref m0), (1, .int i22_1), (2, .int (f2 f fA)), (3, .int 0), (4, .int i22_4), (6, .int i22_4), (7, .int i277_7)], [.ref m0], M153)) rfl rfl rfl ?_
                              refine rg_ref (S' := (305, [(0, .ref m0), (1, .int i22_1), (2, .int (f2 f fA)), (3, .int 0), (4, .int i22_4), (6, .int i22_4), (7, .int i277_7)], [.ref (q 29)], M153)) rfl hR155 rfl rfl ?_
                              refine ml_st (S' := (307, [(0, .ref m0), (1, .int i22_1), (2, .int (f2 f fA)), (3, .int 0), (4, .int i22_4), (6, .int i22_4), (7, .int i277_7)], [.int i277_7, .ref (q 29)], M153)) rfl rfl rfl ?_
                              obtain ⟨v181, hv182⟩ := hfk i277_7.toNatClampNeg (by show i277_7.toInt.toNat < i22_4.toInt.toNat; omega) 29 (by decide)
                              have q183 : pw i22_4.toNatClampNeg R_22 R154 := (((((((pw.rf.st g97 f98 rfl).st g111 f112 rfl).st g125 f126 rfl).st g131 f132 rfl).st g137 f138 rfl).st g147 f148 rfl).st g157 f158 rfl)
                              refine ra_ld (k := 29) (S' := (308, [(0, .ref m0), (1, .int i22_1), (2, .int (f2 f fA)), (3, .int 0), (4, .int i22_4), (6, .int i22_4), (7, .int i277_7)], [.int v181], M153)) rfl hR155 rfl (vin_lt hq0 (by omega)) ((q183 29 _ (by show i277_7.toInt.toNat ≠ i22_4.toInt.toNat; omega)).trans hv182) rfl ?_
                              refine ml_st (S' := (309, [(0, .ref m0), (1, .int i22_1), (2, .int (f2 f fA)), (3, .int 0), (4, .int i22_4), (6, .int i22_4), (7, .int i277_7)], [.ref m0, .int v181], M153)) rfl rfl rfl ?_
                              refine rg_ref (S' := (312, [(0, .ref m0), (1, .int i22_1), (2, .int (f2 f fA)), (3, .int 0), (4, .int i22_4), (6, .int i22_4), (7, .int i277_7)], [.ref (q 29), .int v181], M153)) rfl hR155 rfl rfl ?_
                              refine ml_st (S' := (314, [(0, .ref m0), (1, .int i22_1), (2, .int (f2 f fA)), (3, .int 0), (4, .int i22_4), (6, .int i22_4), (7, .int i277_7)], [.int i22_4, .ref (q 29), .int v181], M153)) rfl rfl rfl ?_
                              refine ra_ld (k := 29) (S' := (315, [(0, .ref m0), (1, .int i22_1), (2, .int (f2 f fA)), (3, .int 0), (4, .int i22_4), (6, .int i22_4), (7, .int i277_7)], [.int (pyf py (f2 f (i22_1 + 4))), .int v181], M153)) rfl hR155 rfl (vin_lt hk0 (by omega)) ((congrFun ((f158 29 (by decide)).trans ((f148 29 (by decide)).trans ((f138 29 (by decide)).trans ((f132 29 (by decide)))))) _).trans e124) rfl ?_
                              refine ml_if2 (S1 := (326, [(0, .ref m0), (1, .int i22_1), (2, .int (f2 f fA)), (3, .int 0), (4, .int i22_4), (6, .int i22_4), (7, .int i277_7)], [], M153)) (S2 := (318, [(0, .ref m0), (1, .int i22_1), (2, .int (f2 f fA)), (3, .int 0), (4, .int i22_4), (6, .int i22_4), (7, .int i277_7)], [], M153)) rfl rfl rfl (fun c_315 => ?_) (fun c_315 => ?_)
                              · have c_315 : ¬ v181 = (pyf py (f2 f (i22_1 + 4))) := of_decide_eq_true c_315
                                refine ml_st (S' := (329, [(7, .int (i277_7 + 1)), (0, .ref m0), (1, .int i22_1), (2, .int (f2 f fA)), (3, .int 0), (4, .int i22_4), (6, .int i22_4)], [], M153)) rfl rfl rfl ?_
                                refine ml_st (S' := (277, [(0, .ref m0), (1, .int i22_1), (2, .int (f2 f fA)), (3, .int 0), (4, .int i22_4), (6, .int i22_4), (7, .int (i277_7 + 1))], [], M153)) rfl rfl rfl ?_
                                exact ih_277 (i277_7 + 1) (loop_inc (Int32.not_le.mp c_281) hn_277) (by rw [inc_lt (Int32.not_le.mp c_281)]; omega)
                              · have c_315 : ¬ (¬ v181 = (pyf py (f2 f (i22_1 + 4)))) := of_decide_eq_false c_315
                                refine ml_blk 3 (S' := (322, [(0, .ref m0), (1, .int i22_1), (2, .int (f2 f fA)), (3, .int 0), (4, .int i22_4), (6, .int i22_4), (7, .int i277_7)], [.int i22_1, .int 22, .ref m0], M153)) rfl ?_
                                refine ml_call (a := [.ref m0, .int 22, .int i22_1]) (rest := []) rfl (hR155.okc rfl rfl rfl) rfl rfl (rm_wrong hR155 (by omega)) (fun v184 M185 h186 => ?_)
                                obtain ⟨u192, I187, R188, rfl, hR189, hI190, hV191, z193, w194⟩ := h186
                                show ml _ _ _ (325, [(0, .ref m0), (1, .int i22_1), (2, .int (f2 f fA)), (3, .int 0), (4, .int i22_4), (6, .int i22_4), (7, .int i277_7)], [.int u192], M185) _
                                exact ml_ret rfl (r_z (z193)) (⟨_, _, _, rfl, hR189, ((eqI.rf.tr hI_22 (by decide)).tr hI190 (by decide)), (((((((((eqR.rf.tr hV_22 (by decide)).put f98 (by decide)).put f112 (by decide)).put f126 (by decide)).put f132 (by decide)).put f138 (by decide)).put f148 (by decide)).put f158 (by decide)).tr hV191 (by decide)), z193, Or.inl w194⟩)
                      exact L_277 _ 0 (Nat.le_refl _) (by decide)
                    · have c_166 : ¬ (¬ u90 = 0) := of_decide_eq_false c_166
                      refine ml_blk 3 (S' := (173, [(0, .ref m0), (1, .int i22_1)], [.int i22_1, .int 21, .ref m0], M_22)) rfl ?_
                      refine ml_blk 2 (S' := (175, [(0, .ref m0), (1, .int i22_1)], [.int (i22_1 + 4), .int 21, .ref m0], M_22)) rfl ?_
                      refine ml_call (a := [.ref m0, .int 21, .int (i22_1 + 4)]) (rest := []) rfl (hR_22.okc rfl rfl rfl) rfl rfl (rm_wrong hR_22 (by omega)) (fun v195 M196 h197 => ?_)
                      obtain ⟨u203, I198, R199, rfl, hR200, hI201, hV202, z204, w205⟩ := h197
                      show ml _ _ _ (178, [(0, .ref m0), (1, .int i22_1)], [.int u203], M196) _
                      exact ml_ret rfl (r_z (z204)) (⟨_, _, _, rfl, hR200, ((eqI.rf.tr hI_22 (by decide)).tr hI201 (by decide)), ((eqR.rf.tr hV_22 (by decide)).tr hV202 (by decide)), z204, Or.inl w205⟩)
                · have c_123 : ¬ (¬ u62 = 0) := of_decide_eq_false c_123
                  refine ml_blk 3 (S' := (130, [(0, .ref m0), (1, .int i22_1)], [.int i22_1, .int 20, .ref m0], M_22)) rfl ?_
                  refine ml_blk 2 (S' := (132, [(0, .ref m0), (1, .int i22_1)], [.int (i22_1 + 2), .int 20, .ref m0], M_22)) rfl ?_
                  refine ml_call (a := [.ref m0, .int 20, .int (i22_1 + 2)]) (rest := []) rfl (hR_22.okc rfl rfl rfl) rfl rfl (rm_wrong hR_22 (by omega)) (fun v206 M207 h208 => ?_)
                  obtain ⟨u214, I209, R210, rfl, hR211, hI212, hV213, z215, w216⟩ := h208
                  show ml _ _ _ (135, [(0, .ref m0), (1, .int i22_1)], [.int u214], M207) _
                  exact ml_ret rfl (r_z (z215)) (⟨_, _, _, rfl, hR211, ((eqI.rf.tr hI_22 (by decide)).tr hI212 (by decide)), ((eqR.rf.tr hV_22 (by decide)).tr hV213 (by decide)), z215, Or.inl w216⟩)
            refine ml_if (S1 := (92, [(0, .ref m0), (1, .int i22_1), (2, .int (f2 f fA)), (3, .int 0), (4, .int i22_4), (5, .int (f2 f i22_1))], [], M_22)) (S2 := (73, [(0, .ref m0), (1, .int i22_1), (2, .int (f2 f fA)), (3, .int 0), (4, .int i22_4), (5, .int (f2 f i22_1))], [], M_22)) rfl rfl rfl (fun c_70 => ?_) (fun c_70 => ?_)
            · have c_70 : (nf &&& 512) = 0 := of_decide_eq_true c_70
              exact J_92 
            · have c_70 : ¬ ((nf &&& 512) = 0) := of_decide_eq_false c_70
              refine ml_blk 3 (S' := (79, [(0, .ref m0), (1, .int i22_1), (2, .int (f2 f fA)), (3, .int 0), (4, .int i22_4), (5, .int (f2 f i22_1))], [.int ((f2 f i22_1) &&& 16607)], M_22)) rfl ?_
              refine ml_st (S' := (81, [(0, .ref m0), (1, .int i22_1), (2, .int (f2 f fA)), (3, .int 0), (4, .int i22_4), (5, .int (f2 f i22_1))], [.int 25, .int ((f2 f i22_1) &&& 16607)], M_22)) rfl rfl rfl ?_
              refine ml_if2 (S1 := (92, [(0, .ref m0), (1, .int i22_1), (2, .int (f2 f fA)), (3, .int 0), (4, .int i22_4), (5, .int (f2 f i22_1))], [], M_22)) (S2 := (84, [(0, .ref m0), (1, .int i22_1)], [], M_22)) rfl rfl rfl (fun c_81 => ?_) (fun c_81 => ?_)
              · have c_81 : ((f2 f i22_1) &&& 16607) = 25 := of_decide_eq_true c_81
                exact J_92 
              · have c_81 : ¬ (((f2 f i22_1) &&& 16607) = 25) := of_decide_eq_false c_81
                refine ml_blk 3 (S' := (88, [(0, .ref m0), (1, .int i22_1)], [.int i22_1, .int 19, .ref m0], M_22)) rfl ?_
                refine ml_call (a := [.ref m0, .int 19, .int i22_1]) (rest := []) rfl (hR_22.okc rfl rfl rfl) rfl rfl (rm_wrong hR_22 (by omega)) (fun v217 M218 h219 => ?_)
                obtain ⟨u225, I220, R221, rfl, hR222, hI223, hV224, z226, w227⟩ := h219
                show ml _ _ _ (91, [(0, .ref m0), (1, .int i22_1)], [.int u225], M218) _
                exact ml_ret rfl (r_z (z226)) (⟨_, _, _, rfl, hR222, ((eqI.rf.tr hI_22 (by decide)).tr hI223 (by decide)), ((eqR.rf.tr hV_22 (by decide)).tr hV224 (by decide)), z226, Or.inl w227⟩)
          · have c_51 : ¬ (((f2 f i22_1) &&& 16) = 0) := of_decide_eq_false c_51
            refine ml_blk 3 (S' := (59, [(5, .int (f2 f i22_1)), (0, .ref m0), (1, .int i22_1), (2, .int (f2 f fA)), (3, .int 0), (4, .int i22_4)], [.int ((f2 f i22_1) &&& 64)], M_22)) rfl ?_
            refine ml_if (S1 := (84, [(0, .ref m0), (1, .int i22_1)], [], M_22)) (S2 := (62, [(0, .ref m0), (1, .int i22_1), (2, .int (f2 f fA)), (3, .int 0), (4, .int i22_4), (5, .int (f2 f i22_1))], [], M_22)) rfl rfl rfl (fun c_59 => ?_) (fun c_59 => ?_)
            · have c_59 : ¬ ((f2 f i22_1) &&& 64) = 0 := of_decide_eq_true c_59
              refine ml_blk 3 (S' := (88, [(0, .ref m0), (1, .int i22_1)], [.int i22_1, .int 19, .ref m0], M_22)) rfl ?_
              refine ml_call (a := [.ref m0, .int 19, .int i22_1]) (rest := []) rfl (hR_22.okc rfl rfl rfl) rfl rfl (rm_wrong hR_22 (by omega)) (fun v228 M229 h230 => ?_)
              obtain ⟨u236, I231, R232, rfl, hR233, hI234, hV235, z237, w238⟩ := h230
              show ml _ _ _ (91, [(0, .ref m0), (1, .int i22_1)], [.int u236], M229) _
              exact ml_ret rfl (r_z (z237)) (⟨_, _, _, rfl, hR233, ((eqI.rf.tr hI_22 (by decide)).tr hI234 (by decide)), ((eqR.rf.tr hV_22 (by decide)).tr hV235 (by decide)), z237, Or.inl w238⟩)
            · have c_59 : ¬ (¬ ((f2 f i22_1) &&& 64) = 0) := of_decide_eq_false c_59
              refine ml_st (S' := (63, [(0, .ref m0), (1, .int i22_1), (2, .int (f2 f fA)), (3, .int 0), (4, .int i22_4), (5, .int (f2 f i22_1))], [.ref m0], M_22)) rfl rfl rfl ?_
              refine rg_int (S' := (66, [(0, .ref m0), (1, .int i22_1), (2, .int (f2 f fA)), (3, .int 0), (4, .int i22_4), (5, .int (f2 f i22_1))], [.int nf], M_22)) rfl hR_22 rfl ((hI_22 58 (by decide)).trans (hk58)) rfl ?_
              refine ml_blk 2 (S' := (70, [(0, .ref m0), (1, .int i22_1), (2, .int (f2 f fA)), (3, .int 0), (4, .int i22_4), (5, .int (f2 f i22_1))], [.int (nf &&& 512)], M_22)) rfl ?_
              have J_92 : ml (mT g) d (mb_189 g).2 (92, [(0, .ref m0), (1, .int i22_1), (2, .int (f2 f fA)), (3, .int 0), (4, .int i22_4), (5, .int (f2 f i22_1))], [], M_22) (fun v M' => ∃ (x : Int32) (I' : rI) (R' : rR), v = some (.int x) ∧ RS g m0 q z I' R' M' ∧ eqI [25, 47, 48] I I' ∧ eqR [27, 28, 29, 30, 31, 32, 33] R R' ∧ (x = 0 ∨ x = 1) ∧ (x = 0 ∨ ∃ k : Nat, k ≤ 8192 ∧ I' 25 = some (nI k) ∧ FKN k R')) := by
                refine ml_blk 3 (S' := (95, [(0, .ref m0), (1, .int i22_1), (2, .int (f2 f fA)), (3, .int 0), (4, .int i22_4), (5, .int (f2 f i22_1))], [.int i22_1, .ref m0, .ref m0], M_22)) rfl ?_
                refine ml_blk 2 (S' := (97, [(0, .ref m0), (1, .int i22_1), (2, .int (f2 f fA)), (3, .int 0), (4, .int i22_4), (5, .int (f2 f i22_1))], [.int (i22_1 + 2), .ref m0, .ref m0], M_22)) rfl ?_
                refine ml_call (a := [.ref m0, .int (i22_1 + 2)]) (rest := [.ref m0]) rfl (hR_22.okc rfl rfl rfl) rfl rfl (rm_u2 hR_22 hF14 (by omega) (by omega) (by omega)) (fun v239 M240 h241 => ?_)
                obtain ⟨rfl, h241⟩ := h241
                rw [h241]
                show ml _ _ _ (100, [(0, .ref m0), (1, .int i22_1), (2, .int (f2 f fA)), (3, .int 0), (4, .int i22_4), (5, .int (f2 f i22_1))], [.int (f2 f (i22_1 + 2)), .ref m0], M_22) _
                have hP242 : PK n f S cp mj pa py I_22 R_22 := (hP.mono (cIx hI_22 (by decide)) (cRx hV_22 (by decide)))
                refine ml_call (a := [.ref m0, .int (f2 f (i22_1 + 2))]) (rest := []) rfl (hR_22.okc rfl rfl rfl) rfl rfl (rm_tag hR_22 hF14 hP242 (by omega)) (fun v243 M244 h245 => ?_)
                obtain ⟨rfl, h245⟩ := h245
                rw [h245]
                show ml _ _ _ (103, [(0, .ref m0), (1, .int i22_1), (2, .int (f2 f fA)), (3, .int 0), (4, .int i22_4), (5, .int (f2 f i22_1))], [.int (tgf f cp pa (f2 f (i22_1 + 2)))], M_22) _
                refine ml_st (S' := (104, [(0, .ref m0), (1, .int i22_1), (2, .int (f2 f fA)), (3, .int 0), (4, .int i22_4), (5, .int (f2 f i22_1))], [.int 1, .int (tgf f cp pa (f2 f (i22_1 + 2)))], M_22)) rfl rfl rfl ?_
                refine ml_if2 (S1 := (126, [(0, .ref m0), (1, .int i22_1)], [], M_22)) (S2 := (107, [(0, .ref m0), (1, .int i22_1), (2, .int (f2 f fA)), (3, .int 0), (4, .int i22_4), (5, .int (f2 f i22_1))], [], M_22)) rfl rfl rfl (fun c_104 => ?_) (fun c_104 => ?_)
                · have c_104 : ¬ (tgf f cp pa (f2 f (i22_1 + 2))) = 1 := of_decide_eq_true c_104
                  refine ml_blk 3 (S' := (130, [(0, .ref m0), (1, .int i22_1)], [.int i22_1, .int 20, .ref m0], M_22)) rfl ?_
                  refine ml_blk 2 (S' := (132, [(0, .ref m0), (1, .int i22_1)], [.int (i22_1 + 2), .int 20, .ref m0], M_22)) rfl ?_
                  refine ml_call (a := [.ref m0, .int 20, .int (i22_1 + 2)]) (rest := []) rfl (hR_22.okc rfl rfl rfl) rfl rfl (rm_wrong hR_22 (by omega)) (fun v246 M247 h248 => ?_)
                  obtain ⟨u254, I249, R250, rfl, hR251, hI252, hV253, z255, w256⟩ := h248
                  show ml _ _ _ (135, [(0, .ref m0), (1, .int i22_1)], [.int u254], M247) _
                  exact ml_ret rfl (r_z (z255)) (⟨_, _, _, rfl, hR251, ((eqI.rf.tr hI_22 (by decide)).tr hI252 (by decide)), ((eqR.rf.tr hV_22 (by decide)).tr hV253 (by decide)), z255, Or.inl w256⟩)
                · have c_104 : ¬ (¬ (tgf f cp pa (f2 f (i22_1 + 2))) = 1) := of_decide_eq_false c_104
                  have hyA := hP.y (show tgf f cp pa (f2 f (i22_1 + 2)) = 1 from Decidable.not_not.mp c_104)
                  refine ml_blk 3 (S' := (110, [(0, .ref m0), (1, .int i22_1), (2, .int (f2 f fA)), (3, .int 0), (4, .int i22_4), (5, .int (f2 f i22_1))], [.ref m0, .ref m0, .ref m0], M_22)) rfl ?_
                  refine ml_blk 3 (S' := (113, [(0, .ref m0), (1, .int i22_1), (2, .int (f2 f fA)), (3, .int 0), (4, .int i22_4), (5, .int (f2 f i22_1))], [.int (i22_1 + 2), .ref m0, .ref m0, .ref m0], M_22)) rfl ?_
                  refine ml_call (a := [.ref m0, .int (i22_1 + 2)]) (rest := [.ref m0, .ref m0]) rfl (hR_22.okc rfl rfl rfl) rfl rfl (rm_u2 hR_22 hF14 (by omega) (by omega) (by omega)) (fun v257 M258 h259 => ?_)
                  obtain ⟨rfl, h259⟩ := h259
                  rw [h259]
                  show ml _ _ _ (116, [(0, .ref m0), (1, .int i22_1), (2, .int (f2 f fA)), (3, .int 0), (4, .int i22_4), (5, .int (f2 f i22_1))], [.int (f2 f (i22_1 + 2)), .ref m0, .ref m0], M_22) _
                  refine ml_call (a := [.ref m0, .int (f2 f (i22_1 + 2))]) (rest := [.ref m0]) rfl (hR_22.okc rfl rfl rfl) rfl rfl (rm_symOf hR_22 hP242 (Decidable.not_not.mp c_104) (by omega)) (fun v260 M261 h262 => ?_)
                  obtain ⟨rfl, h262⟩ := h262
                  rw [h262]
                  show ml _ _ _ (119, [(0, .ref m0), (1, .int i22_1), (2, .int (f2 f fA)), (3, .int 0), (4, .int i22_4), (5, .int (f2 f i22_1))], [.int (pyf py (f2 f (i22_1 + 2))), .ref m0], M_22) _
                  refine ml_st (S' := (120, [(0, .ref m0), (1, .int i22_1), (2, .int (f2 f fA)), (3, .int 0), (4, .int i22_4), (5, .int (f2 f i22_1))], [.int 1, .int (pyf py (f2 f (i22_1 + 2))), .ref m0], M_22)) rfl rfl rfl ?_
                  have hY263 : SK S cN sa sl ch I_22 R_22 := (hY.mono (cIx hI_22 (by decide)) (cRx hV_22 (by decide)))
                  refine ml_call (a := [.ref m0, .int (pyf py (f2 f (i22_1 + 2))), .int 1]) (rest := []) rfl (hR_22.okc rfl rfl rfl) rfl rfl (rm_unqualified hR_22 hY263 (hyA.2.2.1) (hyA.2.2.2) (by omega)) (fun v264 M265 h266 => ?_)
                  obtain ⟨⟨u267, rfl, z268⟩, h266⟩ := h266
                  rw [h266]
                  show ml _ _ _ (123, [(0, .ref m0), (1, .int i22_1), (2, .int (f2 f fA)), (3, .int 0), (4, .int i22_4), (5, .int (f2 f i22_1))], [.int u267], M_22) _
                  refine ml_if (S1 := (136, [(0, .ref m0), (1, .int i22_1), (2, .int (f2 f fA)), (3, .int 0), (4, .int i22_4), (5, .int (f2 f i22_1))], [], M_22)) (S2 := (126, [(0, .ref m0), (1, .int i22_1)], [], M_22)) rfl rfl rfl (fun c_123 => ?_) (fun c_123 => ?_)
                  · have c_123 : ¬ u267 = 0 := of_decide_eq_true c_123
                    refine ml_blk 3 (S' := (139, [(0, .ref m0), (1, .int i22_1), (2, .int (f2 f fA)), (3, .int 0), (4, .int i22_4), (5, .int (f2 f i22_1))], [.int i22_1, .ref m0, .ref m0], M_22)) rfl ?_
                    refine ml_blk 2 (S' := (141, [(0, .ref m0), (1, .int i22_1), (2, .int (f2 f fA)), (3, .int 0), (4, .int i22_4), (5, .int (f2 f i22_1))], [.int (i22_1 + 4), .ref m0, .ref m0], M_22)) rfl ?_
                    refine ml_call (a := [.ref m0, .int (i22_1 + 4)]) (rest := [.ref m0]) rfl (hR_22.okc rfl rfl rfl) rfl rfl (rm_u2 hR_22 hF14 (by omega) (by omega) (by omega)) (fun v269 M270 h271 => ?_)
                    obtain ⟨rfl, h271⟩ := h271
                    rw [h271]
                    show ml _ _ _ (144, [(0, .ref m0), (1, .int i22_1), (2, .int (f2 f fA)), (3, .int 0), (4, .int i22_4), (5, .int (f2 f i22_1))], [.int (f2 f (i22_1 + 4)), .ref m0], M_22) _
                    refine ml_call (a := [.ref m0, .int (f2 f (i22_1 + 4))]) (rest := []) rfl (hR_22.okc rfl rfl rfl) rfl rfl (rm_tag hR_22 hF14 hP242 (by omega)) (fun v272 M273 h274 => ?_)
                    obtain ⟨rfl, h274⟩ := h274
                    rw [h274]
                    show ml _ _ _ (147, [(0, .ref m0), (1, .int i22_1), (2, .int (f2 f fA)), (3, .int 0), (4, .int i22_4), (5, .int (f2 f i22_1))], [.int (tgf f cp pa (f2 f (i22_1 + 4)))], M_22) _
                    refine ml_st (S' := (148, [(0, .ref m0), (1, .int i22_1), (2, .int (f2 f fA)), (3, .int 0), (4, .int i22_4), (5, .int (f2 f i22_1))], [.int 1, .int (tgf f cp pa (f2 f (i22_1 + 4)))], M_22)) rfl rfl rfl ?_
                    refine ml_if2 (S1 := (169, [(0, .ref m0), (1, .int i22_1)], [], M_22)) (S2 := (151, [(0, .ref m0), (1, .int i22_1), (2, .int (f2 f fA)), (3, .int 0), (4, .int i22_4), (5, .int (f2 f i22_1))], [], M_22)) rfl rfl rfl (fun c_148 => ?_) (fun c_148 => ?_)
                    · have c_148 : ¬ (tgf f cp pa (f2 f (i22_1 + 4))) = 1 := of_decide_eq_true c_148
                      refine ml_blk 3 (S' := (173, [(0, .ref m0), (1, .int i22_1)], [.int i22_1, .int 21, .ref m0], M_22)) rfl ?_
                      refine ml_blk 2 (S' := (175, [(0, .ref m0), (1, .int i22_1)], [.int (i22_1 + 4), .int 21, .ref m0], M_22)) rfl ?_
                      refine ml_call (a := [.ref m0, .int 21, .int (i22_1 + 4)]) (rest := []) rfl (hR_22.okc rfl rfl rfl) rfl rfl (rm_wrong hR_22 (by omega)) (fun v275 M276 h277 => ?_)
                      obtain ⟨u283, I278, R279, rfl, hR280, hI281, hV282, z284, w285⟩ := h277
                      show ml _ _ _ (178, [(0, .ref m0), (1, .int i22_1)], [.int u283], M276) _
                      exact ml_ret rfl (r_z (z284)) (⟨_, _, _, rfl, hR280, ((eqI.rf.tr hI_22 (by decide)).tr hI281 (by decide)), ((eqR.rf.tr hV_22 (by decide)).tr hV282 (by decide)), z284, Or.inl w285⟩)
                    · have c_148 : ¬ (¬ (tgf f cp pa (f2 f (i22_1 + 4))) = 1) := of_decide_eq_false c_148
                      have hyB := hP.y (show tgf f cp pa (f2 f (i22_1 + 4)) = 1 from Decidable.not_not.mp c_148)
                      refine ml_blk 3 (S' := (154, [(0, .ref m0), (1, .int i22_1), (2, .int (f2 f fA)), (3, .int 0), (4, .int i22_4), (5, .int (f2 f i22_1))], [.ref m0, .ref m0, .ref m0], M_22)) rfl ?_
                      refine ml_blk 3 (S' := (157, [(0, .ref m0), (1, .int i22_1), (2, .int (f2 f fA)), (3, .int 0), (4, .int i22_4), (5, .int (f2 f i22_1))], [.int (i22_1 + 4), .ref m0, .ref m0, .ref m0], M_22)) rfl ?_
                      refine ml_call (a := [.ref m0, .int (i22_1 + 4)]) (rest := [.ref m0, .ref m0]) rfl (hR_22.okc rfl rfl rfl) rfl rfl (rm_u2 hR_22 hF14 (by omega) (by omega) (by omega)) (fun v286 M287 h288 => ?_)
                      obtain ⟨rfl, h288⟩ := h288
                      rw [h288]
                      show ml _ _ _ (160, [(0, .ref m0), (1, .int i22_1), (2, .int (f2 f fA)), (3, .int 0), (4, .int i22_4), (5, .int (f2 f i22_1))], [.int (f2 f (i22_1 + 4)), .ref m0, .ref m0], M_22) _
                      refine ml_call (a := [.ref m0, .int (f2 f (i22_1 + 4))]) (rest := [.ref m0]) rfl (hR_22.okc rfl rfl rfl) rfl rfl (rm_symOf hR_22 hP242 (Decidable.not_not.mp c_148) (by omega)) (fun v289 M290 h291 => ?_)
                      obtain ⟨rfl, h291⟩ := h291
                      rw [h291]
                      show ml _ _ _ (163, [(0, .ref m0), (1, .int i22_1), (2, .int (f2 f fA)), (3, .int 0), (4, .int i22_4), (5, .int (f2 f i22_1))], [.int (pyf py (f2 f (i22_1 + 4))), .ref m0], M_22) _
                      refine ml_call (a := [.ref m0, .int (pyf py (f2 f (i22_1 + 4)))]) (rest := []) rfl (hR_22.okc rfl rfl rfl) rfl rfl (rm_isField hR_22 hY263 (hyB.2.2.1) (hyB.2.2.2) (by omega)) (fun v292 M293 h294 => ?_)
                      obtain ⟨⟨u295, rfl, z296, w297⟩, h294⟩ := h294
                      rw [h294]
                      show ml _ _ _ (166, [(0, .ref m0), (1, .int i22_1), (2, .int (f2 f fA)), (3, .int 0), (4, .int i22_4), (5, .int (f2 f i22_1))], [.int u295], M_22) _
                      refine ml_if (S1 := (179, [(0, .ref m0), (1, .int i22_1), (2, .int (f2 f fA)), (3, .int 0), (4, .int i22_4), (5, .int (f2 f i22_1))], [], M_22)) (S2 := (169, [(0, .ref m0), (1, .int i22_1)], [], M_22)) rfl rfl rfl (fun c_166 => ?_) (fun c_166 => ?_)
                      · have c_166 : ¬ u295 = 0 := of_decide_eq_true c_166
                        have hlnB := w297.resolve_left c_166
                        refine ml_st (S' := (180, [(0, .ref m0), (1, .int i22_1), (2, .int (f2 f fA)), (3, .int 0), (4, .int i22_4), (5, .int (f2 f i22_1))], [.ref m0], M_22)) rfl rfl rfl ?_
                        refine rg_int (S' := (183, [(0, .ref m0), (1, .int i22_1), (2, .int (f2 f fA)), (3, .int 0), (4, .int i22_4), (5, .int (f2 f i22_1))], [.int i22_4], M_22)) rfl hR_22 rfl (h25) rfl ?_
                        refine ml_st (S' := (185, [(6, .int i22_4), (0, .ref m0), (1, .int i22_1), (2, .int (f2 f fA)), (3, .int 0), (4, .int i22_4), (5, .int (f2 f i22_1))], [], M_22)) rfl rfl rfl ?_
                        refine ml_st (S' := (186, [(6, .int i22_4), (0, .ref m0), (1, .int i22_1), (2, .int (f2 f fA)), (3, .int 0), (4, .int i22_4), (5, .int (f2 f i22_1))], [.ref m0], M_22)) rfl rfl rfl ?_
                        refine rg_ref (S' := (189, [(6, .int i22_4), (0, .ref m0), (1, .int i22_1), (2, .int (f2 f fA)), (3, .int 0), (4, .int i22_4), (5, .int (f2 f i22_1))], [.ref (q 27)], M_22)) rfl hR_22 rfl rfl ?_
                        refine ml_blk 2 (S' := (193, [(6, .int i22_4), (0, .ref m0), (1, .int i22_1), (2, .int (f2 f fA)), (3, .int 0), (4, .int i22_4), (5, .int (f2 f i22_1))], [.int (f2 f i22_1), .int i22_4, .ref (q 27)], M_22)) rfl ?_
                        refine ra_st (k := 27) rfl hR_22 rfl (vin_lt hk0 (by omega)) (fun M298 R299 hR300 e301 g302 f303 => ?_)
                        show ml _ _ _ (194, [(6, .int i22_4), (0, .ref m0), (1, .int i22_1), (2, .int (f2 f fA)), (3, .int 0), (4, .int i22_4), (5, .int (f2 f i22_1))], [], M298) _
                        refine ml_st (S' := (195, [(6, .int i22_4), (0, .ref m0), (1, .int i22_1), (2, .int (f2 f fA)), (3, .int 0), (4, .int i22_4), (5, .int (f2 f i22_1))], [.ref m0], M298)) rfl rfl rfl ?_
                        refine rg_ref (S' := (198, [(6, .int i22_4), (0, .ref m0), (1, .int i22_1), (2, .int (f2 f fA)), (3, .int 0), (4, .int i22_4), (5, .int (f2 f i22_1))], [.ref (q 28)], M298)) rfl hR300 rfl rfl ?_
                        refine ml_blk 3 (S' := (202, [(6, .int i22_4), (0, .ref m0), (1, .int i22_1), (2, .int (f2 f fA)), (3, .int 0), (4, .int i22_4), (5, .int (f2 f i22_1))], [.ref m0, .ref m0, .int i22_4, .ref (q 28)], M298)) rfl ?_
                        refine ml_blk 3 (S' := (205, [(6, .int i22_4), (0, .ref m0), (1, .int i22_1), (2, .int (f2 f fA)), (3, .int 0), (4, .int i22_4), (5, .int (f2 f i22_1))], [.int (i22_1 + 2), .ref m0, .ref m0, .int i22_4, .ref (q 28)], M298)) rfl ?_
                        have hF304 : FK n f I_22 R299 := (hF14.mono (fun _ _ => rfl) (pRx f303 (by decide)))
                        refine ml_call (a := [.ref m0, .int (i22_1 + 2)]) (rest := [.ref m0, .int i22_4, .ref (q 28)]) rfl (hR300.okc rfl rfl rfl) rfl rfl (rm_u2 hR300 hF304 (by omega) (by omega) (by omega)) (fun v305 M306 h307 => ?_)
                        obtain ⟨rfl, h307⟩ := h307
                        rw [h307]
                        show ml _ _ _ (208, [(6, .int i22_4), (0, .ref m0), (1, .int i22_1), (2, .int (f2 f fA)), (3, .int 0), (4, .int i22_4), (5, .int (f2 f i22_1))], [.int (f2 f (i22_1 + 2)), .ref m0, .int i22_4, .ref (q 28)], M298) _
                        have hP308 : PK n f S cp mj pa py I_22 R299 := (hP242.mono (fun _ _ => rfl) (pRx f303 (by decide)))
                        refine ml_call (a := [.ref m0, .int (f2 f (i22_1 + 2))]) (rest := [.int i22_4, .ref (q 28)]) rfl (hR300.okc rfl rfl rfl) rfl rfl (rm_symOf hR300 hP308 (Decidable.not_not.mp c_104) (by omega)) (fun v309 M310 h311 => ?_)
                        obtain ⟨rfl, h311⟩ := h311
                        rw [h311]
                        show ml _ _ _ (211, [(6, .int i22_4), (0, .ref m0), (1, .int i22_1), (2, .int (f2 f fA)), (3, .int 0), (4, .int i22_4), (5, .int (f2 f i22_1))], [.int (pyf py (f2 f (i22_1 + 2))), .int i22_4, .ref (q 28)], M298) _
                        refine ra_st (k := 28) rfl hR300 rfl (vin_lt hk0 (by omega)) (fun M312 R313 hR314 e315 g316 f317 => ?_)
                        show ml _ _ _ (212, [(6, .int i22_4), (0, .ref m0), (1, .int i22_1), (2, .int (f2 f fA)), (3, .int 0), (4, .int i22_4), (5, .int (f2 f i22_1))], [], M312) _
                        refine ml_st (S' := (213, [(6, .int i22_4), (0, .ref m0), (1, .int i22_1), (2, .int (f2 f fA)), (3, .int 0), (4, .int i22_4), (5, .int (f2 f i22_1))], [.ref m0], M312)) rfl rfl rfl ?_
                        refine rg_ref (S' := (216, [(6, .int i22_4), (0, .ref m0), (1, .int i22_1), (2, .int (f2 f fA)), (3, .int 0), (4, .int i22_4), (5, .int (f2 f i22_1))], [.ref (q 29)], M312)) rfl hR314 rfl rfl ?_
                        refine ml_blk 3 (S' := (220, [(6, .int i22_4), (0, .ref m0), (1, .int i22_1), (2, .int (f2 f fA)), (3, .int 0), (4, .int i22_4), (5, .int (f2 f i22_1))], [.ref m0, .ref m0, .int i22_4, .ref (q 29)], M312)) rfl ?_
                        refine ml_blk 3 (S' := (223, [(6, .int i22_4), (0, .ref m0), (1, .int i22_1), (2, .int (f2 f fA)), (3, .int 0), (4, .int i22_4), (5, .int (f2 f i22_1))], [.int (i22_1 + 4), .ref m0, .ref m0, .int i22_4, .ref (q 29)], M312)) rfl ?_
                        have hF318 : FK n f I_22 R313 := (hF304.mono (fun _ _ => rfl) (pRx f317 (by decide)))
                        refine ml_call (a := [.ref m0, .int (i22_1 + 4)]) (rest := [.ref m0, .int i22_4, .ref (q 29)]) rfl (hR314.okc rfl rfl rfl) rfl rfl (rm_u2 hR314 hF318 (by omega) (by omega) (by omega)) (fun v319 M320 h321 => ?_)
                        obtain ⟨rfl, h321⟩ := h321
                        rw [h321]
                        show ml _ _ _ (226, [(6, .int i22_4), (0, .ref m0), (1, .int i22_1), (2, .int (f2 f fA)), (3, .int 0), (4, .int i22_4), (5, .int (f2 f i22_1))], [.int (f2 f (i22_1 + 4)), .ref m0, .int i22_4, .ref (q 29)], M312) _
                        have hP322 : PK n f S cp mj pa py I_22 R313 := (hP308.mono (fun _ _ => rfl) (pRx f317 (by decide)))
                        refine ml_call (a := [.ref m0, .int (f2 f (i22_1 + 4))]) (rest := [.int i22_4, .ref (q 29)]) rfl (hR314.okc rfl rfl rfl) rfl rfl (rm_symOf hR314 hP322 (Decidable.not_not.mp c_148) (by omega)) (fun v323 M324 h325 => ?_)
                        obtain ⟨rfl, h325⟩ := h325
                        rw [h325]
                        show ml _ _ _ (229, [(6, .int i22_4), (0, .ref m0), (1, .int i22_1), (2, .int (f2 f fA)), (3, .int 0), (4, .int i22_4), (5, .int (f2 f i22_1))], [.int (pyf py (f2 f (i22_1 + 4))), .int i22_4, .ref (q 29)], M312) _
                        refine ra_st (k := 29) rfl hR314 rfl (vin_lt hk0 (by omega)) (fun M326 R327 hR328 e329 g330 f331 => ?_)
                        show ml _ _ _ (230, [(6, .int i22_4), (0, .ref m0), (1, .int i22_1), (2, .int (f2 f fA)), (3, .int 0), (4, .int i22_4), (5, .int (f2 f i22_1))], [], M326) _
                        refine ml_st (S' := (231, [(6, .int i22_4), (0, .ref m0), (1, .int i22_1), (2, .int (f2 f fA)), (3, .int 0), (4, .int i22_4), (5, .int (f2 f i22_1))], [.ref m0], M326)) rfl rfl rfl ?_
                        refine rg_ref (S' := (234, [(6, .int i22_4), (0, .ref m0), (1, .int i22_1), (2, .int (f2 f fA)), (3, .int 0), (4, .int i22_4), (5, .int (f2 f i22_1))], [.ref (q 30)], M326)) rfl hR328 rfl rfl ?_
                        refine ml_blk 2 (S' := (237, [(6, .int i22_4), (0, .ref m0), (1, .int i22_1), (2, .int (f2 f fA)), (3, .int 0), (4, .int i22_4), (5, .int (f2 f i22_1))], [.int 0, .int i22_4, .ref (q 30)], M326)) rfl ?_
                        refine ra_st (k := 30) rfl hR328 rfl (vin_lt hk0 (by omega)) (fun M332 R333 hR334 e335 g336 f337 => ?_)
                        show ml _ _ _ (238, [(6, .int i22_4), (0, .ref m0), (1, .int i22_1), (2, .int (f2 f fA)), (3, .int 0), (4, .int i22_4), (5, .int (f2 f i22_1))], [], M332) _
                        refine ml_st (S' := (239, [(6, .int i22_4), (0, .ref m0), (1, .int i22_1), (2, .int (f2 f fA)), (3, .int 0), (4, .int i22_4), (5, .int (f2 f i22_1))], [.ref m0], M332)) rfl rfl rfl ?_
                        refine rg_ref (S' := (242, [(6, .int i22_4), (0, .ref m0), (1, .int i22_1), (2, .int (f2 f fA)), (3, .int 0), (4, .int i22_4), (5, .int (f2 f i22_1))], [.ref (q 31)], M332)) rfl hR334 rfl rfl ?_
                        refine ml_blk 2 (S' := (245, [(6, .int i22_4), (0, .ref m0), (1, .int i22_1), (2, .int (f2 f fA)), (3, .int 0), (4, .int i22_4), (5, .int (f2 f i22_1))], [.int 0, .int i22_4, .ref (q 31)], M332)) rfl ?_
                        refine ra_st (k := 31) rfl hR334 rfl (vin_lt hk0 (by omega)) (fun M338 R339 hR340 e341 g342 f343 => ?_)
                        show ml _ _ _ (246, [(6, .int i22_4), (0, .ref m0), (1, .int i22_1), (2, .int (f2 f fA)), (3, .int 0), (4, .int i22_4), (5, .int (f2 f i22_1))], [], M338) _
                        refine ml_st (S' := (247, [(6, .int i22_4), (0, .ref m0), (1, .int i22_1), (2, .int (f2 f fA)), (3, .int 0), (4, .int i22_4), (5, .int (f2 f i22_1))], [.ref m0], M338)) rfl rfl rfl ?_
                        refine rg_ref (S' := (250, [(6, .int i22_4), (0, .ref m0), (1, .int i22_1), (2, .int (f2 f fA)), (3, .int 0), (4, .int i22_4), (5, .int (f2 f i22_1))], [.ref (q 32)], M338)) rfl hR340 rfl rfl ?_
                        refine ml_blk 3 (S' := (254, [(6, .int i22_4), (0, .ref m0), (1, .int i22_1), (2, .int (f2 f fA)), (3, .int 0), (4, .int i22_4), (5, .int (f2 f i22_1))], [.int i22_1, .ref m0, .int i22_4, .ref (q 32)], M338)) rfl ?_
                        refine ml_blk 2 (S' := (256, [(6, .int i22_4), (0, .ref m0), (1, .int i22_1), (2, .int (f2 f fA)), (3, .int 0), (4, .int i22_4), (5, .int (f2 f i22_1))], [.int (i22_1 + 2), .ref m0, .int i22_4, .ref (q 32)], M338)) rfl ?_
                        have hF344 : FK n f I_22 R339 := (((hF318.mono (fun _ _ => rfl) (pRx f331 (by decide))).mono (fun _ _ => rfl) (pRx f337 (by decide))).mono (fun _ _ => rfl) (pRx f343 (by decide)))
                        refine ml_call (a := [.ref m0, .int (i22_1 + 2)]) (rest := [.int i22_4, .ref (q 32)]) rfl (hR340.okc rfl rfl rfl) rfl rfl (rm_u2 hR340 hF344 (by omega) (by omega) (by omega)) (fun v345 M346 h347 => ?_)
                        obtain ⟨rfl, h347⟩ := h347
                        rw [h347]
                        show ml _ _ _ (259, [(6, .int i22_4), (0, .ref m0), (1, .int i22_1), (2, .int (f2 f fA)), (3, .int 0), (4, .int i22_4), (5, .int (f2 f i22_1))], [.int (f2 f (i22_1 + 2)), .int i22_4, .ref (q 32)], M338) _
                        refine ra_st (k := 32) rfl hR340 rfl (vin_lt hk0 (by omega)) (fun M348 R349 hR350 e351 g352 f353 => ?_)
                        show ml _ _ _ (260, [(6, .int i22_4), (0, .ref m0), (1, .int i22_1), (2, .int (f2 f fA)), (3, .int 0), (4, .int i22_4), (5, .int (f2 f i22_1))], [], M348) _
                        refine ml_st (S' := (261, [(6, .int i22_4), (0, .ref m0), (1, .int i22_1), (2, .int (f2 f fA)), (3, .int 0), (4, .int i22_4), (5, .int (f2 f i22_1))], [.ref m0], M348)) rfl rfl rfl ?_
                        refine rg_ref (S' := (264, [(6, .int i22_4), (0, .ref m0), (1, .int i22_1), (2, .int (f2 f fA)), (3, .int 0), (4, .int i22_4), (5, .int (f2 f i22_1))], [.ref (q 33)], M348)) rfl hR350 rfl rfl ?_
                        refine ml_blk 3 (S' := (268, [(6, .int i22_4), (0, .ref m0), (1, .int i22_1), (2, .int (f2 f fA)), (3, .int 0), (4, .int i22_4), (5, .int (f2 f i22_1))], [.int i22_1, .ref m0, .int i22_4, .ref (q 33)], M348)) rfl ?_
                        refine ml_blk 2 (S' := (270, [(6, .int i22_4), (0, .ref m0), (1, .int i22_1), (2, .int (f2 f fA)), (3, .int 0), (4, .int i22_4), (5, .int (f2 f i22_1))], [.int (i22_1 + 4), .ref m0, .int i22_4, .ref (q 33)], M348)) rfl ?_
                        have hF354 : FK n f I_22 R349 := (hF344.mono (fun _ _ => rfl) (pRx f353 (by decide)))
                        refine ml_call (a := [.ref m0, .int (i22_1 + 4)]) (rest := [.int i22_4, .ref (q 33)]) rfl (hR350.okc rfl rfl rfl) rfl rfl (rm_u2 hR350 hF354 (by omega) (by omega) (by omega)) (fun v355 M356 h357 => ?_)
                        obtain ⟨rfl, h357⟩ := h357
                        rw [h357]
                        show ml _ _ _ (273, [(6, .int i22_4), (0, .ref m0), (1, .int i22_1), (2, .int (f2 f fA)), (3, .int 0), (4, .int i22_4), (5, .int (f2 f i22_1))], [.int (f2 f (i22_1 + 4)), .int i22_4, .ref (q 33)], M348) _
                        refine ra_st (k := 33) rfl hR350 rfl (vin_lt hk0 (by omega)) (fun M358 R359 hR360 e361 g362 f363 => ?_)
                        show ml _ _ _ (274, [(6, .int i22_4), (0, .ref m0), (1, .int i22_1), (2, .int (f2 f fA)), (3, .int 0), (4, .int i22_4), (5, .int (f2 f i22_1))], [], M358) _
                        refine ml_st (S' := (275, [(6, .int i22_4), (0, .ref m0), (1, .int i22_1), (2, .int (f2 f fA)), (3, .int 0), (4, .int i22_4), (5, .int (f2 f i22_1))], [.int 0], M358)) rfl rfl rfl ?_
                        refine ml_st (S' := (277, [(0, .ref m0), (1, .int i22_1), (2, .int (f2 f fA)), (3, .int 0), (4, .int i22_4), (6, .int i22_4), (7, .int 0)], [], M358)) rfl rfl rfl ?_
                        have L_277 : ∀ (n_277 : Nat) (i277_7 : Int32), (2147483648 - i277_7.toInt).toNat ≤ n_277 → 0 ≤ i277_7.toInt → ml (mT g) d (mb_189 g).2 (277, [(0, .ref m0), (1, .int i22_1), (2, .int (f2 f fA)), (3, .int 0), (4, .int i22_4), (6, .int i22_4), (7, .int i277_7)], [], M358) (fun v M' => ∃ (x : Int32) (I' : rI) (R' : rR), v = some (.int x) ∧ RS g m0 q z I' R' M' ∧ eqI [25, 47, 48] I I' ∧ eqR [27, 28, 29, 30, 31, 32, 33] R R' ∧ (x = 0 ∨ x = 1) ∧ (x = 0 ∨ ∃ k : Nat, k ≤ 8192 ∧ I' 25 = some (nI k) ∧ FKN k R')) := by
                          intro n_277
                          induction n_277 with
                          | zero => intro i277_7 hn; exact (loop_zero hn).elim
                          | succ n_277 ih_277 =>
                            intro i277_7 hn_277 hi_277
                            have hq0 := hi_277
                            refine ml_blk 2 (S' := (281, [(0, .ref m0), (1, .int i22_1), (2, .int (f2 f fA)), (3, .int 0), (4, .int i22_4), (6, .int i22_4), (7, .int i277_7)], [.int i22_4, .int i277_7], M358)) rfl ?_
                            refine ml_if2 (S1 := (332, [(0, .ref m0), (1, .int i22_1), (2, .int (f2 f fA)), (3, .int 0), (4, .int i22_4), (6, .int i22_4), (7, .int i277_7)], [], M358)) (S2 := (284, [(0, .ref m0), (1, .int i22_1), (2, .int (f2 f fA)), (3, .int 0), (4, .int i22_4), (6, .int i22_4), (7, .int i277_7)], [], M358)) rfl rfl rfl (fun c_281 => ?_) (fun c_281 => ?_)
                            · have c_281 : i22_4 ≤ i277_7 := of_decide_eq_true c_281
                              refine ml_blk 2 (S' := (334, [(0, .ref m0), (1, .int i22_1), (2, .int (f2 f fA)), (3, .int 0), (4, .int i22_4), (6, .int i22_4), (7, .int i277_7)], [.ref m0, .ref m0], M358)) rfl ?_
                              refine rg_int (S' := (337, [(0, .ref m0), (1, .int i22_1), (2, .int (f2 f fA)), (3, .int 0), (4, .int i22_4), (6, .int i22_4), (7, .int i277_7)], [.int i22_4, .ref m0], M358)) rfl hR360 rfl (h25) rfl ?_
                              refine ml_blk 2 (S' := (339, [(0, .ref m0), (1, .int i22_1), (2, .int (f2 f fA)), (3, .int 0), (4, .int i22_4), (6, .int i22_4), (7, .int i277_7)], [.int (i22_4 + 1), .ref m0], M358)) rfl ?_
                              refine rp_int rfl hR360 rfl (fun M364 I365 hR366 e367 f368 => ?_)
                              show ml _ _ _ (342, [(0, .ref m0), (1, .int i22_1), (2, .int (f2 f fA)), (3, .int 0), (4, .int i22_4), (6, .int i22_4), (7, .int i277_7)], [], M364) _
                              refine ml_blk 3 (S' := (346, [(0, .ref m0), (1, .int i22_1), (2, .int (f2 f fA)), (3, .int 0), (4, .int i22_4), (6, .int i22_4), (7, .int i277_7)], [.int 6, .int i22_1, .ref m0], M364)) rfl ?_
                              refine ml_blk 3 (S' := (350, [(0, .ref m0), (1, .int i22_1), (2, .int (f2 f fA)), (3, .int 0), (4, .int i22_4), (6, .int i22_4), (7, .int i277_7)], [.int i22_4, .int 1, .int (i22_1 + 6), .ref m0], M364)) rfl ?_
                              have hF369 : FK n f I365 R359 := ((hF354.mono (fun _ _ => rfl) (pRx f363 (by decide))).mono (pIx f368 (by decide)) (fun _ _ => rfl))
                              have hY370 : SK S cN sa sl ch I365 R359 := ((((((((hY263.mono (fun _ _ => rfl) (pRx f303 (by decide))).mono (fun _ _ => rfl) (pRx f317 (by decide))).mono (fun _ _ => rfl) (pRx f331 (by decide))).mono (fun _ _ => rfl) (pRx f337 (by decide))).mono (fun _ _ => rfl) (pRx f343 (by decide))).mono (fun _ _ => rfl) (pRx f353 (by decide))).mono (fun _ _ => rfl) (pRx f363 (by decide))).mono (pIx f368 (by decide)) (fun _ _ => rfl))
                              have hP371 : PK n f S cp mj pa py I365 R359 := ((((((hP322.mono (fun _ _ => rfl) (pRx f331 (by decide))).mono (fun _ _ => rfl) (pRx f337 (by decide))).mono (fun _ _ => rfl) (pRx f343 (by decide))).mono (fun _ _ => rfl) (pRx f353 (by decide))).mono (fun _ _ => rfl) (pRx f363 (by decide))).mono (pIx f368 (by decide)) (fun _ _ => rfl))
                              have hK372 : KW I365 R359 := (((((((((hK.mono (cIx hI_22 (by decide)) (cRx hV_22 (by decide))).mono (fun _ _ => rfl) (pRx f303 (by decide))).mono (fun _ _ => rfl) (pRx f317 (by decide))).mono (fun _ _ => rfl) (pRx f331 (by decide))).mono (fun _ _ => rfl) (pRx f337 (by decide))).mono (fun _ _ => rfl) (pRx f343 (by decide))).mono (fun _ _ => rfl) (pRx f353 (by decide))).mono (fun _ _ => rfl) (pRx f363 (by decide))).mono (pIx f368 (by decide)) (fun _ _ => rfl))
                              refine ml_call (a := [.ref m0, .int (i22_1 + 6), .int 1, .int i22_4]) (rest := []) rfl (hR366.okc rfl rfl rfl) rfl rfl (rm_checkAttributes1 hR366 hF369 hY370 hP371 hK372 (rfl) (g2) (hk0) (hk8) ((congrFun ((f363 27 (by decide)).trans ((f353 27 (by decide)).trans ((f343 27 (by decide)).trans ((f337 27 (by decide)).trans ((f331 27 (by decide)).trans ((f317 27 (by decide)))))))) _).trans e301) ((congrFun ((f363 29 (by decide)).trans ((f353 29 (by decide)).trans ((f343 29 (by decide)).trans ((f337 29 (by decide)))))) _).trans e329) (hyB.2.2.1) (hyB.2.2.2) (hlnB) (fun k hk => by simp only [List.mem_cons, List.not_mem_nil, or_false] at hk; rcases hk with rfl | rfl; exact ⟨_, (congrFun ((f363 30 (by decide)).trans ((f353 30 (by decide)).trans ((f343 30 (by decide))))) _).trans e335⟩; exact ⟨_, (congrFun ((f363 31 (by decide)).trans ((f353 31 (by decide)))) _).trans e341⟩) (by omega)) (fun v373 M374 h375 => ?_)
                              obtain ⟨u381, I376, R377, rfl, hR378, hI379, hV380, w382⟩ := h375
                              show ml _ _ _ (353, [(0, .ref m0), (1, .int i22_1), (2, .int (f2 f fA)), (3, .int 0), (4, .int i22_4), (6, .int i22_4), (7, .int i277_7)], [.int u381], M374) _
                              obtain ⟨hend, hpw9, hkn9⟩ := w382
                              refine ml_st (S' := (354, [(1, .int u381), (0, .ref m0), (2, .int (f2 f fA)), (3, .int 0), (4, .int i22_4), (6, .int i22_4), (7, .int i277_7)], [], M374)) rfl rfl rfl ?_
                              refine ml_st (S' := (355, [(1, .int u381), (0, .ref m0), (2, .int (f2 f fA)), (3, .int 0), (4, .int i22_4), (6, .int i22_4), (7, .int i277_7)], [.int u381], M374)) rfl rfl rfl ?_
                              refine ml_if (S1 := (360, [(1, .int u381), (0, .ref m0), (2, .int (f2 f fA)), (3, .int 0), (4, .int i22_4), (6, .int i22_4), (7, .int i277_7)], [], M374)) (S2 := (358, [(1, .int u381), (0, .ref m0), (2, .int (f2 f fA)), (3, .int 0), (4, .int i22_4), (6, .int i22_4), (7, .int i277_7)], [], M374)) rfl rfl rfl (fun c_355 => ?_) (fun c_355 => ?_)
                              · have c_355 : 0 ≤ u381 := of_decide_eq_true c_355
                                have hub : u381 = b1 := hend.resolve_left (fun q => by have := i_le c_355; have : (0 : Int32).toInt = 0 := rfl; omega)
                                have hfk2 : FKN (i22_4.toInt.toNat + 1) R377 := FKN.step (k := i22_4.toInt.toNat) hfk ((((((((pw.rf.st g302 f303 rfl).st g316 f317 rfl).st g330 f331 rfl).st g336 f337 rfl).st g342 f343 rfl).st g352 f353 rfl).st g362 f363 rfl).tr hpw9) (fun k hk => by simp only [List.mem_cons, List.not_mem_nil, or_false] at hk; rcases hk with rfl | rfl | rfl | rfl | rfl | rfl | rfl; exact ⟨_, (congrFun ((hV380 27 (by decide)).trans ((f363 27 (by decide)).trans ((f353 27 (by decide)).trans ((f343 27 (by decide)).trans ((f337 27 (by decide)).trans ((f331 27 (by decide)).trans ((f317 27 (by decide))))))))) _).trans e301⟩; exact ⟨_, (congrFun ((hV380 28 (by decide)).trans ((f363 28 (by decide)).trans ((f353 28 (by decide)).trans ((f343 28 (by decide)).trans ((f337 28 (by decide)).trans ((f331 28 (by decide)))))))) _).trans e315⟩; exact ⟨_, (congrFun ((hV380 29 (by decide)).trans ((f363 29 (by decide)).trans ((f353 29 (by decide)).trans ((f343 29 (by decide)).trans ((f337 29 (by decide))))))) _).trans e329⟩; exact hkn9 30 (by decide); exact hkn9 31 (by decide); exact ⟨_, (congrFun ((hV380 32 (by decide)).trans ((f363 32 (by decide)))) _).trans e351⟩; exact ⟨_, (congrFun ((hV380 33 (by decide))) _).trans e361⟩)
                                refine ml_st (S' := (363, [(4, .int (i22_4 + 1)), (1, .int u381), (0, .ref m0), (2, .int (f2 f fA)), (3, .int 0), (6, .int i22_4), (7, .int i277_7)], [], M374)) rfl rfl rfl ?_
                                refine ml_st (S' := (22, [(0, .ref m0), (1, .int u381), (2, .int (f2 f fA)), (3, .int 0), (4, .int (i22_4 + 1))], [], M374)) rfl rfl rfl ?_
                                exact ih_22 u381 (i22_4 + 1) _ _ _ (loop_inc (Int32.not_le.mp c_25) hn_22) hR378 (((eqI.rf.tr hI_22 (by decide)).put f368 (by decide)).tr hI379 (by decide)) (((((((((eqR.rf.tr hV_22 (by decide)).put f303 (by decide)).put f317 (by decide)).put f331 (by decide)).put f337 (by decide)).put f343 (by decide)).put f353 (by decide)).put f363 (by decide)).tr hV380 (by decide)) (⟨by rw [inc_lt (Int32.not_le.mp c_25)]; omega, by rw [inc_lt (Int32.not_le.mp c_25)]; omega, (hI379 25 (by decide)).trans (e367), by rw [hub]; exact hnx, by rw [hub, inc_lt (Int32.not_le.mp c_25)]; have q := hg.1; omega, by rw [show (i22_4 + 1).toInt.toNat = i22_4.toInt.toNat + 1 by rw [inc_lt (Int32.not_le.mp c_25)]; omega]; exact hfk2⟩)
                              · have c_355 : ¬ (0 ≤ u381) := of_decide_eq_false c_355
                                refine ml_st (S' := (359, [(1, .int u381), (0, .ref m0), (2, .int (f2 f fA)), (3, .int 0), (4, .int i22_4), (6, .int i22_4), (7, .int i277_7)], [.int 0], M374)) rfl rfl rfl ?_
                                exact ml_ret rfl (r_z (Or.inl rfl)) (⟨_, _, _, rfl, hR378, (((eqI.rf.tr hI_22 (by decide)).put f368 (by decide)).tr hI379 (by decide)), (((((((((eqR.rf.tr hV_22 (by decide)).put f303 (by decide)).put f317 (by decide)).put f331 (by decide)).put f337 (by decide)).put f343 (by decide)).put f353 (by decide)).put f363 (by decide)).tr hV380 (by decide)), Or.inl rfl, Or.inl rfl⟩)
                            · have c_281 : ¬ (i22_4 ≤ i277_7) := of_decide_eq_false c_281
                              have hql := i_nle c_281
                              refine ml_st (S' := (285, [(0, .ref m0), (1, .int i22_1), (2, .int (f2 f fA)), (3, .int 0), (4, .int i22_4), (6, .int i22_4), (7, .int i277_7)], [.ref m0], M358)) rfl rfl rfl ?_
                              refine rg_ref (S' := (288, [(0, .ref m0), (1, .int i22_1), (2, .int (f2 f fA)), (3, .int 0), (4, .int i22_4), (6, .int i22_4), (7, .int i277_7)], [.ref (q 28)], M358)) rfl hR360 rfl rfl ?_
                              refine ml_st (S' := (290, [(0, .ref m0), (1, .int i22_1), (2, .int (f2 f fA)), (3, .int 0), (4, .int i22_4), (6, .int i22_4), (7, .int i277_7)], [.int i277_7, .ref (q 28)], M358)) rfl rfl rfl ?_
                              obtain ⟨v383, hv384⟩ := hfk i277_7.toNatClampNeg (by show i277_7.toInt.toNat < i22_4.toInt.toNat; omega) 28 (by decide)
                              have q385 : pw i22_4.toNatClampNeg R_22 R359 := (((((((pw.rf.st g302 f303 rfl).st g316 f317 rfl).st g330 f331 rfl).st g336 f337 rfl).st g342 f343 rfl).st g352 f353 rfl).st g362 f363 rfl)
                              refine ra_ld (k := 28) (S' := (291, [(0, .ref m0), (1, .int i22_1), (2, .int (f2 f fA)), (3, .int 0), (4, .int i22_4), (6, .int i22_4), (7, .int i277_7)], [.int v383], M358)) rfl hR360 rfl (vin_lt hq0 (by omega)) ((q385 28 _ (by show i277_7.toInt.toNat ≠ i22_4.toInt.toNat; omega)).trans hv384) rfl ?_
                              refine ml_st (S' := (292, [(0, .ref m0), (1, .int i22_1), (2, .int (f2 f fA)), (3, .int 0), (4, .int i22_4), (6, .int i22_4), (7, .int i277_7)], [.ref m0, .int v383], M358)) rfl rfl rfl ?_
                              refine rg_ref (S' := (295, [(0, .ref m0), (1, .int i22_1), (2, .int (f2 f fA)), (3, .int 0), (4, .int i22_4), (6, .int i22_4), (7, .int i277_7)], [.ref (q 28), .int v383], M358)) rfl hR360 rfl rfl ?_
                              refine ml_st (S' := (297, [(0, .ref m0), (1, .int i22_1), (2, .int (f2 f fA)), (3, .int 0), (4, .int i22_4), (6, .int i22_4), (7, .int i277_7)], [.int i22_4, .ref (q 28), .int v383], M358)) rfl rfl rfl ?_
                              refine ra_ld (k := 28) (S' := (298, [(0, .ref m0), (1, .int i22_1), (2, .int (f2 f fA)), (3, .int 0), (4, .int i22_4), (6, .int i22_4), (7, .int i277_7)], [.int (pyf py (f2 f (i22_1 + 2))), .int v383], M358)) rfl hR360 rfl (vin_lt hk0 (by omega)) ((congrFun ((f363 28 (by decide)).trans ((f353 28 (by decide)).trans ((f343 28 (by decide)).trans ((f337 28 (by decide)).trans ((f331 28 (by decide))))))) _).trans e315) rfl ?_
                              refine ml_if2 (S1 := (326, [(0, .ref m0), (1, .int i22_1), (2, .int (f2 f fA)), (3, .int 0), (4, .int i22_4), (6, .int i22_4), (7, .int i277_7)], [], M358)) (S2 := (301, [(0, .ref m0), (1, .int i22_1), (2, .int (f2 f fA)), (3, .int 0), (4, .int i22_4), (6, .int i22_4), (7, .int i277_7)], [], M358)) rfl rfl rfl (fun c_298 => ?_) (fun c_298 => ?_)
                              · have c_298 : ¬ v383 = (pyf py (f2 f (i22_1 + 2))) := of_decide_eq_true c_298
                                refine ml_st (S' := (329, [(7, .int (i277_7 + 1)), (0, .ref m0), (1, .int i22_1), (2, .int (f2 f fA)), (3, .int 0), (4, .int i22_4), (6, .int i22_4)], [], M358)) rfl rfl rfl ?_
                                refine ml_st (S' := (277, [(0, .ref m0), (1, .int i22_1), (2, .int (f2 f fA)), (3, .int 0), (4, .int i22_4), (6, .int i22_4), (7, .int (i277_7 + 1))], [], M358)) rfl rfl rfl ?_
                                exact ih_277 (i277_7 + 1) (loop_inc (Int32.not_le.mp c_281) hn_277) (by rw [inc_lt (Int32.not_le.mp c_281)]; omega)
                              · have c_298 : ¬ (¬ v383 = (pyf py (f2 f (i22_1 + 2)))) := of_decide_eq_false c_298
                                refine ml_st (S' := (302, [(0, .ref m0), (1, .int i22_1), (2, .int (f2 f fA)), (3, .int 0), (4, .int i22_4), (6, .int i22_4), (7, .int i277_7)], [.ref m0], M358)) rfl rfl rfl ?_
                                refine rg_ref (S' := (305, [(0, .ref m0), (1, .int i22_1), (2, .int (f2 f fA)), (3, .int 0), (4, .int i22_4), (6, .int i22_4), (7, .int i277_7)], [.ref (q 29)], M358)) rfl hR360 rfl rfl ?_
                                refine ml_st (S' := (307, [(0, .ref m0), (1, .int i22_1), (2, .int (f2 f fA)), (3, .int 0), (4, .int i22_4), (6, .int i22_4), (7, .int i277_7)], [.int i277_7, .ref (q 29)], M358)) rfl rfl rfl ?_
                                obtain ⟨v386, hv387⟩ := hfk i277_7.toNatClampNeg (by show i277_7.toInt.toNat < i22_4.toInt.toNat; omega) 29 (by decide)
                                have q388 : pw i22_4.toNatClampNeg R_22 R359 := (((((((pw.rf.st g302 f303 rfl).st g316 f317 rfl).st g330 f331 rfl).st g336 f337 rfl).st g342 f343 rfl).st g352 f353 rfl).st g362 f363 rfl)
                                refine ra_ld (k := 29) (S' := (308, [(0, .ref m0), (1, .int i22_1), (2, .int (f2 f fA)), (3, .int 0), (4, .int i22_4), (6, .int i22_4), (7, .int i277_7)], [.int v386], M358)) rfl hR360 rfl (vin_lt hq0 (by omega)) ((q388 29 _ (by show i277_7.toInt.toNat ≠ i22_4.toInt.toNat; omega)).trans hv387) rfl ?_
                                refine ml_st (S' := (309, [(0, .ref m0), (1, .int i22_1), (2, .int (f2 f fA)), (3, .int 0), (4, .int i22_4), (6, .int i22_4), (7, .int i277_7)], [.ref m0, .int v386], M358)) rfl rfl rfl ?_
                                refine rg_ref (S' := (312, [(0, .ref m0), (1, .int i22_1), (2, .int (f2 f fA)), (3, .int 0), (4, .int i22_4), (6, .int i22_4), (7, .int i277_7)], [.ref (q 29), .int v386], M358)) rfl hR360 rfl rfl ?_
                                refine ml_st (S' := (314, [(0, .ref m0), (1, .int i22_1), (2, .int (f2 f fA)), (3, .int 0), (4, .int i22_4), (6, .int i22_4), (7, .int i277_7)], [.int i22_4, .ref (q 29), .int v386], M358)) rfl rfl rfl ?_
                                refine ra_ld (k := 29) (S' := (315, [(0, .ref m0), (1, .int i22_1), (2, .int (f2 f fA)), (3, .int 0), (4, .int i22_4), (6, .int i22_4), (7, .int i277_7)], [.int (pyf py (f2 f (i22_1 + 4))), .int v386], M358)) rfl hR360 rfl (vin_lt hk0 (by omega)) ((congrFun ((f363 29 (by decide)).trans ((f353 29 (by decide)).trans ((f343 29 (by decide)).trans ((f337 29 (by decide)))))) _).trans e329) rfl ?_
                                refine ml_if2 (S1 := (326, [(0, .ref m0), (1, .int i22_1), (2, .int (f2 f fA)), (3, .int 0), (4, .int i22_4), (6, .int i22_4), (7, .int i277_7)], [], M358)) (S2 := (318, [(0, .ref m0), (1, .int i22_1), (2, .int (f2 f fA)), (3, .int 0), (4, .int i22_4), (6, .int i22_4), (7, .int i277_7)], [], M358)) rfl rfl rfl (fun c_315 => ?_) (fun c_315 => ?_)
                                · have c_315 : ¬ v386 = (pyf py (f2 f (i22_1 + 4))) := of_decide_eq_true c_315
                                  refine ml_st (S' := (329, [(7, .int (i277_7 + 1)), (0, .ref m0), (1, .int i22_1), (2, .int (f2 f fA)), (3, .int 0), (4, .int i22_4), (6, .int i22_4)], [], M358)) rfl rfl rfl ?_
                                  refine ml_st (S' := (277, [(0, .ref m0), (1, .int i22_1), (2, .int (f2 f fA)), (3, .int 0), (4, .int i22_4), (6, .int i22_4), (7, .int (i277_7 + 1))], [], M358)) rfl rfl rfl ?_
                                  exact ih_277 (i277_7 + 1) (loop_inc (Int32.not_le.mp c_281) hn_277) (by rw [inc_lt (Int32.not_le.mp c_281)]; omega)
                                · have c_315 : ¬ (¬ v386 = (pyf py (f2 f (i22_1 + 4)))) := of_decide_eq_false c_315
                                  refine ml_blk 3 (S' := (322, [(0, .ref m0), (1, .int i22_1), (2, .int (f2 f fA)), (3, .int 0), (4, .int i22_4), (6, .int i22_4), (7, .int i277_7)], [.int i22_1, .int 22, .ref m0], M358)) rfl ?_
                                  refine ml_call (a := [.ref m0, .int 22, .int i22_1]) (rest := []) rfl (hR360.okc rfl rfl rfl) rfl rfl (rm_wrong hR360 (by omega)) (fun v389 M390 h391 => ?_)
                                  obtain ⟨u397, I392, R393, rfl, hR394, hI395, hV396, z398, w399⟩ := h391
                                  show ml _ _ _ (325, [(0, .ref m0), (1, .int i22_1), (2, .int (f2 f fA)), (3, .int 0), (4, .int i22_4), (6, .int i22_4), (7, .int i277_7)], [.int u397], M390) _
                                  exact ml_ret rfl (r_z (z398)) (⟨_, _, _, rfl, hR394, ((eqI.rf.tr hI_22 (by decide)).tr hI395 (by decide)), (((((((((eqR.rf.tr hV_22 (by decide)).put f303 (by decide)).put f317 (by decide)).put f331 (by decide)).put f337 (by decide)).put f343 (by decide)).put f353 (by decide)).put f363 (by decide)).tr hV396 (by decide)), z398, Or.inl w399⟩)
                        exact L_277 _ 0 (Nat.le_refl _) (by decide)
                      · have c_166 : ¬ (¬ u295 = 0) := of_decide_eq_false c_166
                        refine ml_blk 3 (S' := (173, [(0, .ref m0), (1, .int i22_1)], [.int i22_1, .int 21, .ref m0], M_22)) rfl ?_
                        refine ml_blk 2 (S' := (175, [(0, .ref m0), (1, .int i22_1)], [.int (i22_1 + 4), .int 21, .ref m0], M_22)) rfl ?_
                        refine ml_call (a := [.ref m0, .int 21, .int (i22_1 + 4)]) (rest := []) rfl (hR_22.okc rfl rfl rfl) rfl rfl (rm_wrong hR_22 (by omega)) (fun v400 M401 h402 => ?_)
                        obtain ⟨u408, I403, R404, rfl, hR405, hI406, hV407, z409, w410⟩ := h402
                        show ml _ _ _ (178, [(0, .ref m0), (1, .int i22_1)], [.int u408], M401) _
                        exact ml_ret rfl (r_z (z409)) (⟨_, _, _, rfl, hR405, ((eqI.rf.tr hI_22 (by decide)).tr hI406 (by decide)), ((eqR.rf.tr hV_22 (by decide)).tr hV407 (by decide)), z409, Or.inl w410⟩)
                  · have c_123 : ¬ (¬ u267 = 0) := of_decide_eq_false c_123
                    refine ml_blk 3 (S' := (130, [(0, .ref m0), (1, .int i22_1)], [.int i22_1, .int 20, .ref m0], M_22)) rfl ?_
                    refine ml_blk 2 (S' := (132, [(0, .ref m0), (1, .int i22_1)], [.int (i22_1 + 2), .int 20, .ref m0], M_22)) rfl ?_
                    refine ml_call (a := [.ref m0, .int 20, .int (i22_1 + 2)]) (rest := []) rfl (hR_22.okc rfl rfl rfl) rfl rfl (rm_wrong hR_22 (by omega)) (fun v411 M412 h413 => ?_)
                    obtain ⟨u419, I414, R415, rfl, hR416, hI417, hV418, z420, w421⟩ := h413
                    show ml _ _ _ (135, [(0, .ref m0), (1, .int i22_1)], [.int u419], M412) _
                    exact ml_ret rfl (r_z (z420)) (⟨_, _, _, rfl, hR416, ((eqI.rf.tr hI_22 (by decide)).tr hI417 (by decide)), ((eqR.rf.tr hV_22 (by decide)).tr hV418 (by decide)), z420, Or.inl w421⟩)
              refine ml_if (S1 := (92, [(0, .ref m0), (1, .int i22_1), (2, .int (f2 f fA)), (3, .int 0), (4, .int i22_4), (5, .int (f2 f i22_1))], [], M_22)) (S2 := (73, [(0, .ref m0), (1, .int i22_1), (2, .int (f2 f fA)), (3, .int 0), (4, .int i22_4), (5, .int (f2 f i22_1))], [], M_22)) rfl rfl rfl (fun c_70 => ?_) (fun c_70 => ?_)
              · have c_70 : (nf &&& 512) = 0 := of_decide_eq_true c_70
                exact J_92 
              · have c_70 : ¬ ((nf &&& 512) = 0) := of_decide_eq_false c_70
                refine ml_blk 3 (S' := (79, [(0, .ref m0), (1, .int i22_1), (2, .int (f2 f fA)), (3, .int 0), (4, .int i22_4), (5, .int (f2 f i22_1))], [.int ((f2 f i22_1) &&& 16607)], M_22)) rfl ?_
                refine ml_st (S' := (81, [(0, .ref m0), (1, .int i22_1), (2, .int (f2 f fA)), (3, .int 0), (4, .int i22_4), (5, .int (f2 f i22_1))], [.int 25, .int ((f2 f i22_1) &&& 16607)], M_22)) rfl rfl rfl ?_
                refine ml_if2 (S1 := (92, [(0, .ref m0), (1, .int i22_1), (2, .int (f2 f fA)), (3, .int 0), (4, .int i22_4), (5, .int (f2 f i22_1))], [], M_22)) (S2 := (84, [(0, .ref m0), (1, .int i22_1)], [], M_22)) rfl rfl rfl (fun c_81 => ?_) (fun c_81 => ?_)
                · have c_81 : ((f2 f i22_1) &&& 16607) = 25 := of_decide_eq_true c_81
                  exact J_92 
                · have c_81 : ¬ (((f2 f i22_1) &&& 16607) = 25) := of_decide_eq_false c_81
                  refine ml_blk 3 (S' := (88, [(0, .ref m0), (1, .int i22_1)], [.int i22_1, .int 19, .ref m0], M_22)) rfl ?_
                  refine ml_call (a := [.ref m0, .int 19, .int i22_1]) (rest := []) rfl (hR_22.okc rfl rfl rfl) rfl rfl (rm_wrong hR_22 (by omega)) (fun v422 M423 h424 => ?_)
                  obtain ⟨u430, I425, R426, rfl, hR427, hI428, hV429, z431, w432⟩ := h424
                  show ml _ _ _ (91, [(0, .ref m0), (1, .int i22_1)], [.int u430], M423) _
                  exact ml_ret rfl (r_z (z431)) (⟨_, _, _, rfl, hR427, ((eqI.rf.tr hI_22 (by decide)).tr hI428 (by decide)), ((eqR.rf.tr hV_22 (by decide)).tr hV429 (by decide)), z431, Or.inl w432⟩)
  exact L_22 _ (fA + 2) 0 _ _ _ (Nat.le_refl _) hR eqI.rf eqR.rf (⟨by decide, by show (0 : Int) ≤ _; exact f2_pos, hk25, by rw [show ((f2 f fA).toInt - (0 : Int32).toInt).toNat = (f2 f fA).toInt.toNat by have : (0 : Int32).toInt = 0 := rfl; omega]; exact hmb.2.2.1, by rw [eA2]; have : (0 : Int32).toInt = 0 := rfl; omega, fun x hx => absurd hx (Nat.not_lt_zero x)⟩)
end
