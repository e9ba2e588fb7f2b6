set_option maxHeartbeats 2000000 in
theorem rm_places {g : xe_G}  {m0 : Nat} {q : Nat → Nat} {z : Nat × Nat} {I : rI} {R : rR} {M : mi_H} {x1 kn : Int32} {n : Nat} {f : Nat → Int32}  (hR : RS g m0 q z I R M) (hk18 : I 18 = some kn) (hG : (kn < 0 ∨ GD n f I R)) {d : Nat} (hd : 6 ≤ d) : mt (mT g) d 232 [.ref m0, .int x1] M (fun v M' => ∃ (x : Int32) (I' : rI) (R' : rR), v = some (.int x) ∧ RS g m0 q z I' R' M' ∧ eqI [0] I I' ∧ eqR [] R R') := by
  obtain ⟨d, rfl⟩ : ∃ e, d = e + 1 := ⟨d - 1, by omega⟩
  refine mt_in (b := mb_232 g) rfl rfl ?_
  show ml (mT g) d (mb_232 g).2 (0, [(0, .ref m0), (1, .int x1)], [], M) _
  refine ml_blk 2 (S' := (2, [(0, .ref m0), (1, .int x1)], [.int 0, .ref m0], M)) rfl ?_
  refine rp_int rfl hR rfl (fun M11 I12 hR13 e14 f15 => ?_)
  show ml _ _ _ (5, [(0, .ref m0), (1, .int x1)], [], M11) _
  refine ml_st (S' := (6, [(0, .ref m0), (1, .int x1)], [.ref m0], M11)) rfl rfl rfl ?_
  refine rg_int (S' := (9, [(0, .ref m0), (1, .int x1)], [.int kn], M11)) rfl hR13 rfl ((f15 18 (by decide)).trans (hk18)) rfl ?_
  refine ml_if (S1 := (21, [], [], M11)) (S2 := (12, [(0, .ref m0), (1, .int x1)], [], M11)) rfl rfl rfl (fun c_9 => ?_) (fun c_9 => ?_)
  · have c_9 : kn < 0 := of_decide_eq_true c_9
    refine ml_st (S' := (22, [], [.int (-1)], M11)) rfl rfl rfl ?_
    exact ml_ret rfl (rfl) (⟨_, _, _, rfl, hR13, (eqI.rf.put f15 (by decide)), eqR.rf⟩)
  · have c_9 : ¬ (kn < 0) := of_decide_eq_false c_9
    obtain ⟨S, cN, sa, sl, ch, cp, mj, pa, py, hA, fA, mA, aA, nf, ni, kf, km, hF0, hY0, hP0, hE0, hFO, kq54, kq58, kq61, hkf, kq25, hfk, hkm, kq26, hmk, hNW⟩ := hG.resolve_left (c_9)
    have hn := hF0.1
    refine ml_blk 2 (S' := (14, [(0, .ref m0), (1, .int x1)], [.int x1, .ref m0], M11)) rfl ?_
    have hF16 : FK n f I12 R := (hF0.mono (pIx f15 (by decide)) (fun _ _ => rfl))
    have hP17 : PK n f S cp mj pa py I12 R := (hP0.mono (pIx f15 (by decide)) (fun _ _ => rfl))
    refine ml_call (a := [.ref m0, .int x1]) (rest := []) rfl (hR13.okc rfl rfl rfl) rfl rfl (rm_tag hR13 hF16 hP17 (by omega)) (fun v18 M19 h20 => ?_)
    obtain ⟨rfl, h20⟩ := h20
    rw [h20]
    show ml _ _ _ (17, [(0, .ref m0), (1, .int x1)], [.int (tgf f cp pa x1)], M11) _
    refine ml_st (S' := (18, [(0, .ref m0), (1, .int x1)], [.int 1, .int (tgf f cp pa x1)], M11)) rfl rfl rfl ?_
    refine ml_if2 (S1 := (23, [(0, .ref m0), (1, .int x1)], [], M11)) (S2 := (21, [], [], M11)) rfl rfl rfl (fun c_18 => ?_) (fun c_18 => ?_)
    · have c_18 : (tgf f cp pa x1) = 1 := of_decide_eq_true c_18
      have hy := hP0.y (show tgf f cp pa x1 = 1 from c_18)
      have hs0 := hy.2.2.1
      have hs1 := hy.2.2.2
      have hsl9 := hY0.s hs0 hs1
      have hs66 : (sL sl (pyf py x1)).toInt ≤ 66000 := by show (sl (pyf py x1).toNatClampNeg).toInt ≤ 66000; omega
      refine ml_blk 2 (S' := (25, [(0, .ref m0), (1, .int x1)], [.int x1, .ref m0], M11)) rfl ?_
      refine ml_call (a := [.ref m0, .int x1]) (rest := []) rfl (hR13.okc rfl rfl rfl) rfl rfl (rm_symOf hR13 hP17 (c_18) (by omega)) (fun v21 M22 h23 => ?_)
      obtain ⟨rfl, h23⟩ := h23
      rw [h23]
      show ml _ _ _ (28, [(0, .ref m0), (1, .int x1)], [.int (pyf py x1)], M11) _
      refine ml_st (S' := (29, [(2, .int (pyf py x1)), (0, .ref m0), (1, .int x1)], [], M11)) rfl rfl rfl ?_
      refine ml_blk 2 (S' := (31, [(2, .int (pyf py x1)), (0, .ref m0), (1, .int x1)], [.int (pyf py x1), .ref m0], M11)) rfl ?_
      have hY24 : SK S cN sa sl ch I12 R := (hY0.mono (pIx f15 (by decide)) (fun _ _ => rfl))
      refine ml_call (a := [.ref m0, .int (pyf py x1)]) (rest := []) rfl (hR13.okc rfl rfl rfl) rfl rfl (rm_isField hR13 hY24 (hs0) (hs1) (by omega)) (fun v25 M26 h27 => ?_)
      obtain ⟨⟨u28, rfl, z29, w30⟩, h27⟩ := h27
      rw [h27]
      show ml _ _ _ (34, [(2, .int (pyf py x1)), (0, .ref m0), (1, .int x1)], [.int u28], M11) _
      refine ml_if (S1 := (52, [(2, .int (pyf py x1)), (0, .ref m0), (1, .int x1)], [], M11)) (S2 := (37, [(2, .int (pyf py x1)), (0, .ref m0), (1, .int x1)], [], M11)) rfl rfl rfl (fun c_34 => ?_) (fun c_34 => ?_)
      · have c_34 : u28 = 0 := of_decide_eq_true c_34
        refine ml_blk 2 (S' := (54, [(2, .int (pyf py x1)), (0, .ref m0), (1, .int x1)], [.int (pyf py x1), .ref m0], M11)) rfl ?_
        refine ml_call (a := [.ref m0, .int (pyf py x1)]) (rest := []) rfl (hR13.okc rfl rfl rfl) rfl rfl (rm_isMethodX hR13 hY24 (hs0) (hs1) (by omega)) (fun v31 M32 h33 => ?_)
        obtain ⟨⟨u34, rfl, z35, w36⟩, h33⟩ := h33
        rw [h33]
        show ml _ _ _ (57, [(2, .int (pyf py x1)), (0, .ref m0), (1, .int x1)], [.int u34], M11) _
        refine ml_if (S1 := (62, [(2, .int (pyf py x1)), (0, .ref m0), (1, .int x1)], [], M11)) (S2 := (60, [(2, .int (pyf py x1)), (0, .ref m0), (1, .int x1)], [], M11)) rfl rfl rfl (fun c_57 => ?_) (fun c_57 => ?_)
        · have c_57 : ¬ u34 = 0 := of_decide_eq_true c_57
          obtain ⟨hmtx, hagx⟩ := w36.resolve_left c_57
          have hL1 : ((sL sl (pyf py x1)) - 1).toInt = (sL sl (pyf py x1)).toInt - 1 := i_sub (by have : (1 : Int32).toInt = 1 := rfl; have := hmtx.2; omega) (by have : (1 : Int32).toInt = 1 := rfl; have := hmtx.2; omega)
          have hl3 := hmtx.2
          refine ml_blk 2 (S' := (64, [(2, .int (pyf py x1)), (0, .ref m0), (1, .int x1)], [.int (pyf py x1), .ref m0], M11)) rfl ?_
          refine ml_call (a := [.ref m0, .int (pyf py x1)]) (rest := []) rfl (hR13.okc rfl rfl rfl) rfl rfl (rm_length hR13 hY24 (hs0) (hs1) (by omega)) (fun v37 M38 h39 => ?_)
          obtain ⟨rfl, h39⟩ := h39
          rw [h39]
          show ml _ _ _ (67, [(2, .int (pyf py x1)), (0, .ref m0), (1, .int x1)], [.int (sL sl (pyf py x1))], M11) _
          refine ml_blk 2 (S' := (69, [(2, .int (pyf py x1)), (0, .ref m0), (1, .int x1)], [.int ((sL sl (pyf py x1)) - 1)], M11)) rfl ?_
          refine ml_st (S' := (70, [(3, .int ((sL sl (pyf py x1)) - 1)), (2, .int (pyf py x1)), (0, .ref m0), (1, .int x1)], [], M11)) rfl rfl rfl ?_
          refine ml_st (S' := (71, [(3, .int ((sL sl (pyf py x1)) - 1)), (2, .int (pyf py x1)), (0, .ref m0), (1, .int x1)], [.int 1], M11)) rfl rfl rfl ?_
          refine ml_st (S' := (73, [(0, .ref m0), (2, .int (pyf py x1)), (3, .int ((sL sl (pyf py x1)) - 1)), (4, .int 1)], [], M11)) rfl rfl rfl ?_
          have L_73 : ∀ (n_73 : Nat) (i73_4 : Int32), (2147483648 - i73_4.toInt).toNat ≤ n_73 → (AGX (tx sa ch (pyf py x1)) (sL sl (pyf py x1)) i73_4) → ml (mT g) d (mb_232 g).2 (73, [(0, .ref m0), (2, .int (pyf py x1)), (3, .int ((sL sl (pyf py x1)) - 1)), (4, .int i73_4)], [], M11) (fun v M' => ∃ (x : Int32) (I' : rI) (R' : rR), v = some (.int x) ∧ RS g m0 q z I' R' M' ∧ eqI [0] I I' ∧ eqR [] R R') := by
            intro n_73
            induction n_73 with
            | zero => intro i73_4 hn; exact (loop_zero hn).elim
            | succ n_73 ih_73 =>
              intro i73_4 hn_73 hi_73
              have hb := hi_73.w.at
              refine ml_blk 3 (S' := (77, [(0, .ref m0), (2, .int (pyf py x1)), (3, .int ((sL sl (pyf py x1)) - 1)), (4, .int i73_4)], [.int i73_4, .int (pyf py x1), .ref m0], M11)) rfl ?_
              refine ml_call (a := [.ref m0, .int (pyf py x1), .int i73_4]) (rest := []) rfl (hR13.okc rfl rfl rfl) rfl rfl (rm_at hR13 hY24 (hs0) (hs1) (hb.1) (hb.2) (by omega)) (fun v40 M41 h42 => ?_)
              obtain ⟨rfl, h42⟩ := h42
              rw [h42]
              show ml _ _ _ (80, [(0, .ref m0), (2, .int (pyf py x1)), (3, .int ((sL sl (pyf py x1)) - 1)), (4, .int i73_4)], [.int (tx sa ch (pyf py x1) i73_4)], M11) _
              refine ml_st (S' := (82, [(0, .ref m0), (2, .int (pyf py x1)), (3, .int ((sL sl (pyf py x1)) - 1)), (4, .int i73_4)], [.int 41, .int (tx sa ch (pyf py x1) i73_4)], M11)) rfl rfl rfl ?_
              refine ml_if2 (S1 := (97, [(0, .ref m0), (2, .int (pyf py x1)), (3, .int ((sL sl (pyf py x1)) - 1)), (4, .int i73_4)], [], M11)) (S2 := (85, [(0, .ref m0), (2, .int (pyf py x1)), (3, .int ((sL sl (pyf py x1)) - 1)), (4, .int i73_4)], [], M11)) rfl rfl rfl (fun c_82 => ?_) (fun c_82 => ?_)
              · have c_82 : (tx sa ch (pyf py x1) i73_4) = 41 := of_decide_eq_true c_82
                have hz := hi_73.end c_82
                have er : (i73_4 + 1).toInt = i73_4.toInt + 1 := i_add (by have : (1 : Int32).toInt = 1 := rfl; omega) (by have : (1 : Int32).toInt = 1 := rfl; omega)
                refine ml_blk 2 (S' := (99, [(0, .ref m0), (2, .int (pyf py x1)), (3, .int ((sL sl (pyf py x1)) - 1)), (4, .int i73_4)], [.int (pyf py x1), .ref m0], M11)) rfl ?_
                refine ml_call (a := [.ref m0, .int (pyf py x1)]) (rest := []) rfl (hR13.okc rfl rfl rfl) rfl rfl (rm_places0 hR13 hY24 (hs0) (hs1) (hmtx.1) (by omega)) (fun v43 M44 h45 => ?_)
                obtain ⟨⟨u46, rfl⟩, h45⟩ := h45
                rw [h45]
                show ml _ _ _ (102, [(0, .ref m0), (2, .int (pyf py x1)), (3, .int ((sL sl (pyf py x1)) - 1)), (4, .int i73_4)], [.int u46], M11) _
                refine ml_blk 3 (S' := (107, [(0, .ref m0), (2, .int (pyf py x1)), (3, .int ((sL sl (pyf py x1)) - 1)), (4, .int i73_4)], [.int (pyf py x1), .ref m0, .int 1024, .int u46], M11)) rfl ?_
                refine ml_st (S' := (108, [(0, .ref m0), (2, .int (pyf py x1)), (3, .int ((sL sl (pyf py x1)) - 1)), (4, .int i73_4)], [.int ((sL sl (pyf py x1)) - 1), .int (pyf py x1), .ref m0, .int 1024, .int u46], M11)) rfl rfl rfl ?_
                refine ml_call (a := [.ref m0, .int (pyf py x1), .int ((sL sl (pyf py x1)) - 1)]) (rest := [.int 1024, .int u46]) rfl (hR13.okc rfl rfl rfl) rfl rfl (rm_at hR13 hY24 (hs0) (hs1) (by omega) (by omega) (by omega)) (fun v47 M48 h49 => ?_)
                obtain ⟨rfl, h49⟩ := h49
                rw [h49]
                show ml _ _ _ (111, [(0, .ref m0), (2, .int (pyf py x1)), (3, .int ((sL sl (pyf py x1)) - 1)), (4, .int i73_4)], [.int (tx sa ch (pyf py x1) ((sL sl (pyf py x1)) - 1)), .int 1024, .int u46], M11) _
                refine ml_st (S' := (113, [(0, .ref m0), (2, .int (pyf py x1)), (3, .int ((sL sl (pyf py x1)) - 1)), (4, .int i73_4)], [.int 86, .int (tx sa ch (pyf py x1) ((sL sl (pyf py x1)) - 1)), .int 1024, .int u46], M11)) rfl rfl rfl ?_
                refine ml_if2 (S1 := (128, [(0, .ref m0), (2, .int (pyf py x1)), (4, .int i73_4)], [.int 1024, .int u46], M11)) (S2 := (116, [(0, .ref m0), (2, .int (pyf py x1)), (3, .int ((sL sl (pyf py x1)) - 1)), (4, .int i73_4)], [.int 1024, .int u46], M11)) rfl rfl rfl (fun c_113 => ?_) (fun c_113 => ?_)
                · have c_113 : ¬ (tx sa ch (pyf py x1) ((sL sl (pyf py x1)) - 1)) = 86 := of_decide_eq_true c_113
                  refine ml_blk 3 (S' := (132, [(0, .ref m0), (2, .int (pyf py x1)), (4, .int i73_4)], [.int i73_4, .int (pyf py x1), .ref m0, .int 1024, .int u46], M11)) rfl ?_
                  refine ml_blk 2 (S' := (134, [(0, .ref m0), (2, .int (pyf py x1)), (4, .int i73_4)], [.int (i73_4 + 1), .int (pyf py x1), .ref m0, .int 1024, .int u46], M11)) rfl ?_
                  refine ml_call (a := [.ref m0, .int (pyf py x1), .int (i73_4 + 1)]) (rest := [.int 1024, .int u46]) rfl (hR13.okc rfl rfl rfl) rfl rfl (rm_wide hR13 hY24 (hs0) (hs1) (by omega) (by omega) (by omega)) (fun v50 M51 h52 => ?_)
                  obtain ⟨⟨u53, rfl, z54⟩, h52⟩ := h52
                  rw [h52]
                  show ml _ _ _ (137, [(0, .ref m0), (2, .int (pyf py x1)), (4, .int i73_4)], [.int u53, .int 1024, .int u46], M11) _
                  refine ml_if (S1 := (144, [(0, .ref m0), (2, .int (pyf py x1)), (4, .int i73_4)], [.int 1024, .int u46], M11)) (S2 := (140, [(0, .ref m0), (2, .int (pyf py x1)), (4, .int i73_4)], [.int 1024, .int u46], M11)) rfl rfl rfl (fun c_137 => ?_) (fun c_137 => ?_)
                  · have c_137 : u53 = 0 := of_decide_eq_true c_137
                    refine ml_st (S' := (145, [], [.int 1, .int 1024, .int u46], M11)) rfl rfl rfl ?_
                    refine ml_blk 2 (S' := (147, [], [.int (u46 + (1024 * 1))], M11)) rfl ?_
                    exact ml_ret rfl (rfl) (⟨_, _, _, rfl, hR13, (eqI.rf.put f15 (by decide)), eqR.rf⟩)
                  · have c_137 : ¬ (u53 = 0) := of_decide_eq_false c_137
                    refine ml_st (S' := (141, [(0, .ref m0), (2, .int (pyf py x1)), (4, .int i73_4)], [.int 2, .int 1024, .int u46], M11)) rfl rfl rfl ?_
                    refine ml_st (S' := (145, [], [.int 2, .int 1024, .int u46], M11)) rfl rfl rfl ?_
                    refine ml_blk 2 (S' := (147, [], [.int (u46 + (1024 * 2))], M11)) rfl ?_
                    exact ml_ret rfl (rfl) (⟨_, _, _, rfl, hR13, (eqI.rf.put f15 (by decide)), eqR.rf⟩)
                · have c_113 : ¬ (¬ (tx sa ch (pyf py x1) ((sL sl (pyf py x1)) - 1)) = 86) := of_decide_eq_false c_113
                  refine ml_blk 3 (S' := (120, [(0, .ref m0), (2, .int (pyf py x1)), (3, .int ((sL sl (pyf py x1)) - 1)), (4, .int i73_4)], [.int 1, .int i73_4, .int ((sL sl (pyf py x1)) - 1), .int 1024, .int u46], M11)) rfl ?_
                  refine ml_st (S' := (121, [(0, .ref m0), (2, .int (pyf py x1)), (3, .int ((sL sl (pyf py x1)) - 1)), (4, .int i73_4)], [.int (i73_4 + 1), .int ((sL sl (pyf py x1)) - 1), .int 1024, .int u46], M11)) rfl rfl rfl ?_
                  refine ml_if2 (S1 := (128, [(0, .ref m0), (2, .int (pyf py x1)), (4, .int i73_4)], [.int 1024, .int u46], M11)) (S2 := (124, [(0, .ref m0), (2, .int (pyf py x1)), (3, .int ((sL sl (pyf py x1)) - 1)), (4, .int i73_4)], [.int 1024, .int u46], M11)) rfl rfl rfl (fun c_121 => ?_) (fun c_121 => ?_)
                  · have c_121 : ¬ ((sL sl (pyf py x1)) - 1) = (i73_4 + 1) := of_decide_eq_true c_121
                    refine ml_blk 3 (S' := (132, [(0, .ref m0), (2, .int (pyf py x1)), (4, .int i73_4)], [.int i73_4, .int (pyf py x1), .ref m0, .int 1024, .int u46], M11)) rfl ?_
                    refine ml_blk 2 (S' := (134, [(0, .ref m0), (2, .int (pyf py x1)), (4, .int i73_4)], [.int (i73_4 + 1), .int (pyf py x1), .ref m0, .int 1024, .int u46], M11)) rfl ?_
                    refine ml_call (a := [.ref m0, .int (pyf py x1), .int (i73_4 + 1)]) (rest := [.int 1024, .int u46]) rfl (hR13.okc rfl rfl rfl) rfl rfl (rm_wide hR13 hY24 (hs0) (hs1) (by omega) (by omega) (by omega)) (fun v55 M56 h57 => ?_)
                    obtain ⟨⟨u58, rfl, z59⟩, h57⟩ := h57
                    rw [h57]
                    show ml _ _ _ (137, [(0, .ref m0), (2, .int (pyf py x1)), (4, .int i73_4)], [.int u58, .int 1024, .int u46], M11) _
                    refine ml_if (S1 := (144, [(0, .ref m0), (2, .int (pyf py x1)), (4, .int i73_4)], [.int 1024, .int u46], M11)) (S2 := (140, [(0, .ref m0), (2, .int (pyf py x1)), (4, .int i73_4)], [.int 1024, .int u46], M11)) rfl rfl rfl (fun c_137 => ?_) (fun c_137 => ?_)
                    · have c_137 : u58 = 0 := of_decide_eq_true c_137
                      refine ml_st (S' := (145, [], [.int 1, .int 1024, .int u46], M11)) rfl rfl rfl ?_
                      refine ml_blk 2 (S' := (147, [], [.int (u46 + (1024 * 1))], M11)) rfl ?_
                      exact ml_ret rfl (rfl) (⟨_, _, _, rfl, hR13, (eqI.rf.put f15 (by decide)), eqR.rf⟩)
                    · have c_137 : ¬ (u58 = 0) := of_decide_eq_false c_137
                      refine ml_st (S' := (141, [(0, .ref m0), (2, .int (pyf py x1)), (4, .int i73_4)], [.int 2, .int 1024, .int u46], M11)) rfl rfl rfl ?_
                      refine ml_st (S' := (145, [], [.int 2, .int 1024, .int u46], M11)) rfl rfl rfl ?_
                      refine ml_blk 2 (S' := (147, [], [.int (u46 + (1024 * 2))], M11)) rfl ?_
                      exact ml_ret rfl (rfl) (⟨_, _, _, rfl, hR13, (eqI.rf.put f15 (by decide)), eqR.rf⟩)
                  · have c_121 : ¬ (¬ ((sL sl (pyf py x1)) - 1) = (i73_4 + 1)) := of_decide_eq_false c_121
                    refine ml_st (S' := (125, [(0, .ref m0), (2, .int (pyf py x1)), (3, .int ((sL sl (pyf py x1)) - 1)), (4, .int i73_4)], [.int 0, .int 1024, .int u46], M11)) rfl rfl rfl ?_
                    refine ml_st (S' := (145, [], [.int 0, .int 1024, .int u46], M11)) rfl rfl rfl ?_
                    refine ml_blk 2 (S' := (147, [], [.int (u46 + (1024 * 0))], M11)) rfl ?_
                    exact ml_ret rfl (rfl) (⟨_, _, _, rfl, hR13, (eqI.rf.put f15 (by decide)), eqR.rf⟩)
              · have c_82 : ¬ ((tx sa ch (pyf py x1) i73_4) = 41) := of_decide_eq_false c_82
                refine ml_blk 3 (S' := (89, [(0, .ref m0), (2, .int (pyf py x1)), (3, .int ((sL sl (pyf py x1)) - 1)), (4, .int i73_4)], [.int i73_4, .int (pyf py x1), .ref m0], M11)) rfl ?_
                refine ml_call (a := [.ref m0, .int (pyf py x1), .int i73_4]) (rest := []) rfl (hR13.okc rfl rfl rfl) rfl rfl (rm_fieldText hR13 hY24 (hs0) (hs1) (hb.1) (by omega) (by omega)) (fun v60 M61 h62 => ?_)
                obtain ⟨rfl, h62⟩ := h62
                rw [h62]
                show ml _ _ _ (92, [(0, .ref m0), (2, .int (pyf py x1)), (3, .int ((sL sl (pyf py x1)) - 1)), (4, .int i73_4)], [.int (FTx (tx sa ch (pyf py x1)) (sL sl (pyf py x1)) i73_4)], M11) _
                refine ml_st (S' := (94, [(4, .int (FTx (tx sa ch (pyf py x1)) (sL sl (pyf py x1)) i73_4)), (0, .ref m0), (2, .int (pyf py x1)), (3, .int ((sL sl (pyf py x1)) - 1))], [], M11)) rfl rfl rfl ?_
                refine ml_st (S' := (73, [(0, .ref m0), (2, .int (pyf py x1)), (3, .int ((sL sl (pyf py x1)) - 1)), (4, .int (FTx (tx sa ch (pyf py x1)) (sL sl (pyf py x1)) i73_4))], [], M11)) rfl rfl rfl ?_
                exact ih_73 (FTx (tx sa ch (pyf py x1)) (sL sl (pyf py x1)) i73_4) (by have := (hi_73.next c_82).1; omega) ((hi_73.next c_82).2)
          exact L_73 _ 1 (Nat.le_refl _) (hagx)
        · have c_57 : ¬ (¬ u34 = 0) := of_decide_eq_false c_57
          refine ml_st (S' := (61, [(2, .int (pyf py x1)), (0, .ref m0), (1, .int x1)], [.int (-1)], M11)) rfl rfl rfl ?_
          exact ml_ret rfl (rfl) (⟨_, _, _, rfl, hR13, (eqI.rf.put f15 (by decide)), eqR.rf⟩)
      · have c_34 : ¬ (u28 = 0) := of_decide_eq_false c_34
        have hif := w30.resolve_left c_34
        refine ml_blk 3 (S' := (40, [(2, .int (pyf py x1)), (0, .ref m0), (1, .int x1)], [.int 0, .int (pyf py x1), .ref m0], M11)) rfl ?_
        refine ml_call (a := [.ref m0, .int (pyf py x1), .int 0]) (rest := []) rfl (hR13.okc rfl rfl rfl) rfl rfl (rm_wide hR13 hY24 (hs0) (hs1) (by decide) (by have : (0 : Int32).toInt = 0 := rfl; omega) (by omega)) (fun v63 M64 h65 => ?_)
        obtain ⟨⟨u66, rfl, z67⟩, h65⟩ := h65
        rw [h65]
        show ml _ _ _ (43, [(2, .int (pyf py x1)), (0, .ref m0), (1, .int x1)], [.int u66], M11) _
        refine ml_if (S1 := (50, [(2, .int (pyf py x1)), (0, .ref m0), (1, .int x1)], [], M11)) (S2 := (46, [(2, .int (pyf py x1)), (0, .ref m0), (1, .int x1)], [], M11)) rfl rfl rfl (fun c_43 => ?_) (fun c_43 => ?_)
        · have c_43 : u66 = 0 := of_decide_eq_true c_43
          refine ml_st (S' := (51, [], [.int 1], M11)) rfl rfl rfl ?_
          exact ml_ret rfl (rfl) (⟨_, _, _, rfl, hR13, (eqI.rf.put f15 (by decide)), eqR.rf⟩)
        · have c_43 : ¬ (u66 = 0) := of_decide_eq_false c_43
          refine ml_st (S' := (47, [(2, .int (pyf py x1)), (0, .ref m0), (1, .int x1)], [.int 2], M11)) rfl rfl rfl ?_
          refine ml_st (S' := (51, [], [.int 2], M11)) rfl rfl rfl ?_
          exact ml_ret rfl (rfl) (⟨_, _, _, rfl, hR13, (eqI.rf.put f15 (by decide)), eqR.rf⟩)
    · have c_18 : ¬ ((tgf f cp pa x1) = 1) := of_decide_eq_false c_18
      refine ml_st (S' := (22, [], [.int (-1)], M11)) rfl rfl rfl ?_
      exact ml_ret rfl (rfl) (⟨_, _, _, rfl, hR13, (eqI.rf.put f15 (by decide)), eqR.rf⟩)
set_option maxHeartbeats 2000000 in
theorem rm_four {g : xe_G}  {m0 : Nat} {q : Nat → Nat} {z : Nat × Nat} {I : rI} {R : rR} {M : mi_H} {x1 : Int32} {cc : Nat}  (hR : RS g m0 q z I R M) (hk19 : I 19 = some (nI cc)) (hcc : cc + 4 ≤ 65540) (hkb0 : KB 15 cc R) {d : Nat} (hd : 1 ≤ d) : mt (mT g) d 211 [.ref m0, .int x1] M (fun v M' => v = none ∧ ∃ (I' : rI) (R' : rR), RS g m0 q z I' R' M' ∧ eqI [19] I I' ∧ eqR [15] R R' ∧ (I' 19 = some (nI (cc + 4)) ∧ KB 15 (cc + 4) R')) := by
  obtain ⟨d, rfl⟩ : ∃ e, d = e + 1 := ⟨d - 1, by omega⟩
  refine mt_in (b := mb_211 g) rfl rfl ?_
  show ml (mT g) d (mb_211 g).2 (0, [(0, .ref m0), (1, .int x1)], [], M) _
  refine ml_st (S' := (2, [(0, .ref m0), (1, .int x1)], [.int 24], M)) rfl rfl rfl ?_
  refine ml_st (S' := (3, [(0, .ref m0), (1, .int x1), (2, .int 24)], [], M)) rfl rfl rfl ?_
  have L_3 : ∀ (n_3 : Nat) (i3_2 : Int32) (j : Nat) (M_3 : mi_H) (I_3 : rI) (R_3 : rR), (i3_2.toInt + 9).toNat ≤ n_3 → RS g m0 q z I_3 R_3 M_3 → eqI [19] I I_3 → eqR [15] R R_3 → (j ≤ 4 ∧ i3_2.toInt = 24 - 8 * (j : Int) ∧ I_3 19 = some (nI (cc + j)) ∧ KB 15 (cc + j) R_3) → ml (mT g) d (mb_211 g).2 (3, [(0, .ref m0), (1, .int x1), (2, .int i3_2)], [], M_3) (fun v M' => v = none ∧ ∃ (I' : rI) (R' : rR), RS g m0 q z I' R' M' ∧ eqI [19] I I' ∧ eqR [15] R R' ∧ (I' 19 = some (nI (cc + 4)) ∧ KB 15 (cc + 4) R')) := by
    intro n_3
    induction n_3 with
    | zero => intro i3_2 j M_3 I_3 R_3 hn hR_3 hI_3 hV_3 hi; exact absurd hn (by obtain ⟨a1, a2, -⟩ := hi; omega)
    | succ n_3 ih_3 =>
      intro i3_2 j M_3 I_3 R_3 hn_3 hR_3 hI_3 hV_3 hi_3
      obtain ⟨hj4, hji, h19, hkb⟩ := hi_3
      refine ml_st (S' := (4, [(0, .ref m0), (1, .int x1), (2, .int i3_2)], [.int i3_2], M_3)) rfl rfl rfl ?_
      refine ml_if (S1 := (33, [(0, .ref m0), (1, .int x1), (2, .int i3_2)], [], M_3)) (S2 := (7, [(0, .ref m0), (1, .int x1), (2, .int i3_2)], [], M_3)) rfl rfl rfl (fun c_4 => ?_) (fun c_4 => ?_)
      · have c_4 : i3_2 < 0 := of_decide_eq_true c_4
        exact ml_ret rfl (rfl) (⟨rfl, _, _, hR_3, (eqI.rf.tr hI_3 (by decide)), (eqR.rf.tr hV_3 (by decide)), ⟨by have hx : j = 4 := (by have := i_lt c_4; have : (0 : Int32).toInt = 0 := rfl; omega); subst hx; exact h19, by have hx : j = 4 := (by have := i_lt c_4; have : (0 : Int32).toInt = 0 := rfl; omega); subst hx; exact hkb⟩⟩)
      · have c_4 : ¬ (i3_2 < 0) := of_decide_eq_false c_4
        have h8 : 0 ≤ i3_2.toInt := by have := i_nlt c_4; have : (0 : Int32).toInt = 0 := rfl; omega
        have hN := nI_s1 (c := cc + j) (by omega)
        have hv : (nI (cc + j)).toInt = ((cc + j : Nat) : Int) := nI_val (by omega)
        refine ml_st (S' := (8, [(0, .ref m0), (1, .int x1), (2, .int i3_2)], [.ref m0], M_3)) rfl rfl rfl ?_
        refine rg_ref (S' := (11, [(0, .ref m0), (1, .int x1), (2, .int i3_2)], [.ref (q 15)], M_3)) rfl hR_3 rfl rfl ?_
        refine ml_blk 2 (S' := (13, [(0, .ref m0), (1, .int x1), (2, .int i3_2)], [.ref m0, .ref m0, .ref (q 15)], M_3)) rfl ?_
        refine rg_int (S' := (16, [(0, .ref m0), (1, .int x1), (2, .int i3_2)], [.int (nI (cc + j)), .ref m0, .ref (q 15)], M_3)) rfl hR_3 rfl (h19) rfl ?_
        refine ml_blk 3 (S' := (19, [(0, .ref m0), (1, .int x1), (2, .int i3_2)], [.int ((nI (cc + j)) + 1), .ref m0, .int (nI (cc + j)), .ref (q 15)], M_3)) rfl ?_
        refine rp_int rfl hR_3 rfl (fun M11 I12 hR13 e14 f15 => ?_)
        show ml _ _ _ (22, [(0, .ref m0), (1, .int x1), (2, .int i3_2)], [.int (nI (cc + j)), .ref (q 15)], M11) _
        refine ml_blk 3 (S' := (25, [(0, .ref m0), (1, .int x1), (2, .int i3_2)], [.int (((Int32.toUInt32 x1) >>> ((Int32.toUInt32 i3_2) &&& Int32.toUInt32 31)).toInt32), .int (nI (cc + j)), .ref (q 15)], M11)) rfl ?_
        refine ml_st (S' := (26, [(0, .ref m0), (1, .int x1), (2, .int i3_2)], [.int ((((Int32.toUInt32 x1) >>> ((Int32.toUInt32 i3_2) &&& Int32.toUInt32 31)).toInt32).toInt8.toInt32), .int (nI (cc + j)), .ref (q 15)], M11)) rfl rfl rfl ?_
        refine ra_st (k := 15) rfl hR13 rfl (vin_lt (by omega) (by omega)) (fun M16 R17 hR18 e19 g20 f21 => ?_)
        show ml _ _ _ (27, [(0, .ref m0), (1, .int x1), (2, .int i3_2)], [], M16) _
        refine ml_st (S' := (30, [(2, .int (i3_2 + (-8))), (0, .ref m0), (1, .int x1)], [], M16)) rfl rfl rfl ?_
        refine ml_st (S' := (3, [(0, .ref m0), (1, .int x1), (2, .int (i3_2 + (-8)))], [], M16)) rfl rfl rfl ?_
        exact ih_3 (i3_2 + (-8)) (j + 1) _ _ _ (by rw [i_add (by have : (-8 : Int32).toInt = -8 := rfl; omega) (by have : (-8 : Int32).toInt = -8 := rfl; omega)]; have : (-8 : Int32).toInt = -8 := rfl; omega) hR18 ((eqI.rf.tr hI_3 (by decide)).put f15 (by decide)) ((eqR.rf.tr hV_3 (by decide)).put f21 (by decide)) (⟨by omega, by rw [i_add (by have : (-8 : Int32).toInt = -8 := rfl; omega) (by have : (-8 : Int32).toInt = -8 := rfl; omega)]; have : (-8 : Int32).toInt = -8 := rfl; omega, by rw [← Nat.add_assoc, ← hN]; exact e14, by rw [← Nat.add_assoc]; exact (hkb).put hv e19 g20⟩)
  exact L_3 _ 24 0 _ _ _ (Nat.le_refl _) hR eqI.rf eqR.rf (⟨by omega, by decide, hk19, hkb0⟩)
