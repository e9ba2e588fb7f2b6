set_option maxHeartbeats 2000000 in
theorem rm_find {g : xe_G}  {m0 : Nat} {q : Nat → Nat} {z : Nat × Nat} {I : rI} {R : rR} {M : mi_H} {x1 x2 x3 kn : Int32} {n : Nat} {f : Nat → Int32}  (hR : RS g m0 q z I R M) (hk18 : I 18 = some kn) (hG : (kn < 0 ∨ GD n f I R)) {d : Nat} (hd : 3 ≤ d) : mt (mT g) d 207 [.ref m0, .int x1, .int x2, .int x3] M (fun v M' => ∃ (x : Int32) (I' : rI) (R' : rR), v = some (.int x) ∧ RS g m0 q z I' R' M' ∧ eqI [0] I I' ∧ eqR [] R R') := by
  obtain ⟨d, rfl⟩ : ∃ e, d = e + 1 := ⟨d - 1, by omega⟩
  refine mt_in (b := mb_207 g) rfl rfl ?_
  show ml (mT g) d (mb_207 g).2 (0, [(0, .ref m0), (1, .int x1), (2, .int x2), (3, .int x3)], [], M) _
  refine ml_blk 2 (S' := (2, [(0, .ref m0), (1, .int x1), (2, .int x2), (3, .int x3)], [.int 0, .ref m0], M)) rfl ?_
  refine rp_int rfl hR rfl (fun M11 I12 hR13 e14 f15 => ?_)
  show ml _ _ _ (5, [(0, .ref m0), (1, .int x1), (2, .int x2), (3, .int x3)], [], M11) _
  refine ml_st (S' := (6, [(0, .ref m0), (1, .int x1), (2, .int x2), (3, .int x3)], [.ref m0], M11)) rfl rfl rfl ?_
  refine rg_int (S' := (9, [(0, .ref m0), (1, .int x1), (2, .int x2), (3, .int x3)], [.int kn], M11)) rfl hR13 rfl ((f15 18 (by decide)).trans (hk18)) rfl ?_
  refine ml_if (S1 := (30, [], [], M11)) (S2 := (12, [(0, .ref m0), (1, .int x1), (2, .int x2), (3, .int x3)], [], M11)) rfl rfl rfl (fun c_9 => ?_) (fun c_9 => ?_)
  · have c_9 : kn < 0 := of_decide_eq_true c_9
    refine ml_st (S' := (31, [], [.int (-1)], M11)) rfl rfl rfl ?_
    exact ml_ret rfl (rfl) (⟨_, _, _, rfl, hR13, (eqI.rf.put f15 (by decide)), eqR.rf⟩)
  · have c_9 : ¬ (kn < 0) := of_decide_eq_false c_9
    obtain ⟨S, cN, sa, sl, ch, cp, mj, pa, py, hA, fA, mA, aA, nf, ni, kf, km, hF0, hY0, hP0, hE0, hFO, kq54, kq58, kq61, hkf, kq25, hfk, hkm, kq26, hmk, hNW⟩ := hG.resolve_left (c_9)
    have hn := hF0.1
    refine ml_blk 2 (S' := (14, [(0, .ref m0), (1, .int x1), (2, .int x2), (3, .int x3)], [.int x2, .ref m0], M11)) rfl ?_
    have hF16 : FK n f I12 R := (hF0.mono (pIx f15 (by decide)) (fun _ _ => rfl))
    have hP17 : PK n f S cp mj pa py I12 R := (hP0.mono (pIx f15 (by decide)) (fun _ _ => rfl))
    refine ml_call (a := [.ref m0, .int x2]) (rest := []) rfl (hR13.okc rfl rfl rfl) rfl rfl (rm_tag hR13 hF16 hP17 (by omega)) (fun v18 M19 h20 => ?_)
    obtain ⟨rfl, h20⟩ := h20
    rw [h20]
    show ml _ _ _ (17, [(0, .ref m0), (1, .int x1), (2, .int x2), (3, .int x3)], [.int (tgf f cp pa x2)], M11) _
    refine ml_st (S' := (18, [(0, .ref m0), (1, .int x1), (2, .int x2), (3, .int x3)], [.int 1, .int (tgf f cp pa x2)], M11)) rfl rfl rfl ?_
    refine ml_if2 (S1 := (30, [], [], M11)) (S2 := (21, [(0, .ref m0), (1, .int x1), (2, .int x2), (3, .int x3)], [], M11)) rfl rfl rfl (fun c_18 => ?_) (fun c_18 => ?_)
    · have c_18 : ¬ (tgf f cp pa x2) = 1 := of_decide_eq_true c_18
      refine ml_st (S' := (31, [], [.int (-1)], M11)) rfl rfl rfl ?_
      exact ml_ret rfl (rfl) (⟨_, _, _, rfl, hR13, (eqI.rf.put f15 (by decide)), eqR.rf⟩)
    · have c_18 : ¬ (¬ (tgf f cp pa x2) = 1) := of_decide_eq_false c_18
      refine ml_blk 2 (S' := (23, [(0, .ref m0), (1, .int x1), (2, .int x2), (3, .int x3)], [.int x3, .ref m0], M11)) rfl ?_
      refine ml_call (a := [.ref m0, .int x3]) (rest := []) rfl (hR13.okc rfl rfl rfl) rfl rfl (rm_tag hR13 hF16 hP17 (by omega)) (fun v21 M22 h23 => ?_)
      obtain ⟨rfl, h23⟩ := h23
      rw [h23]
      show ml _ _ _ (26, [(0, .ref m0), (1, .int x1), (2, .int x2), (3, .int x3)], [.int (tgf f cp pa x3)], M11) _
      refine ml_st (S' := (27, [(0, .ref m0), (1, .int x1), (2, .int x2), (3, .int x3)], [.int 1, .int (tgf f cp pa x3)], M11)) rfl rfl rfl ?_
      refine ml_if2 (S1 := (32, [(0, .ref m0), (1, .int x1), (2, .int x2), (3, .int x3)], [], M11)) (S2 := (30, [], [], M11)) rfl rfl rfl (fun c_27 => ?_) (fun c_27 => ?_)
      · have c_27 : (tgf f cp pa x3) = 1 := of_decide_eq_true c_27
        refine ml_blk 2 (S' := (34, [(0, .ref m0), (1, .int x1), (2, .int x2), (3, .int x3)], [.int x2, .ref m0], M11)) rfl ?_
        refine ml_call (a := [.ref m0, .int x2]) (rest := []) rfl (hR13.okc rfl rfl rfl) rfl rfl (rm_symOf hR13 hP17 (Decidable.not_not.mp c_18) (by omega)) (fun v24 M25 h26 => ?_)
        obtain ⟨rfl, h26⟩ := h26
        rw [h26]
        show ml _ _ _ (37, [(0, .ref m0), (1, .int x1), (2, .int x2), (3, .int x3)], [.int (pyf py x2)], M11) _
        refine ml_st (S' := (39, [(4, .int (pyf py x2)), (0, .ref m0), (1, .int x1), (2, .int x2), (3, .int x3)], [], M11)) rfl rfl rfl ?_
        refine ml_blk 2 (S' := (41, [(4, .int (pyf py x2)), (0, .ref m0), (1, .int x1), (2, .int x2), (3, .int x3)], [.int x3, .ref m0], M11)) rfl ?_
        refine ml_call (a := [.ref m0, .int x3]) (rest := []) rfl (hR13.okc rfl rfl rfl) rfl rfl (rm_symOf hR13 hP17 (c_27) (by omega)) (fun v27 M28 h29 => ?_)
        obtain ⟨rfl, h29⟩ := h29
        rw [h29]
        show ml _ _ _ (44, [(4, .int (pyf py x2)), (0, .ref m0), (1, .int x1), (2, .int x2), (3, .int x3)], [.int (pyf py x3)], M11) _
        refine ml_st (S' := (46, [(5, .int (pyf py x3)), (4, .int (pyf py x2)), (0, .ref m0), (1, .int x1), (2, .int x2), (3, .int x3)], [], M11)) rfl rfl rfl ?_
        refine ml_st (S' := (47, [(5, .int (pyf py x3)), (4, .int (pyf py x2)), (0, .ref m0), (1, .int x1), (2, .int x2), (3, .int x3)], [.int 0], M11)) rfl rfl rfl ?_
        refine ml_st (S' := (49, [(0, .ref m0), (1, .int x1), (4, .int (pyf py x2)), (5, .int (pyf py x3)), (6, .int 0)], [], M11)) rfl rfl rfl ?_
        have L_49 : ∀ (n_49 : Nat) (i49_6 : Int32), (2147483648 - i49_6.toInt).toNat ≤ n_49 → 0 ≤ i49_6.toInt → ml (mT g) d (mb_207 g).2 (49, [(0, .ref m0), (1, .int x1), (4, .int (pyf py x2)), (5, .int (pyf py x3)), (6, .int i49_6)], [], M11) (fun v M' => ∃ (x : Int32) (I' : rI) (R' : rR), v = some (.int x) ∧ RS g m0 q z I' R' M' ∧ eqI [0] I I' ∧ eqR [] R R') := by
          intro n_49
          induction n_49 with
          | zero => intro i49_6 hn; exact (loop_zero hn).elim
          | succ n_49 ih_49 =>
            intro i49_6 hn_49 hi_49
            refine ml_blk 2 (S' := (52, [(0, .ref m0), (1, .int x1), (4, .int (pyf py x2)), (5, .int (pyf py x3)), (6, .int i49_6)], [.int x1, .int i49_6], M11)) rfl ?_
            have J_66 : ∀ (s66_0 : Int32), ((x1 = 0 → s66_0 = nI kf) ∧ (¬ x1 = 0 → s66_0 = nI km)) → ml (mT g) d (mb_207 g).2 (66, [(0, .ref m0), (1, .int x1), (4, .int (pyf py x2)), (5, .int (pyf py x3)), (6, .int i49_6)], [.int s66_0, .int i49_6], M11) (fun v M' => ∃ (x : Int32) (I' : rI) (R' : rR), v = some (.int x) ∧ RS g m0 q z I' R' M' ∧ eqI [0] I I' ∧ eqR [] R R') := by
              intro s66_0 hj_66
              refine ml_if2 (S1 := (130, [(0, .ref m0), (1, .int x1), (4, .int (pyf py x2)), (5, .int (pyf py x3)), (6, .int i49_6)], [], M11)) (S2 := (69, [(0, .ref m0), (1, .int x1), (4, .int (pyf py x2)), (5, .int (pyf py x3)), (6, .int i49_6)], [], M11)) rfl rfl rfl (fun c_66 => ?_) (fun c_66 => ?_)
              · have c_66 : s66_0 ≤ i49_6 := of_decide_eq_true c_66
                refine ml_st (S' := (131, [(0, .ref m0), (1, .int x1), (4, .int (pyf py x2)), (5, .int (pyf py x3)), (6, .int i49_6)], [.int (-1)], M11)) rfl rfl rfl ?_
                exact ml_ret rfl (rfl) (⟨_, _, _, rfl, hR13, (eqI.rf.put f15 (by decide)), eqR.rf⟩)
              · have c_66 : ¬ (s66_0 ≤ i49_6) := of_decide_eq_false c_66
                have hj_69 : ((x1 = 0 → i49_6.toInt < kf) ∧ (¬ x1 = 0 → i49_6.toInt < km) ∧ i49_6 < 8192) := by rcases Decidable.em (x1 = 0) with e | e; (have q := hj_66.1 e ▸ Int32.not_le.mp c_66; exact ⟨fun _ => i_ltn q hkf, fun e2 => absurd e e2, i_lt8 q hkf⟩); (have q := hj_66.2 e ▸ Int32.not_le.mp c_66; exact ⟨fun e2 => absurd e2 e, fun _ => i_ltn q hkm, i_lt8 q hkm⟩)
                refine ml_st (S' := (70, [(0, .ref m0), (1, .int x1), (4, .int (pyf py x2)), (5, .int (pyf py x3)), (6, .int i49_6)], [.int x1], M11)) rfl rfl rfl ?_
                refine ml_if (S1 := (83, [(0, .ref m0), (1, .int x1), (4, .int (pyf py x2)), (5, .int (pyf py x3)), (6, .int i49_6)], [], M11)) (S2 := (73, [(0, .ref m0), (1, .int x1), (4, .int (pyf py x2)), (5, .int (pyf py x3)), (6, .int i49_6)], [], M11)) rfl rfl rfl (fun c_70 => ?_) (fun c_70 => ?_)
                · have c_70 : x1 = 0 := of_decide_eq_true c_70
                  refine ml_st (S' := (84, [(0, .ref m0), (1, .int x1), (4, .int (pyf py x2)), (5, .int (pyf py x3)), (6, .int i49_6)], [.ref m0], M11)) rfl rfl rfl ?_
                  refine rg_ref (S' := (87, [(0, .ref m0), (1, .int x1), (4, .int (pyf py x2)), (5, .int (pyf py x3)), (6, .int i49_6)], [.ref (q 28)], M11)) rfl hR13 rfl rfl ?_
                  refine ml_st (S' := (89, [(0, .ref m0), (1, .int x1), (4, .int (pyf py x2)), (5, .int (pyf py x3)), (6, .int i49_6)], [.int i49_6, .ref (q 28)], M11)) rfl rfl rfl ?_
                  have hx89 := hj_69.1 c_70
                  obtain ⟨v30, hv31⟩ := hfk i49_6.toNatClampNeg (by show i49_6.toInt.toNat < kf; omega) 28 (by decide)
                  refine ra_ld (k := 28) (S' := (90, [(0, .ref m0), (1, .int x1), (4, .int (pyf py x2)), (5, .int (pyf py x3)), (6, .int i49_6)], [.int v30], M11)) rfl hR13 rfl (vin_lt hi_49 (by omega)) (hv31) rfl ?_
                  refine ml_st (S' := (92, [(0, .ref m0), (1, .int x1), (4, .int (pyf py x2)), (5, .int (pyf py x3)), (6, .int i49_6)], [.int (pyf py x2), .int v30], M11)) rfl rfl rfl ?_
                  refine ml_if2 (S1 := (124, [(0, .ref m0), (1, .int x1), (4, .int (pyf py x2)), (5, .int (pyf py x3)), (6, .int i49_6)], [], M11)) (S2 := (95, [(0, .ref m0), (1, .int x1), (4, .int (pyf py x2)), (5, .int (pyf py x3)), (6, .int i49_6)], [], M11)) rfl rfl rfl (fun c_92 => ?_) (fun c_92 => ?_)
                  · have c_92 : ¬ v30 = (pyf py x2) := of_decide_eq_true c_92
                    refine ml_st (S' := (127, [(6, .int (i49_6 + 1)), (0, .ref m0), (1, .int x1), (4, .int (pyf py x2)), (5, .int (pyf py x3))], [], M11)) rfl rfl rfl ?_
                    refine ml_st (S' := (49, [(0, .ref m0), (1, .int x1), (4, .int (pyf py x2)), (5, .int (pyf py x3)), (6, .int (i49_6 + 1))], [], M11)) rfl rfl rfl ?_
                    exact ih_49 (i49_6 + 1) (loop_inc hj_69.2.2 hn_49) (by rw [inc_lt hj_69.2.2]; omega)
                  · have c_92 : ¬ (¬ v30 = (pyf py x2)) := of_decide_eq_false c_92
                    refine ml_st (S' := (96, [(0, .ref m0), (1, .int x1), (4, .int (pyf py x2)), (5, .int (pyf py x3)), (6, .int i49_6)], [.int x1], M11)) rfl rfl rfl ?_
                    refine ml_if (S1 := (109, [(0, .ref m0), (1, .int x1), (4, .int (pyf py x2)), (5, .int (pyf py x3)), (6, .int i49_6)], [], M11)) (S2 := (99, [(0, .ref m0), (1, .int x1), (4, .int (pyf py x2)), (5, .int (pyf py x3)), (6, .int i49_6)], [], M11)) rfl rfl rfl (fun c_96 => ?_) (fun c_96 => ?_)
                    · have c_96 : x1 = 0 := of_decide_eq_true c_96
                      refine ml_st (S' := (110, [(0, .ref m0), (1, .int x1), (4, .int (pyf py x2)), (5, .int (pyf py x3)), (6, .int i49_6)], [.ref m0], M11)) rfl rfl rfl ?_
                      refine rg_ref (S' := (113, [(0, .ref m0), (1, .int x1), (4, .int (pyf py x2)), (5, .int (pyf py x3)), (6, .int i49_6)], [.ref (q 29)], M11)) rfl hR13 rfl rfl ?_
                      refine ml_st (S' := (115, [(0, .ref m0), (1, .int x1), (4, .int (pyf py x2)), (5, .int (pyf py x3)), (6, .int i49_6)], [.int i49_6, .ref (q 29)], M11)) rfl rfl rfl ?_
                      have hx115 := hj_69.1 c_96
                      obtain ⟨v32, hv33⟩ := hfk i49_6.toNatClampNeg (by show i49_6.toInt.toNat < kf; omega) 29 (by decide)
                      refine ra_ld (k := 29) (S' := (116, [(0, .ref m0), (1, .int x1), (4, .int (pyf py x2)), (5, .int (pyf py x3)), (6, .int i49_6)], [.int v32], M11)) rfl hR13 rfl (vin_lt hi_49 (by omega)) (hv33) rfl ?_
                      refine ml_st (S' := (118, [(0, .ref m0), (1, .int x1), (4, .int (pyf py x2)), (5, .int (pyf py x3)), (6, .int i49_6)], [.int (pyf py x3), .int v32], M11)) rfl rfl rfl ?_
                      refine ml_if2 (S1 := (124, [(0, .ref m0), (1, .int x1), (4, .int (pyf py x2)), (5, .int (pyf py x3)), (6, .int i49_6)], [], M11)) (S2 := (121, [(0, .ref m0), (1, .int x1), (4, .int (pyf py x2)), (5, .int (pyf py x3)), (6, .int i49_6)], [], M11)) rfl rfl rfl (fun c_118 => ?_) (fun c_118 => ?_)
                      · have c_118 : ¬ v32 = (pyf py x3) := of_decide_eq_true c_118
                        refine ml_st (S' := (127, [(6, .int (i49_6 + 1)), (0, .ref m0), (1, .int x1), (4, .int (pyf py x2)), (5, .int (pyf py x3))], [], M11)) rfl rfl rfl ?_
                        refine ml_st (S' := (49, [(0, .ref m0), (1, .int x1), (4, .int (pyf py x2)), (5, .int (pyf py x3)), (6, .int (i49_6 + 1))], [], M11)) rfl rfl rfl ?_
                        exact ih_49 (i49_6 + 1) (loop_inc hj_69.2.2 hn_49) (by rw [inc_lt hj_69.2.2]; omega)
                      · have c_118 : ¬ (¬ v32 = (pyf py x3)) := of_decide_eq_false c_118
                        refine ml_st (S' := (123, [(0, .ref m0), (1, .int x1), (4, .int (pyf py x2)), (5, .int (pyf py x3)), (6, .int i49_6)], [.int i49_6], M11)) rfl rfl rfl ?_
                        exact ml_ret rfl (rfl) (⟨_, _, _, rfl, hR13, (eqI.rf.put f15 (by decide)), eqR.rf⟩)
                    · have c_96 : ¬ (x1 = 0) := of_decide_eq_false c_96
                      refine ml_st (S' := (100, [(0, .ref m0), (1, .int x1), (4, .int (pyf py x2)), (5, .int (pyf py x3)), (6, .int i49_6)], [.ref m0], M11)) rfl rfl rfl ?_
                      refine rg_ref (S' := (103, [(0, .ref m0), (1, .int x1), (4, .int (pyf py x2)), (5, .int (pyf py x3)), (6, .int i49_6)], [.ref (q 36)], M11)) rfl hR13 rfl rfl ?_
                      refine ml_st (S' := (105, [(0, .ref m0), (1, .int x1), (4, .int (pyf py x2)), (5, .int (pyf py x3)), (6, .int i49_6)], [.int i49_6, .ref (q 36)], M11)) rfl rfl rfl ?_
                      have hx105 := hj_69.2.1 c_96
                      obtain ⟨v34, hv35, -⟩ := (hmk i49_6.toNatClampNeg (by show i49_6.toInt.toNat < km; omega)).2.2
                      refine ra_ld (k := 36) (S' := (106, [(0, .ref m0), (1, .int x1), (4, .int (pyf py x2)), (5, .int (pyf py x3)), (6, .int i49_6)], [.int v34], M11)) rfl hR13 rfl (vin_lt hi_49 (by omega)) (hv35) rfl ?_
                      refine ml_st (S' := (116, [(0, .ref m0), (1, .int x1), (4, .int (pyf py x2)), (5, .int (pyf py x3)), (6, .int i49_6)], [.int v34], M11)) rfl rfl rfl ?_
                      refine ml_st (S' := (118, [(0, .ref m0), (1, .int x1), (4, .int (pyf py x2)), (5, .int (pyf py x3)), (6, .int i49_6)], [.int (pyf py x3), .int v34], M11)) rfl rfl rfl ?_
                      refine ml_if2 (S1 := (124, [(0, .ref m0), (1, .int x1), (4, .int (pyf py x2)), (5, .int (pyf py x3)), (6, .int i49_6)], [], M11)) (S2 := (121, [(0, .ref m0), (1, .int x1), (4, .int (pyf py x2)), (5, .int (pyf py x3)), (6, .int i49_6)], [], M11)) rfl rfl rfl (fun c_118 => ?_) (fun c_118 => ?_)
                      · have c_118 : ¬ v34 = (pyf py x3) := of_decide_eq_true c_118
                        refine ml_st (S' := (127, [(6, .int (i49_6 + 1)), (0, .ref m0), (1, .int x1), (4, .int (pyf py x2)), (5, .int (pyf py x3))], [], M11)) rfl rfl rfl ?_
                        refine ml_st (S' := (49, [(0, .ref m0), (1, .int x1), (4, .int (pyf py x2)), (5, .int (pyf py x3)), (6, .int (i49_6 + 1))], [], M11)) rfl rfl rfl ?_
                        exact ih_49 (i49_6 + 1) (loop_inc hj_69.2.2 hn_49) (by rw [inc_lt hj_69.2.2]; omega)
                      · have c_118 : ¬ (¬ v34 = (pyf py x3)) := of_decide_eq_false c_118
                        refine ml_st (S' := (123, [(0, .ref m0), (1, .int x1), (4, .int (pyf py x2)), (5, .int (pyf py x3)), (6, .int i49_6)], [.int i49_6], M11)) rfl rfl rfl ?_
                        exact ml_ret rfl (rfl) (⟨_, _, _, rfl, hR13, (eqI.rf.put f15 (by decide)), eqR.rf⟩)
                · have c_70 : ¬ (x1 = 0) := of_decide_eq_false c_70
                  refine ml_st (S' := (74, [(0, .ref m0), (1, .int x1), (4, .int (pyf py x2)), (5, .int (pyf py x3)), (6, .int i49_6)], [.ref m0], M11)) rfl rfl rfl ?_
                  refine rg_ref (S' := (77, [(0, .ref m0), (1, .int x1), (4, .int (pyf py x2)), (5, .int (pyf py x3)), (6, .int i49_6)], [.ref (q 35)], M11)) rfl hR13 rfl rfl ?_
                  refine ml_st (S' := (79, [(0, .ref m0), (1, .int x1), (4, .int (pyf py x2)), (5, .int (pyf py x3)), (6, .int i49_6)], [.int i49_6, .ref (q 35)], M11)) rfl rfl rfl ?_
                  have hx79 := hj_69.2.1 c_70
                  obtain ⟨v36, hv37⟩ := (hmk i49_6.toNatClampNeg (by show i49_6.toInt.toNat < km; omega)).1 35 (by decide)
                  refine ra_ld (k := 35) (S' := (80, [(0, .ref m0), (1, .int x1), (4, .int (pyf py x2)), (5, .int (pyf py x3)), (6, .int i49_6)], [.int v36], M11)) rfl hR13 rfl (vin_lt hi_49 (by omega)) (hv37) rfl ?_
                  refine ml_st (S' := (90, [(0, .ref m0), (1, .int x1), (4, .int (pyf py x2)), (5, .int (pyf py x3)), (6, .int i49_6)], [.int v36], M11)) rfl rfl rfl ?_
                  refine ml_st (S' := (92, [(0, .ref m0), (1, .int x1), (4, .int (pyf py x2)), (5, .int (pyf py x3)), (6, .int i49_6)], [.int (pyf py x2), .int v36], M11)) rfl rfl rfl ?_
                  refine ml_if2 (S1 := (124, [(0, .ref m0), (1, .int x1), (4, .int (pyf py x2)), (5, .int (pyf py x3)), (6, .int i49_6)], [], M11)) (S2 := (95, [(0, .ref m0), (1, .int x1), (4, .int (pyf py x2)), (5, .int (pyf py x3)), (6, .int i49_6)], [], M11)) rfl rfl rfl (fun c_92 => ?_) (fun c_92 => ?_)
                  · have c_92 : ¬ v36 = (pyf py x2) := of_decide_eq_true c_92
                    refine ml_st (S' := (127, [(6, .int (i49_6 + 1)), (0, .ref m0), (1, .int x1), (4, .int (pyf py x2)), (5, .int (pyf py x3))], [], M11)) rfl rfl rfl ?_
                    refine ml_st (S' := (49, [(0, .ref m0), (1, .int x1), (4, .int (pyf py x2)), (5, .int (pyf py x3)), (6, .int (i49_6 + 1))], [], M11)) rfl rfl rfl ?_
                    exact ih_49 (i49_6 + 1) (loop_inc hj_69.2.2 hn_49) (by rw [inc_lt hj_69.2.2]; omega)
                  · have c_92 : ¬ (¬ v36 = (pyf py x2)) := of_decide_eq_false c_92
                    refine ml_st (S' := (96, [(0, .ref m0), (1, .int x1), (4, .int (pyf py x2)), (5, .int (pyf py x3)), (6, .int i49_6)], [.int x1], M11)) rfl rfl rfl ?_
                    refine ml_if (S1 := (109, [(0, .ref m0), (1, .int x1), (4, .int (pyf py x2)), (5, .int (pyf py x3)), (6, .int i49_6)], [], M11)) (S2 := (99, [(0, .ref m0), (1, .int x1), (4, .int (pyf py x2)), (5, .int (pyf py x3)), (6, .int i49_6)], [], M11)) rfl rfl rfl (fun c_96 => ?_) (fun c_96 => ?_)
                    · have c_96 : x1 = 0 := of_decide_eq_true c_96
                      refine ml_st (S' := (110, [(0, .ref m0), (1, .int x1), (4, .int (pyf py x2)), (5, .int (pyf py x3)), (6, .int i49_6)], [.ref m0], M11)) rfl rfl rfl ?_
                      refine rg_ref (S' := (113, [(0, .ref m0), (1, .int x1), (4, .int (pyf py x2)), (5, .int (pyf py x3)), (6, .int i49_6)], [.ref (q 29)], M11)) rfl hR13 rfl rfl ?_
                      refine ml_st (S' := (115, [(0, .ref m0), (1, .int x1), (4, .int (pyf py x2)), (5, .int (pyf py x3)), (6, .int i49_6)], [.int i49_6, .ref (q 29)], M11)) rfl rfl rfl ?_
                      have hx115 := hj_69.1 c_96
                      obtain ⟨v38, hv39⟩ := hfk i49_6.toNatClampNeg (by show i49_6.toInt.toNat < kf; omega) 29 (by decide)
                      refine ra_ld (k := 29) (S' := (116, [(0, .ref m0), (1, .int x1), (4, .int (pyf py x2)), (5, .int (pyf py x3)), (6, .int i49_6)], [.int v38], M11)) rfl hR13 rfl (vin_lt hi_49 (by omega)) (hv39) rfl ?_
                      refine ml_st (S' := (118, [(0, .ref m0), (1, .int x1), (4, .int (pyf py x2)), (5, .int (pyf py x3)), (6, .int i49_6)], [.int (pyf py x3), .int v38], M11)) rfl rfl rfl ?_
                      refine ml_if2 (S1 := (124, [(0, .ref m0), (1, .int x1), (4, .int (pyf py x2)), (5, .int (pyf py x3)), (6, .int i49_6)], [], M11)) (S2 := (121, [(0, .ref m0), (1, .int x1), (4, .int (pyf py x2)), (5, .int (pyf py x3)), (6, .int i49_6)], [], M11)) rfl rfl rfl (fun c_118 => ?_) (fun c_118 => ?_)
                      · have c_118 : ¬ v38 = (pyf py x3) := of_decide_eq_true c_118
                        refine ml_st (S' := (127, [(6, .int (i49_6 + 1)), (0, .ref m0), (1, .int x1), (4, .int (pyf py x2)), (5, .int (pyf py x3))], [], M11)) rfl rfl rfl ?_
                        refine ml_st (S' := (49, [(0, .ref m0), (1, .int x1), (4, .int (pyf py x2)), (5, .int (pyf py x3)), (6, .int (i49_6 + 1))], [], M11)) rfl rfl rfl ?_
                        exact ih_49 (i49_6 + 1) (loop_inc hj_69.2.2 hn_49) (by rw [inc_lt hj_69.2.2]; omega)
                      · have c_118 : ¬ (¬ v38 = (pyf py x3)) := of_decide_eq_false c_118
                        refine ml_st (S' := (123, [(0, .ref m0), (1, .int x1), (4, .int (pyf py x2)), (5, .int (pyf py x3)), (6, .int i49_6)], [.int i49_6], M11)) rfl rfl rfl ?_
                        exact ml_ret rfl (rfl) (⟨_, _, _, rfl, hR13, (eqI.rf.put f15 (by decide)), eqR.rf⟩)
                    · have c_96 : ¬ (x1 = 0) := of_decide_eq_false c_96
                      refine ml_st (S' := (100, [(0, .ref m0), (1, .int x1), (4, .int (pyf py x2)), (5, .int (pyf py x3)), (6, .int i49_6)], [.ref m0], M11)) rfl rfl rfl ?_
                      refine rg_ref (S' := (103, [(0, .ref m0), (1, .int x1), (4, .int (pyf py x2)), (5, .int (pyf py x3)), (6, .int i49_6)], [.ref (q 36)], M11)) rfl hR13 rfl rfl ?_
                      refine ml_st (S' := (105, [(0, .ref m0), (1, .int x1), (4, .int (pyf py x2)), (5, .int (pyf py x3)), (6, .int i49_6)], [.int i49_6, .ref (q 36)], M11)) rfl rfl rfl ?_
                      have hx105 := hj_69.2.1 c_96
                      obtain ⟨v40, hv41, -⟩ := (hmk i49_6.toNatClampNeg (by show i49_6.toInt.toNat < km; omega)).2.2
                      refine ra_ld (k := 36) (S' := (106, [(0, .ref m0), (1, .int x1), (4, .int (pyf py x2)), (5, .int (pyf py x3)), (6, .int i49_6)], [.int v40], M11)) rfl hR13 rfl (vin_lt hi_49 (by omega)) (hv41) rfl ?_
                      refine ml_st (S' := (116, [(0, .ref m0), (1, .int x1), (4, .int (pyf py x2)), (5, .int (pyf py x3)), (6, .int i49_6)], [.int v40], M11)) rfl rfl rfl ?_
                      refine ml_st (S' := (118, [(0, .ref m0), (1, .int x1), (4, .int (pyf py x2)), (5, .int (pyf py x3)), (6, .int i49_6)], [.int (pyf py x3), .int v40], M11)) rfl rfl rfl ?_
                      refine ml_if2 (S1 := (124, [(0, .ref m0), (1, .int x1), (4, .int (pyf py x2)), (5, .int (pyf py x3)), (6, .int i49_6)], [], M11)) (S2 := (121, [(0, .ref m0), (1, .int x1), (4, .int (pyf py x2)), (5, .int (pyf py x3)), (6, .int i49_6)], [], M11)) rfl rfl rfl (fun c_118 => ?_) (fun c_118 => ?_)
                      · have c_118 : ¬ v40 = (pyf py x3) := of_decide_eq_true c_118
                        refine ml_st (S' := (127, [(6, .int (i49_6 + 1)), (0, .ref m0), (1, .int x1), (4, .int (pyf py x2)), (5, .int (pyf py x3))], [], M11)) rfl rfl rfl ?_
                        refine ml_st (S' := (49, [(0, .ref m0), (1, .int x1), (4, .int (pyf py x2)), (5, .int (pyf py x3)), (6, .int (i49_6 + 1))], [], M11)) rfl rfl rfl ?_
                        exact ih_49 (i49_6 + 1) (loop_inc hj_69.2.2 hn_49) (by rw [inc_lt hj_69.2.2]; omega)
                      · have c_118 : ¬ (¬ v40 = (pyf py x3)) := of_decide_eq_false c_118
                        refine ml_st (S' := (123, [(0, .ref m0), (1, .int x1), (4, .int (pyf py x2)), (5, .int (pyf py x3)), (6, .int i49_6)], [.int i49_6], M11)) rfl rfl rfl ?_
                        exact ml_ret rfl (rfl) (⟨_, _, _, rfl, hR13, (eqI.rf.put f15 (by decide)), eqR.rf⟩)
            refine ml_if (S1 := (62, [(0, .ref m0), (1, .int x1), (4, .int (pyf py x2)), (5, .int (pyf py x3)), (6, .int i49_6)], [.int i49_6], M11)) (S2 := (55, [(0, .ref m0), (1, .int x1), (4, .int (pyf py x2)), (5, .int (pyf py x3)), (6, .int i49_6)], [.int i49_6], M11)) rfl rfl rfl (fun c_52 => ?_) (fun c_52 => ?_)
            · have c_52 : x1 = 0 := of_decide_eq_true c_52
              refine ml_st (S' := (63, [(0, .ref m0), (1, .int x1), (4, .int (pyf py x2)), (5, .int (pyf py x3)), (6, .int i49_6)], [.ref m0, .int i49_6], M11)) rfl rfl rfl ?_
              refine rg_int (S' := (66, [(0, .ref m0), (1, .int x1), (4, .int (pyf py x2)), (5, .int (pyf py x3)), (6, .int i49_6)], [.int (nI kf), .int i49_6], M11)) rfl hR13 rfl ((f15 25 (by decide)).trans (kq25)) rfl ?_
              exact J_66 (nI kf) (⟨fun e => by first | exact absurd e c_52 | rfl, fun e => by first | exact absurd c_52 e | rfl⟩)
            · have c_52 : ¬ (x1 = 0) := of_decide_eq_false c_52
              refine ml_st (S' := (56, [(0, .ref m0), (1, .int x1), (4, .int (pyf py x2)), (5, .int (pyf py x3)), (6, .int i49_6)], [.ref m0, .int i49_6], M11)) rfl rfl rfl ?_
              refine rg_int (S' := (59, [(0, .ref m0), (1, .int x1), (4, .int (pyf py x2)), (5, .int (pyf py x3)), (6, .int i49_6)], [.int (nI km), .int i49_6], M11)) rfl hR13 rfl ((f15 26 (by decide)).trans (kq26)) rfl ?_
              refine ml_st (S' := (66, [(0, .ref m0), (1, .int x1), (4, .int (pyf py x2)), (5, .int (pyf py x3)), (6, .int i49_6)], [.int (nI km), .int i49_6], M11)) rfl rfl rfl ?_
              exact J_66 (nI km) (⟨fun e => by first | exact absurd e c_52 | rfl, fun e => by first | exact absurd c_52 e | rfl⟩)
        exact L_49 _ 0 (Nat.le_refl _) (by decide)
      · have c_27 : ¬ ((tgf f cp pa x3) = 1) := of_decide_eq_false c_27
        refine ml_st (S' := (31, [], [.int (-1)], M11)) rfl rfl rfl ?_
        exact ml_ret rfl (rfl) (⟨_, _, _, rfl, hR13, (eqI.rf.put f15 (by decide)), eqR.rf⟩)
set_option maxHeartbeats 2000000 in
theorem rm_row {g : xe_G}  {m0 : Nat} {q : Nat → Nat} {z : Nat × Nat} {I : rI} {R : rR} {M : mi_H} {x1 x2 x3 kn : Int32} {n : Nat} {f : Nat → Int32}  (hR : RS g m0 q z I R M) (hk18 : I 18 = some kn) (hG : (kn < 0 ∨ GD n f I R)) {d : Nat} (hd : 3 ≤ d) : mt (mT g) d 239 [.ref m0, .int x1, .int x2, .int x3] M (fun v M' => ∃ (x : Int32) (I' : rI) (R' : rR), v = some (.int x) ∧ RS g m0 q z I' R' M' ∧ eqI [0] I I' ∧ eqR [] R R') := by
  obtain ⟨d, rfl⟩ : ∃ e, d = e + 1 := ⟨d - 1, by omega⟩
  refine mt_in (b := mb_239 g) rfl rfl ?_
  show ml (mT g) d (mb_239 g).2 (0, [(0, .ref m0), (1, .int x1), (2, .int x2), (3, .int x3)], [], M) _
  refine ml_blk 2 (S' := (2, [(0, .ref m0), (1, .int x1), (2, .int x2), (3, .int x3)], [.int 0, .ref m0], M)) rfl ?_
  refine rp_int rfl hR rfl (fun M11 I12 hR13 e14 f15 => ?_)
  show ml _ _ _ (5, [(0, .ref m0), (1, .int x1), (2, .int x2), (3, .int x3)], [], M11) _
  refine ml_st (S' := (6, [(0, .ref m0), (1, .int x1), (2, .int x2), (3, .int x3)], [.int x3], M11)) rfl rfl rfl ?_
  refine ml_if (S1 := (14, [(0, .ref m0)], [], M11)) (S2 := (9, [(0, .ref m0), (1, .int x1), (2, .int x2), (3, .int x3)], [], M11)) rfl rfl rfl (fun c_6 => ?_) (fun c_6 => ?_)
  · have c_6 : x3 < 0 := of_decide_eq_true c_6
    refine ml_st (S' := (15, [(0, .ref m0)], [.ref m0], M11)) rfl rfl rfl ?_
    refine ml_call (a := [.ref m0]) (rest := []) rfl (hR13.okc rfl rfl rfl) rfl rfl (rm_bad hR13 (by omega)) (fun v16 M17 h18 => ?_)
    obtain ⟨u24, I19, R20, rfl, hR21, hI22, hV23, w25⟩ := h18
    show ml _ _ _ (18, [(0, .ref m0)], [.int u24], M17) _
    exact ml_ret rfl (rfl) (⟨_, _, _, rfl, hR21, ((eqI.rf.put f15 (by decide)).tr hI22 (by decide)), (eqR.rf.tr hV23 (by decide))⟩)
  · have c_6 : ¬ (x3 < 0) := of_decide_eq_false c_6
    refine ml_blk 2 (S' := (11, [(0, .ref m0), (1, .int x1), (2, .int x2), (3, .int x3)], [.int 3, .int x3], M11)) rfl ?_
    refine ml_if2 (S1 := (19, [(0, .ref m0), (1, .int x1), (2, .int x2), (3, .int x3)], [], M11)) (S2 := (14, [(0, .ref m0)], [], M11)) rfl rfl rfl (fun c_11 => ?_) (fun c_11 => ?_)
    · have c_11 : x3 ≤ 3 := of_decide_eq_true c_11
      refine ml_st (S' := (20, [(0, .ref m0), (1, .int x1), (2, .int x2), (3, .int x3)], [.ref m0], M11)) rfl rfl rfl ?_
      refine rg_int (S' := (23, [(0, .ref m0), (1, .int x1), (2, .int x2), (3, .int x3)], [.int kn], M11)) rfl hR13 rfl ((f15 18 (by decide)).trans (hk18)) rfl ?_
      refine ml_if (S1 := (61, [], [], M11)) (S2 := (26, [(0, .ref m0), (1, .int x1), (2, .int x2), (3, .int x3)], [], M11)) rfl rfl rfl (fun c_23 => ?_) (fun c_23 => ?_)
      · have c_23 : kn < 0 := of_decide_eq_true c_23
        refine ml_st (S' := (62, [], [.int (-1)], M11)) rfl rfl rfl ?_
        exact ml_ret rfl (rfl) (⟨_, _, _, rfl, hR13, (eqI.rf.put f15 (by decide)), eqR.rf⟩)
      · have c_23 : ¬ (kn < 0) := of_decide_eq_false c_23
        obtain ⟨S, cN, sa, sl, ch, cp, mj, pa, py, hA, fA, mA, aA, nf, ni, kf, km, hF0, hY0, hP0, hE0, hFO, kq54, kq58, kq61, hkf, kq25, hfk, hkm, kq26, hmk, hNW⟩ := hG.resolve_left (c_23)
        have hn := hF0.1
        refine ml_st (S' := (27, [(0, .ref m0), (1, .int x1), (2, .int x2), (3, .int x3)], [.int x1], M11)) rfl rfl rfl ?_
        refine ml_if (S1 := (61, [], [], M11)) (S2 := (30, [(0, .ref m0), (1, .int x1), (2, .int x2), (3, .int x3)], [], M11)) rfl rfl rfl (fun c_27 => ?_) (fun c_27 => ?_)
        · have c_27 : x1 < 0 := of_decide_eq_true c_27
          refine ml_st (S' := (62, [], [.int (-1)], M11)) rfl rfl rfl ?_
          exact ml_ret rfl (rfl) (⟨_, _, _, rfl, hR13, (eqI.rf.put f15 (by decide)), eqR.rf⟩)
        · have c_27 : ¬ (x1 < 0) := of_decide_eq_false c_27
          refine ml_blk 2 (S' := (32, [(0, .ref m0), (1, .int x1), (2, .int x2), (3, .int x3)], [.ref m0, .int x1], M11)) rfl ?_
          refine rg_int (S' := (35, [(0, .ref m0), (1, .int x1), (2, .int x2), (3, .int x3)], [.int (nI km), .int x1], M11)) rfl hR13 rfl ((f15 26 (by decide)).trans (kq26)) rfl ?_
          refine ml_if2 (S1 := (61, [], [], M11)) (S2 := (38, [(0, .ref m0), (1, .int x1), (2, .int x2), (3, .int x3)], [], M11)) rfl rfl rfl (fun c_35 => ?_) (fun c_35 => ?_)
          · have c_35 : (nI km) ≤ x1 := of_decide_eq_true c_35
            refine ml_st (S' := (62, [], [.int (-1)], M11)) rfl rfl rfl ?_
            exact ml_ret rfl (rfl) (⟨_, _, _, rfl, hR13, (eqI.rf.put f15 (by decide)), eqR.rf⟩)
          · have c_35 : ¬ ((nI km) ≤ x1) := of_decide_eq_false c_35
            have hx0 : 0 ≤ x1.toInt := i_nlt c_27
            have hx1 : x1.toInt < km := i_ltn (Int32.not_le.mp c_35) hkm
            obtain ⟨-, ⟨mc, hmc, hmd⟩, -⟩ := hmk x1.toNatClampNeg (by show x1.toInt.toNat < km; omega)
            refine ml_st (S' := (39, [(0, .ref m0), (1, .int x1), (2, .int x2), (3, .int x3)], [.ref m0], M11)) rfl rfl rfl ?_
            refine rg_ref (S' := (42, [(0, .ref m0), (1, .int x1), (2, .int x2), (3, .int x3)], [.ref (q 37)], M11)) rfl hR13 rfl rfl ?_
            refine ml_st (S' := (43, [(0, .ref m0), (1, .int x1), (2, .int x2), (3, .int x3)], [.int x1, .ref (q 37)], M11)) rfl rfl rfl ?_
            refine ra_ld (k := 37) (S' := (44, [(0, .ref m0), (1, .int x1), (2, .int x2), (3, .int x3)], [.int mc], M11)) rfl hR13 rfl (vin_lt hx0 (by omega)) (hmc) rfl ?_
            refine ml_if (S1 := (61, [], [], M11)) (S2 := (47, [(0, .ref m0), (1, .int x1), (2, .int x2), (3, .int x3)], [], M11)) rfl rfl rfl (fun c_44 => ?_) (fun c_44 => ?_)
            · have c_44 : mc < 0 := of_decide_eq_true c_44
              refine ml_st (S' := (62, [], [.int (-1)], M11)) rfl rfl rfl ?_
              exact ml_ret rfl (rfl) (⟨_, _, _, rfl, hR13, (eqI.rf.put f15 (by decide)), eqR.rf⟩)
            · have c_44 : ¬ (mc < 0) := of_decide_eq_false c_44
              obtain ⟨ml9, mr9, mm9, ms9, mt9, hl9, hr9, hm9, hs9, ht9, hl0, hcl, hr0, hm0, hrm⟩ := hmd.resolve_left (by have q : 0 ≤ mc.toInt := i_nlt c_44; omega)
              refine ml_st (S' := (48, [(0, .ref m0), (1, .int x1), (2, .int x2), (3, .int x3)], [.int x2], M11)) rfl rfl rfl ?_
              refine ml_if (S1 := (61, [], [], M11)) (S2 := (51, [(0, .ref m0), (1, .int x1), (2, .int x2), (3, .int x3)], [], M11)) rfl rfl rfl (fun c_48 => ?_) (fun c_48 => ?_)
              · have c_48 : x2 < 0 := of_decide_eq_true c_48
                refine ml_st (S' := (62, [], [.int (-1)], M11)) rfl rfl rfl ?_
                exact ml_ret rfl (rfl) (⟨_, _, _, rfl, hR13, (eqI.rf.put f15 (by decide)), eqR.rf⟩)
              · have c_48 : ¬ (x2 < 0) := of_decide_eq_false c_48
                refine ml_blk 2 (S' := (53, [(0, .ref m0), (1, .int x1), (2, .int x2), (3, .int x3)], [.ref m0, .int x2], M11)) rfl ?_
                refine rg_ref (S' := (56, [(0, .ref m0), (1, .int x1), (2, .int x2), (3, .int x3)], [.ref (q 42), .int x2], M11)) rfl hR13 rfl rfl ?_
                refine ml_st (S' := (57, [(0, .ref m0), (1, .int x1), (2, .int x2), (3, .int x3)], [.int x1, .ref (q 42), .int x2], M11)) rfl rfl rfl ?_
                refine ra_ld (k := 42) (S' := (58, [(0, .ref m0), (1, .int x1), (2, .int x2), (3, .int x3)], [.int mm9, .int x2], M11)) rfl hR13 rfl (vin_lt hx0 (by omega)) (hm9) rfl ?_
                refine ml_if2 (S1 := (63, [(0, .ref m0), (1, .int x1), (2, .int x2), (3, .int x3)], [], M11)) (S2 := (61, [], [], M11)) rfl rfl rfl (fun c_58 => ?_) (fun c_58 => ?_)
                · have c_58 : x2 < mm9 := of_decide_eq_true c_58
                  have y0 : 0 ≤ x2.toInt := i_nlt c_48
                  have y1 := i_lt c_58
                  have w0 : 0 ≤ x3.toInt := i_nlt c_6
                  have w1 := i_le c_11
                  have w3 : (3 : Int32).toInt = 3 := rfl
                  have m8 : (8 * x2).toInt = 8 * x2.toInt := by have e8 : (8 : Int32).toInt = 8 := rfl; rw [i_mul (by rw [e8]; omega) (by rw [e8]; omega), e8]
                  have a1 : (mr9 + 8 * x2).toInt = mr9.toInt + 8 * x2.toInt := by rw [i_add (by omega) (by omega), m8]
                  have a2 : (mr9 + 8 * x2 + 2 * x3).toInt = mr9.toInt + 8 * x2.toInt + 2 * x3.toInt := by have t2 := two_k w0 (by omega); rw [i_add (by omega) (by omega), a1, t2]
                  refine ml_blk 2 (S' := (65, [(0, .ref m0), (1, .int x1), (2, .int x2), (3, .int x3)], [.ref m0, .ref m0], M11)) rfl ?_
                  refine rg_ref (S' := (68, [(0, .ref m0), (1, .int x1), (2, .int x2), (3, .int x3)], [.ref (q 41), .ref m0], M11)) rfl hR13 rfl rfl ?_
                  refine ml_st (S' := (69, [(0, .ref m0), (1, .int x1), (2, .int x2), (3, .int x3)], [.int x1, .ref (q 41), .ref m0], M11)) rfl rfl rfl ?_
                  refine ra_ld (k := 41) (S' := (70, [(0, .ref m0), (1, .int x1), (2, .int x2), (3, .int x3)], [.int mr9, .ref m0], M11)) rfl hR13 rfl (vin_lt hx0 (by omega)) (hr9) rfl ?_
                  refine ml_blk 3 (S' := (74, [(0, .ref m0), (1, .int x1), (2, .int x2), (3, .int x3)], [.int (8 * x2), .int mr9, .ref m0], M11)) rfl ?_
                  refine ml_blk 3 (S' := (77, [(0, .ref m0), (1, .int x1), (2, .int x2), (3, .int x3)], [.int x3, .int 2, .int (mr9 + (8 * x2)), .ref m0], M11)) rfl ?_
                  refine ml_blk 2 (S' := (79, [(0, .ref m0), (1, .int x1), (2, .int x2), (3, .int x3)], [.int ((mr9 + (8 * x2)) + (2 * x3)), .ref m0], M11)) rfl ?_
                  have hF26 : FK n f I12 R := (hF0.mono (pIx f15 (by decide)) (fun _ _ => rfl))
                  refine ml_call (a := [.ref m0, .int ((mr9 + (8 * x2)) + (2 * x3))]) (rest := []) rfl (hR13.okc rfl rfl rfl) rfl rfl (rm_u2 hR13 hF26 (by omega) (by omega) (by omega)) (fun v27 M28 h29 => ?_)
                  obtain ⟨rfl, h29⟩ := h29
                  rw [h29]
                  show ml _ _ _ (82, [(0, .ref m0), (1, .int x1), (2, .int x2), (3, .int x3)], [.int (f2 f ((mr9 + (8 * x2)) + (2 * x3)))], M11) _
                  exact ml_ret rfl (rfl) (⟨_, _, _, rfl, hR13, (eqI.rf.put f15 (by decide)), eqR.rf⟩)
                · have c_58 : ¬ (x2 < mm9) := of_decide_eq_false c_58
                  refine ml_st (S' := (62, [], [.int (-1)], M11)) rfl rfl rfl ?_
                  exact ml_ret rfl (rfl) (⟨_, _, _, rfl, hR13, (eqI.rf.put f15 (by decide)), eqR.rf⟩)
    · have c_11 : ¬ (x3 ≤ 3) := of_decide_eq_false c_11
      refine ml_st (S' := (15, [(0, .ref m0)], [.ref m0], M11)) rfl rfl rfl ?_
      refine ml_call (a := [.ref m0]) (rest := []) rfl (hR13.okc rfl rfl rfl) rfl rfl (rm_bad hR13 (by omega)) (fun v30 M31 h32 => ?_)
      obtain ⟨u38, I33, R34, rfl, hR35, hI36, hV37, w39⟩ := h32
      show ml _ _ _ (18, [(0, .ref m0)], [.int u38], M31) _
      exact ml_ret rfl (rfl) (⟨_, _, _, rfl, hR35, ((eqI.rf.put f15 (by decide)).tr hI36 (by decide)), (eqR.rf.tr hV37 (by decide))⟩)
set_option maxHeartbeats 2000000 in
theorem rm_bootstrap {g : xe_G}  {m0 : Nat} {q : Nat → Nat} {z : Nat × Nat} {I : rI} {R : rR} {M : mi_H} {x1 x2 kn : Int32} {n : Nat} {f : Nat → Int32}  (hR : RS g m0 q z I R M) (hk18 : I 18 = some kn) (hG : (kn < 0 ∨ GD n f I R)) {d : Nat} (hd : 3 ≤ d) : mt (mT g) d 184 [.ref m0, .int x1, .int x2] M (fun v M' => ∃ (x : Int32) (I' : rI) (R' : rR), v = some (.int x) ∧ RS g m0 q z I' R' M' ∧ eqI [0] I I' ∧ eqR [] R R') := by
  obtain ⟨d, rfl⟩ : ∃ e, d = e + 1 := ⟨d - 1, by omega⟩
  refine mt_in (b := mb_184 g) rfl rfl ?_
  show ml (mT g) d (mb_184 g).2 (0, [(0, .ref m0), (1, .int x1), (2, .int x2)], [], M) _
  refine ml_blk 2 (S' := (2, [(0, .ref m0), (1, .int x1), (2, .int x2)], [.int 0, .ref m0], M)) rfl ?_
  refine rp_int rfl hR rfl (fun M11 I12 hR13 e14 f15 => ?_)
  show ml _ _ _ (5, [(0, .ref m0), (1, .int x1), (2, .int x2)], [], M11) _
  refine ml_st (S' := (6, [(0, .ref m0), (1, .int x1), (2, .int x2)], [.ref m0], M11)) rfl rfl rfl ?_
  refine rg_int (S' := (9, [(0, .ref m0), (1, .int x1), (2, .int x2)], [.int kn], M11)) rfl hR13 rfl ((f15 18 (by decide)).trans (hk18)) rfl ?_
  refine ml_if (S1 := (28, [], [], M11)) (S2 := (12, [(0, .ref m0), (1, .int x1), (2, .int x2)], [], M11)) rfl rfl rfl (fun c_9 => ?_) (fun c_9 => ?_)
  · have c_9 : kn < 0 := of_decide_eq_true c_9
    refine ml_st (S' := (29, [], [.int (-1)], M11)) rfl rfl rfl ?_
    exact ml_ret rfl (rfl) (⟨_, _, _, rfl, hR13, (eqI.rf.put f15 (by decide)), eqR.rf⟩)
  · have c_9 : ¬ (kn < 0) := of_decide_eq_false c_9
    obtain ⟨S, cN, sa, sl, ch, cp, mj, pa, py, hA, fA, mA, aA, nf, ni, kf, km, hF0, hY0, hP0, hE0, hFO, kq54, kq58, kq61, hkf, kq25, hfk, hkm, kq26, hmk, hNW⟩ := hG.resolve_left (c_9)
    have hn := hF0.1
    obtain ⟨hNk, nb, nc, kq70, kq71, hnc, hbs⟩ := hNW
    refine ml_st (S' := (13, [(0, .ref m0), (1, .int x1), (2, .int x2)], [.int x1], M11)) rfl rfl rfl ?_
    refine ml_if (S1 := (28, [], [], M11)) (S2 := (16, [(0, .ref m0), (1, .int x1), (2, .int x2)], [], M11)) rfl rfl rfl (fun c_13 => ?_) (fun c_13 => ?_)
    · have c_13 : x1 < 0 := of_decide_eq_true c_13
      refine ml_st (S' := (29, [], [.int (-1)], M11)) rfl rfl rfl ?_
      exact ml_ret rfl (rfl) (⟨_, _, _, rfl, hR13, (eqI.rf.put f15 (by decide)), eqR.rf⟩)
    · have c_13 : ¬ (x1 < 0) := of_decide_eq_false c_13
      refine ml_blk 2 (S' := (18, [(0, .ref m0), (1, .int x1), (2, .int x2)], [.ref m0, .int x1], M11)) rfl ?_
      refine rg_int (S' := (21, [(0, .ref m0), (1, .int x1), (2, .int x2)], [.int nc, .int x1], M11)) rfl hR13 rfl ((f15 71 (by decide)).trans (kq71)) rfl ?_
      refine ml_if2 (S1 := (28, [], [], M11)) (S2 := (24, [(0, .ref m0), (1, .int x1), (2, .int x2)], [], M11)) rfl rfl rfl (fun c_21 => ?_) (fun c_21 => ?_)
      · have c_21 : nc ≤ x1 := of_decide_eq_true c_21
        refine ml_st (S' := (29, [], [.int (-1)], M11)) rfl rfl rfl ?_
        exact ml_ret rfl (rfl) (⟨_, _, _, rfl, hR13, (eqI.rf.put f15 (by decide)), eqR.rf⟩)
      · have c_21 : ¬ (nc ≤ x1) := of_decide_eq_false c_21
        refine ml_st (S' := (25, [(0, .ref m0), (1, .int x1), (2, .int x2)], [.int x2], M11)) rfl rfl rfl ?_
        refine ml_if (S1 := (30, [(0, .ref m0), (1, .int x1), (2, .int x2)], [], M11)) (S2 := (28, [], [], M11)) rfl rfl rfl (fun c_25 => ?_) (fun c_25 => ?_)
        · have c_25 : 0 ≤ x2 := of_decide_eq_true c_25
          have x0 : 0 ≤ x1.toInt := i_nlt c_13
          have x1n := i_nle c_21
          have hp0 : 0 ≤ x2.toInt := i_le c_25
          obtain ⟨hb0, hb2, e9, hit, hen⟩ := hbs.resolve_left (by omega)
          refine ml_st (S' := (31, [(0, .ref m0), (1, .int x1), (2, .int x2)], [.ref m0], M11)) rfl rfl rfl ?_
          refine rg_int (S' := (34, [(0, .ref m0), (1, .int x1), (2, .int x2)], [.int nb], M11)) rfl hR13 rfl ((f15 70 (by decide)).trans (kq70)) rfl ?_
          refine ml_blk 2 (S' := (36, [(0, .ref m0), (1, .int x1), (2, .int x2)], [.int (nb + 2)], M11)) rfl ?_
          refine ml_st (S' := (37, [(3, .int (nb + 2)), (0, .ref m0), (1, .int x1), (2, .int x2)], [], M11)) rfl rfl rfl ?_
          refine ml_st (S' := (38, [(3, .int (nb + 2)), (0, .ref m0), (1, .int x1), (2, .int x2)], [.int 0], M11)) rfl rfl rfl ?_
          refine ml_st (S' := (40, [(0, .ref m0), (1, .int x1), (2, .int x2), (3, .int (nb + 2)), (4, .int 0)], [], M11)) rfl rfl rfl ?_
          have L_40 : ∀ (n_40 : Nat) (i40_3 : Int32) (i40_4 : Int32), (2147483648 - i40_4.toInt).toNat ≤ n_40 → (0 ≤ i40_4.toInt ∧ i40_4.toInt ≤ x1.toInt ∧ itr (BS1 f n) (nc.toInt - i40_4.toInt).toNat i40_3 e9) → ml (mT g) d (mb_184 g).2 (40, [(0, .ref m0), (1, .int x1), (2, .int x2), (3, .int i40_3), (4, .int i40_4)], [], M11) (fun v M' => ∃ (x : Int32) (I' : rI) (R' : rR), v = some (.int x) ∧ RS g m0 q z I' R' M' ∧ eqI [0] I I' ∧ eqR [] R R') := by
            intro n_40
            induction n_40 with
            | zero => intro i40_3 i40_4 hn; exact (loop_zero hn).elim
            | succ n_40 ih_40 =>
              intro i40_3 i40_4 hn_40 hi_40
              obtain ⟨hk0b, hk1b, hitb⟩ := hi_40
              have hkc : ¬ nc ≤ i40_4 := fun e => by have := i_le e; omega
              obtain ⟨b1, hb1, hnx⟩ := itr_next hitb hkc
              have hb2 := hb1
              obtain ⟨g0, g1, g2, g3⟩ := hb2
              have eq2 : (i40_3 + 2).toInt = i40_3.toInt + 2 := i_add (by have : (2 : Int32).toInt = 2 := rfl; omega) (by have : (2 : Int32).toInt = 2 := rfl; omega)
              have hbs2 := bs_of (f := f) hn g0 g1
              have hm0 := f2_pos (f := f) (x := i40_3 + 2)
              have hm1 := f2_le (f := f) (x := i40_3 + 2)
              refine ml_blk 2 (S' := (43, [(0, .ref m0), (1, .int x1), (2, .int x2), (3, .int i40_3), (4, .int i40_4)], [.int x1, .int i40_4], M11)) rfl ?_
              refine ml_if2 (S1 := (66, [(0, .ref m0), (1, .int x1), (2, .int x2), (3, .int i40_3), (4, .int i40_4)], [], M11)) (S2 := (46, [(0, .ref m0), (1, .int x1), (2, .int x2), (3, .int i40_3), (4, .int i40_4)], [], M11)) rfl rfl rfl (fun c_43 => ?_) (fun c_43 => ?_)
              · have c_43 : x1 ≤ i40_4 := of_decide_eq_true c_43
                refine ml_st (S' := (67, [(0, .ref m0), (1, .int x1), (2, .int x2), (3, .int i40_3), (4, .int i40_4)], [.int x2], M11)) rfl rfl rfl ?_
                refine ml_if (S1 := (76, [(0, .ref m0), (1, .int x1), (2, .int x2), (3, .int i40_3), (4, .int i40_4)], [], M11)) (S2 := (70, [(0, .ref m0), (1, .int x1), (2, .int x2), (3, .int i40_3), (4, .int i40_4)], [], M11)) rfl rfl rfl (fun c_67 => ?_) (fun c_67 => ?_)
                · have c_67 : ¬ x2 = 0 := of_decide_eq_true c_67
                  refine ml_blk 3 (S' := (79, [(0, .ref m0), (1, .int x1), (2, .int x2), (3, .int i40_3), (4, .int i40_4)], [.int i40_3, .ref m0, .int x2], M11)) rfl ?_
                  refine ml_blk 2 (S' := (81, [(0, .ref m0), (1, .int x1), (2, .int x2), (3, .int i40_3), (4, .int i40_4)], [.int (i40_3 + 2), .ref m0, .int x2], M11)) rfl ?_
                  have hF16 : FK n f I12 R := (hF0.mono (pIx f15 (by decide)) (fun _ _ => rfl))
                  refine ml_call (a := [.ref m0, .int (i40_3 + 2)]) (rest := [.int x2]) rfl (hR13.okc rfl rfl rfl) rfl rfl (rm_u2 hR13 hF16 (by omega) (by omega) (by omega)) (fun v17 M18 h19 => ?_)
                  obtain ⟨rfl, h19⟩ := h19
                  rw [h19]
                  show ml _ _ _ (84, [(0, .ref m0), (1, .int x1), (2, .int x2), (3, .int i40_3), (4, .int i40_4)], [.int (f2 f (i40_3 + 2)), .int x2], M11) _
                  refine ml_if2 (S1 := (91, [(0, .ref m0), (1, .int x1), (2, .int x2), (3, .int i40_3), (4, .int i40_4)], [], M11)) (S2 := (87, [(0, .ref m0), (1, .int x1), (2, .int x2), (3, .int i40_3), (4, .int i40_4)], [], M11)) rfl rfl rfl (fun c_84 => ?_) (fun c_84 => ?_)
                  · have c_84 : x2 ≤ (f2 f (i40_3 + 2)) := of_decide_eq_true c_84
                    have r1 := i_le c_84
                    have t2 := two_k hp0 (by omega)
                    have a2 : (i40_3 + 2 + 2 * x2).toInt = i40_3.toInt + 2 + 2 * x2.toInt := by rw [i_add (by omega) (by omega), eq2, t2]
                    refine ml_blk 3 (S' := (94, [(0, .ref m0), (1, .int x1), (2, .int x2), (3, .int i40_3), (4, .int i40_4)], [.int 2, .int i40_3, .ref m0], M11)) rfl ?_
                    refine ml_blk 3 (S' := (97, [(0, .ref m0), (1, .int x1), (2, .int x2), (3, .int i40_3), (4, .int i40_4)], [.int x2, .int 2, .int (i40_3 + 2), .ref m0], M11)) rfl ?_
                    refine ml_blk 2 (S' := (99, [(0, .ref m0), (1, .int x1), (2, .int x2), (3, .int i40_3), (4, .int i40_4)], [.int ((i40_3 + 2) + (2 * x2)), .ref m0], M11)) rfl ?_
                    refine ml_call (a := [.ref m0, .int ((i40_3 + 2) + (2 * x2))]) (rest := []) rfl (hR13.okc rfl rfl rfl) rfl rfl (rm_u2 hR13 hF16 (by omega) (by omega) (by omega)) (fun v20 M21 h22 => ?_)
                    obtain ⟨rfl, h22⟩ := h22
                    rw [h22]
                    show ml _ _ _ (102, [], [.int (f2 f ((i40_3 + 2) + (2 * x2)))], M11) _
                    exact ml_ret rfl (rfl) (⟨_, _, _, rfl, hR13, (eqI.rf.put f15 (by decide)), eqR.rf⟩)
                  · have c_84 : ¬ (x2 ≤ (f2 f (i40_3 + 2))) := of_decide_eq_false c_84
                    refine ml_st (S' := (88, [(0, .ref m0), (1, .int x1), (2, .int x2), (3, .int i40_3), (4, .int i40_4)], [.int (-1)], M11)) rfl rfl rfl ?_
                    refine ml_st (S' := (102, [], [.int (-1)], M11)) rfl rfl rfl ?_
                    exact ml_ret rfl (rfl) (⟨_, _, _, rfl, hR13, (eqI.rf.put f15 (by decide)), eqR.rf⟩)
                · have c_67 : ¬ (¬ x2 = 0) := of_decide_eq_false c_67
                  refine ml_blk 2 (S' := (72, [(0, .ref m0), (1, .int x1), (2, .int x2), (3, .int i40_3), (4, .int i40_4)], [.int i40_3, .ref m0], M11)) rfl ?_
                  have hF23 : FK n f I12 R := (hF0.mono (pIx f15 (by decide)) (fun _ _ => rfl))
                  refine ml_call (a := [.ref m0, .int i40_3]) (rest := []) rfl (hR13.okc rfl rfl rfl) rfl rfl (rm_u2 hR13 hF23 (g0) (by omega) (by omega)) (fun v24 M25 h26 => ?_)
                  obtain ⟨rfl, h26⟩ := h26
                  rw [h26]
                  show ml _ _ _ (75, [(0, .ref m0), (1, .int x1), (2, .int x2), (3, .int i40_3), (4, .int i40_4)], [.int (f2 f i40_3)], M11) _
                  exact ml_ret rfl (rfl) (⟨_, _, _, rfl, hR13, (eqI.rf.put f15 (by decide)), eqR.rf⟩)
              · have c_43 : ¬ (x1 ≤ i40_4) := of_decide_eq_false c_43
                refine ml_blk 3 (S' := (49, [(0, .ref m0), (1, .int x1), (2, .int x2), (3, .int i40_3), (4, .int i40_4)], [.int 2, .int 4, .int i40_3], M11)) rfl ?_
                refine ml_blk 3 (S' := (52, [(0, .ref m0), (1, .int x1), (2, .int x2), (3, .int i40_3), (4, .int i40_4)], [.int 2, .int i40_3, .ref m0, .int 2, .int 4, .int i40_3], M11)) rfl ?_
                refine ml_st (S' := (53, [(0, .ref m0), (1, .int x1), (2, .int x2), (3, .int i40_3), (4, .int i40_4)], [.int (i40_3 + 2), .ref m0, .int 2, .int 4, .int i40_3], M11)) rfl rfl rfl ?_
                have hF27 : FK n f I12 R := (hF0.mono (pIx f15 (by decide)) (fun _ _ => rfl))
                refine ml_call (a := [.ref m0, .int (i40_3 + 2)]) (rest := [.int 2, .int 4, .int i40_3]) rfl (hR13.okc rfl rfl rfl) rfl rfl (rm_u2 hR13 hF27 (by omega) (by omega) (by omega)) (fun v28 M29 h30 => ?_)
                obtain ⟨rfl, h30⟩ := h30
                rw [h30]
                show ml _ _ _ (56, [(0, .ref m0), (1, .int x1), (2, .int x2), (3, .int i40_3), (4, .int i40_4)], [.int (f2 f (i40_3 + 2)), .int 2, .int 4, .int i40_3], M11) _
                refine ml_blk 3 (S' := (59, [(0, .ref m0), (1, .int x1), (2, .int x2), (3, .int i40_3), (4, .int i40_4)], [.int (i40_3 + (4 + (2 * (f2 f (i40_3 + 2)))))], M11)) rfl ?_
                refine ml_st (S' := (60, [(3, .int (i40_3 + (4 + (2 * (f2 f (i40_3 + 2)))))), (0, .ref m0), (1, .int x1), (2, .int x2), (4, .int i40_4)], [], M11)) rfl rfl rfl ?_
                refine ml_st (S' := (63, [(4, .int (i40_4 + 1)), (3, .int (i40_3 + (4 + (2 * (f2 f (i40_3 + 2)))))), (0, .ref m0), (1, .int x1), (2, .int x2)], [], M11)) rfl rfl rfl ?_
                refine ml_st (S' := (40, [(0, .ref m0), (1, .int x1), (2, .int x2), (3, .int (i40_3 + (4 + (2 * (f2 f (i40_3 + 2)))))), (4, .int (i40_4 + 1))], [], M11)) rfl rfl rfl ?_
                exact ih_40 (i40_3 + (4 + (2 * (f2 f (i40_3 + 2))))) (i40_4 + 1) (loop_inc (Int32.not_le.mp c_43) hn_40) (⟨by rw [inc_lt (Int32.not_le.mp c_43)]; omega, by rw [inc_lt (Int32.not_le.mp c_43)]; have := i_nle c_43; omega, hb1.eq hbs2.1 ▸ hnx⟩)
          exact L_40 _ (nb + 2) 0 (Nat.le_refl _) (⟨by decide, x0, by rw [show (nc.toInt - (0 : Int32).toInt).toNat = nc.toInt.toNat by have : (0 : Int32).toInt = 0 := rfl; omega]; exact hit⟩)
        · have c_25 : ¬ (0 ≤ x2) := of_decide_eq_false c_25
          refine ml_st (S' := (29, [], [.int (-1)], M11)) rfl rfl rfl ?_
          exact ml_ret rfl (rfl) (⟨_, _, _, rfl, hR13, (eqI.rf.put f15 (by decide)), eqR.rf⟩)
