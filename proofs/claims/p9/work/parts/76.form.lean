/-! the reference: forms (laid by wip/p2/c76.py) -/
set_option maxHeartbeats 2000000 in
theorem rm_formed {g : xe_G}  {m0 : Nat} {q : Nat → Nat} {z : Nat × Nat} {I : rI} {R : rR} {M : mi_H} {x1 x2 : Int32} {n : Nat} {f : Nat → Int32} {ca cl : Int32}  (hR : RS g m0 q z I R M) (hF : FK n f I R) (hC : CK n ca cl I R) (h0 : 0 ≤ x1.toInt) (h1 : x1.toInt < cl.toInt) (hop : f1 f (ca + x1) = x2) (hop2 : (x2 = 170 ∨ x2 = 171) ∨ x2 = 196) {d : Nat} (hd : 5 ≤ d) : mt (mT g) d 210 [.ref m0, .int x1, .int x2] M (fun v M' => (∃ x : Int32, v = some (.int x) ∧ (x < 0 ∨ FRM f ca cl x1 x)) ∧ M' = M) := by
  obtain ⟨d, rfl⟩ : ∃ e, d = e + 1 := ⟨d - 1, by omega⟩
  refine mt_in (b := mb_210 g) rfl rfl ?_
  show ml (mT g) d (mb_210 g).2 (0, [(0, .ref m0), (1, .int x1), (2, .int x2)], [], M) _
  have hn := hF.1
  obtain ⟨hca, hcl, hcn⟩ := hC.2.2
  have d1 : (x1 + 1).toInt = x1.toInt + 1 := by have e9 : (1 : Int32).toInt = 1 := rfl; rw [i_add (by omega) (by omega), e9]
  have hp := pd_b h0 (by omega)
  have d4 : ((pd x1) + 4).toInt = (pd x1).toInt + 4 := by have e9 : (4 : Int32).toInt = 4 := rfl; rw [i_add (by omega) (by omega), e9]
  have d8 : ((pd x1) + 8).toInt = (pd x1).toInt + 8 := by have e9 : (8 : Int32).toInt = 8 := rfl; rw [i_add (by omega) (by omega), e9]
  have d12 : ((pd x1) + 12).toInt = (pd x1).toInt + 12 := by have e9 : (12 : Int32).toInt = 12 := rfl; rw [i_add (by omega) (by omega), e9]
  refine ml_blk 2 (S' := (4, [(0, .ref m0), (1, .int x1), (2, .int x2)], [.int 196, .int x2], M)) rfl ?_
  refine ml_if2 (S1 := (76, [(0, .ref m0), (1, .int x1), (2, .int x2)], [], M)) (S2 := (7, [(0, .ref m0), (1, .int x1), (2, .int x2)], [], M)) rfl rfl rfl (fun c_4 => ?_) (fun c_4 => ?_)
  · have c_4 : ¬ x2 = 196 := of_decide_eq_true c_4
    have ho := hop2.resolve_right c_4
    refine ml_st (S' := (77, [(0, .ref m0), (1, .int x1), (2, .int x2)], [.int x1], M)) rfl rfl rfl ?_
    refine ml_call (a := [.int x1]) (rest := []) rfl (rfl) rfl rfl (rm_pad hR (by omega)) (fun v11 M12 h13 => ?_)
    obtain ⟨rfl, h13⟩ := h13
    rw [h13]
    show ml _ _ _ (80, [(0, .ref m0), (1, .int x1), (2, .int x2)], [.int (pd x1)], M) _
    refine ml_st (S' := (81, [(3, .int (pd x1)), (0, .ref m0), (1, .int x1), (2, .int x2)], [], M)) rfl rfl rfl ?_
    refine ml_blk 3 (S' := (86, [(3, .int (pd x1)), (0, .ref m0), (1, .int x1), (2, .int x2)], [.int 170, .int x2, .int (pd x1)], M)) rfl ?_
    have J_96 : ∀ (s96_0 : Int32), ((x2 = 170 → s96_0 = 12) ∧ (¬ x2 = 170 → s96_0 = 8)) → ml (mT g) d (mb_210 g).2 (96, [(0, .ref m0), (1, .int x1), (2, .int x2), (3, .int (pd x1))], [.int s96_0, .int (pd x1)], M) (fun v M' => (∃ x : Int32, v = some (.int x) ∧ (x < 0 ∨ FRM f ca cl x1 x)) ∧ M' = M) := by
      intro s96_0 hj_96
      refine ml_blk 2 (S' := (98, [(0, .ref m0), (1, .int x1), (2, .int x2), (3, .int (pd x1))], [.ref m0, .int ((pd x1) + s96_0)], M)) rfl ?_
      refine rg_int (S' := (101, [(0, .ref m0), (1, .int x1), (2, .int x2), (3, .int (pd x1))], [.int cl, .int ((pd x1) + s96_0)], M)) rfl hR rfl (hC.2.1) rfl ?_
      refine ml_if2 (S1 := (106, [(0, .ref m0), (1, .int x1), (2, .int x2), (3, .int (pd x1))], [], M)) (S2 := (104, [(0, .ref m0), (1, .int x1), (2, .int x2), (3, .int (pd x1))], [], M)) rfl rfl rfl (fun c_101 => ?_) (fun c_101 => ?_)
      · have c_101 : ((pd x1) + s96_0) ≤ cl := of_decide_eq_true c_101
        have h106 : (x2 = 170 → (pd x1).toInt + 12 ≤ cl.toInt) ∧ (¬ x2 = 170 → (pd x1).toInt + 8 ≤ cl.toInt) := ⟨fun e => by have q := i_le c_101; rw [hj_96.1 e, d12] at q; exact q, fun e => by have q := i_le c_101; rw [hj_96.2 e, d8] at q; exact q⟩
        have h8 : (pd x1).toInt + 8 ≤ cl.toInt := by rcases Decidable.em (x2 = 170) with e | e; (have := h106.1 e; omega); exact h106.2 e
        refine ml_blk 3 (S' := (109, [(0, .ref m0), (1, .int x1), (2, .int x2), (3, .int (pd x1))], [.int (x1 + 1)], M)) rfl ?_
        refine ml_st (S' := (111, [(0, .ref m0), (1, .int x1), (2, .int x2), (3, .int (pd x1)), (4, .int (x1 + 1))], [], M)) rfl rfl rfl ?_
        have L_111 : ∀ (n_111 : Nat) (i111_4 : Int32), (2147483648 - i111_4.toInt).toNat ≤ n_111 → 0 ≤ i111_4.toInt → ml (mT g) d (mb_210 g).2 (111, [(0, .ref m0), (1, .int x1), (2, .int x2), (3, .int (pd x1)), (4, .int i111_4)], [], M) (fun v M' => (∃ x : Int32, v = some (.int x) ∧ (x < 0 ∨ FRM f ca cl x1 x)) ∧ M' = M) := by
          intro n_111
          induction n_111 with
          | zero => intro i111_4 hn; exact (loop_zero hn).elim
          | succ n_111 ih_111 =>
            intro i111_4 hn_111 hi_111
            refine ml_blk 2 (S' := (114, [(0, .ref m0), (1, .int x1), (2, .int x2), (3, .int (pd x1)), (4, .int i111_4)], [.int (pd x1), .int i111_4], M)) rfl ?_
            refine ml_if2 (S1 := (134, [(0, .ref m0), (1, .int x1), (2, .int x2), (3, .int (pd x1)), (4, .int i111_4)], [], M)) (S2 := (117, [(0, .ref m0), (1, .int x1), (2, .int x2), (3, .int (pd x1)), (4, .int i111_4)], [], M)) rfl rfl rfl (fun c_114 => ?_) (fun c_114 => ?_)
            · have c_114 : (pd x1) ≤ i111_4 := of_decide_eq_true c_114
              refine ml_blk 2 (S' := (138, [(0, .ref m0), (1, .int x1), (2, .int x2), (3, .int (pd x1)), (4, .int i111_4)], [.int 170, .int x2], M)) rfl ?_
              have J_174 : ((x2 = 170 → (B4 f ca (pd x1 + 4)).toInt ≤ (B4 f ca (pd x1 + 8)).toInt) ∧ (¬ x2 = 170 → 0 ≤ (B4 f ca (pd x1 + 4)).toInt)) → ml (mT g) d (mb_210 g).2 (174, [(0, .ref m0), (1, .int x1), (2, .int x2), (3, .int (pd x1))], [], M) (fun v M' => (∃ x : Int32, v = some (.int x) ∧ (x < 0 ∨ FRM f ca cl x1 x)) ∧ M' = M) := by
                intro hj_174
                refine ml_blk 2 (S' := (178, [(0, .ref m0), (1, .int x1), (2, .int x2), (3, .int (pd x1))], [.int 170, .int x2], M)) rfl ?_
                have J_228 : ∀ (s228_0 : Int64), ((x2 = 170 → s228_0.toInt = 4 * ((B4 f ca (pd x1 + 8)).toInt - (B4 f ca (pd x1 + 4)).toInt + 1) + 12) ∧ (¬ x2 = 170 → s228_0.toInt = 8 * (B4 f ca (pd x1 + 4)).toInt + 8)) → ml (mT g) d (mb_210 g).2 (228, [(0, .ref m0), (1, .int x1), (2, .int x2), (3, .int (pd x1))], [.long s228_0], M) (fun v M' => (∃ x : Int32, v = some (.int x) ∧ (x < 0 ∨ FRM f ca cl x1 x)) ∧ M' = M) := by
                  intro s228_0 hj_228
                  refine ml_st (S' := (230, [(4, .long s228_0), (0, .ref m0), (1, .int x1), (2, .int x2), (3, .int (pd x1))], [], M)) rfl rfl rfl ?_
                  refine ml_blk 3 (S' := (234, [(4, .long s228_0), (0, .ref m0), (1, .int x1), (2, .int x2), (3, .int (pd x1))], [.long s228_0, .long (Int32.toInt64 (pd x1))], M)) rfl ?_
                  refine ml_blk 2 (S' := (236, [(4, .long s228_0), (0, .ref m0), (1, .int x1), (2, .int x2), (3, .int (pd x1))], [.ref m0, .long ((Int32.toInt64 (pd x1)) + s228_0)], M)) rfl ?_
                  refine rg_int (S' := (239, [(4, .long s228_0), (0, .ref m0), (1, .int x1), (2, .int x2), (3, .int (pd x1))], [.int cl, .long ((Int32.toInt64 (pd x1)) + s228_0)], M)) rfl hR rfl (hC.2.1) rfl ?_
                  refine ml_blk 2 (S' := (241, [(4, .long s228_0), (0, .ref m0), (1, .int x1), (2, .int x2), (3, .int (pd x1))], [.int (lg_cmp ((Int32.toInt64 (pd x1)) + s228_0) (Int32.toInt64 cl))], M)) rfl ?_
                  refine ml_if (S1 := (246, [(4, .long s228_0), (0, .ref m0), (1, .int x1), (2, .int x2), (3, .int (pd x1))], [], M)) (S2 := (244, [(4, .long s228_0), (0, .ref m0), (1, .int x1), (2, .int x2), (3, .int (pd x1))], [], M)) rfl rfl rfl (fun c_241 => ?_) (fun c_241 => ?_)
                  · have c_241 : (lg_cmp ((Int32.toInt64 (pd x1)) + s228_0) (Int32.toInt64 cl)) ≤ 0 := of_decide_eq_true c_241
                    have hsz : (pd x1).toInt + s228_0.toInt ≤ cl.toInt := by have hb : s228_0.toInt ≤ 40000000000 := (by have a1 := Int32.le_toInt (B4 f ca (pd x1 + 4)); have a2 := Int32.toInt_lt (B4 f ca (pd x1 + 8)); have a3 := Int32.toInt_lt (B4 f ca (pd x1 + 4)); rcases Decidable.em (x2 = 170) with e | e; (rw [hj_228.1 e]; omega); (rw [hj_228.2 e]; omega)); have hb2 : 0 ≤ s228_0.toInt := (by rcases Decidable.em (x2 = 170) with e | e; (rw [hj_228.1 e]; have := hj_174.1 e; omega); (rw [hj_228.2 e]; have := hj_174.2 e; omega)); have q := lc_le c_241; rw [l_add (by rw [l_of]; omega) (by rw [l_of]; omega), l_of, l_of] at q; exact q
                    have h88 : 8 ≤ s228_0.toInt := by rcases Decidable.em (x2 = 170) with e | e; (rw [hj_228.1 e]; have := hj_174.1 e; omega); (rw [hj_228.2 e]; have := hj_174.2 e; omega)
                    have hS : SWF f ca cl x1 := ⟨fun e => by have e2 : x2 = 170 := hop.symm.trans e; have a := h106.1 e2; have b := hj_174.1 e2; have c := hj_228.1 e2; exact ⟨a, b, by omega⟩, fun e => by have e2 : ¬ x2 = 170 := (fun q => absurd ((hop.trans q).symm.trans e) (by decide)); have a := h106.2 e2; have b := hj_174.2 e2; have c := hj_228.2 e2; exact ⟨a, b, by omega⟩⟩
                    refine ml_blk 2 (S' := (250, [(4, .long s228_0), (0, .ref m0), (1, .int x1), (2, .int x2), (3, .int (pd x1))], [.int 171, .int x2], M)) rfl ?_
                    refine ml_if2 (S1 := (304, [(1, .int x1), (3, .int (pd x1)), (4, .long s228_0)], [], M)) (S2 := (253, [(4, .long s228_0), (0, .ref m0), (1, .int x1), (2, .int x2), (3, .int (pd x1))], [], M)) rfl rfl rfl (fun c_250 => ?_) (fun c_250 => ?_)
                    · have c_250 : ¬ x2 = 171 := of_decide_eq_true c_250
                      refine ml_blk 3 (S' := (308, [(1, .int x1), (3, .int (pd x1)), (4, .long s228_0)], [.long s228_0, .long (Int32.toInt64 (pd x1))], M)) rfl ?_
                      refine ml_blk 3 (S' := (311, [(1, .int x1), (3, .int (pd x1)), (4, .long s228_0)], [.long (Int32.toInt64 x1), .long ((Int32.toInt64 (pd x1)) + s228_0)], M)) rfl ?_
                      refine ml_blk 2 (S' := (313, [(1, .int x1), (3, .int (pd x1)), (4, .long s228_0)], [.int (Int64.toInt32 (((Int32.toInt64 (pd x1)) + s228_0) - (Int32.toInt64 x1)))], M)) rfl ?_
                      exact ml_ret rfl (rfl) (⟨⟨_, rfl, Or.inr ⟨fun e => absurd (hop.symm.trans e) c_4, fun _ => ⟨hS, (sw_l3 h0 hp.1 (by omega) h88).1⟩, (sw_l3 h0 hp.1 (by omega) h88).2⟩⟩, rfl⟩)
                    · have c_250 : ¬ (¬ x2 = 171) := of_decide_eq_false c_250
                      refine ml_st (S' := (254, [(4, .long s228_0), (0, .ref m0), (1, .int x1), (2, .int x2), (3, .int (pd x1))], [.int 1], M)) rfl rfl rfl ?_
                      refine ml_st (S' := (256, [(0, .ref m0), (1, .int x1), (3, .int (pd x1)), (4, .long s228_0), (6, .int 1)], [], M)) rfl rfl rfl ?_
                      have L_256 : ∀ (n_256 : Nat) (i256_6 : Int32), (2147483648 - i256_6.toInt).toNat ≤ n_256 → 1 ≤ i256_6.toInt → ml (mT g) d (mb_210 g).2 (256, [(0, .ref m0), (1, .int x1), (3, .int (pd x1)), (4, .long s228_0), (6, .int i256_6)], [], M) (fun v M' => (∃ x : Int32, v = some (.int x) ∧ (x < 0 ∨ FRM f ca cl x1 x)) ∧ M' = M) := by
                        intro n_256
                        induction n_256 with
                        | zero => intro i256_6 hn; exact (loop_zero hn).elim
                        | succ n_256 ih_256 =>
                          intro i256_6 hn_256 hi_256
                          refine ml_blk 3 (S' := (260, [(0, .ref m0), (1, .int x1), (3, .int (pd x1)), (4, .long s228_0), (6, .int i256_6)], [.int (pd x1), .ref m0, .int i256_6], M)) rfl ?_
                          refine ml_blk 2 (S' := (262, [(0, .ref m0), (1, .int x1), (3, .int (pd x1)), (4, .long s228_0), (6, .int i256_6)], [.int ((pd x1) + 4), .ref m0, .int i256_6], M)) rfl ?_
                          refine ml_call (a := [.ref m0, .int ((pd x1) + 4)]) (rest := [.int i256_6]) rfl (hR.okc rfl rfl rfl) rfl rfl (rm_b4 hR hF hC (by omega) (by omega) (by omega)) (fun v14 M15 h16 => ?_)
                          obtain ⟨rfl, h16⟩ := h16
                          rw [h16]
                          show ml _ _ _ (265, [(0, .ref m0), (1, .int x1), (3, .int (pd x1)), (4, .long s228_0), (6, .int i256_6)], [.int (B4 f ca ((pd x1) + 4)), .int i256_6], M) _
                          refine ml_if2 (S1 := (304, [(1, .int x1), (3, .int (pd x1)), (4, .long s228_0)], [], M)) (S2 := (268, [(0, .ref m0), (1, .int x1), (3, .int (pd x1)), (4, .long s228_0), (6, .int i256_6)], [], M)) rfl rfl rfl (fun c_265 => ?_) (fun c_265 => ?_)
                          · have c_265 : (B4 f ca ((pd x1) + 4)) ≤ i256_6 := of_decide_eq_true c_265
                            refine ml_blk 3 (S' := (308, [(1, .int x1), (3, .int (pd x1)), (4, .long s228_0)], [.long s228_0, .long (Int32.toInt64 (pd x1))], M)) rfl ?_
                            refine ml_blk 3 (S' := (311, [(1, .int x1), (3, .int (pd x1)), (4, .long s228_0)], [.long (Int32.toInt64 x1), .long ((Int32.toInt64 (pd x1)) + s228_0)], M)) rfl ?_
                            refine ml_blk 2 (S' := (313, [(1, .int x1), (3, .int (pd x1)), (4, .long s228_0)], [.int (Int64.toInt32 (((Int32.toInt64 (pd x1)) + s228_0) - (Int32.toInt64 x1)))], M)) rfl ?_
                            exact ml_ret rfl (rfl) (⟨⟨_, rfl, Or.inr ⟨fun e => absurd (hop.symm.trans e) c_4, fun _ => ⟨hS, (sw_l3 h0 hp.1 (by omega) h88).1⟩, (sw_l3 h0 hp.1 (by omega) h88).2⟩⟩, rfl⟩)
                          · have c_265 : ¬ ((B4 f ca ((pd x1) + 4)) ≤ i256_6) := of_decide_eq_false c_265
                            have hlt := i_nle c_265
                            have e71 : ¬ x2 = 170 := by rw [show x2 = 171 from Decidable.not_not.mp c_250]; decide
                            have hc9 := hj_228.2 e71
                            have m8 := mul_k (k := 8) (x := i256_6) (a := 8) rfl (by omega) (by omega) (by omega) (by omega)
                            have a1 : (pd x1 + 8 + 8 * i256_6).toInt = (pd x1).toInt + 8 + 8 * i256_6.toInt := by rw [i_add (by omega) (by omega), d8, m8]
                            have a2 : (pd x1 + 8 * i256_6).toInt = (pd x1).toInt + 8 * i256_6.toInt := by rw [i_add (by omega) (by omega), m8]
                            refine ml_blk 3 (S' := (272, [(0, .ref m0), (1, .int x1), (3, .int (pd x1)), (4, .long s228_0), (6, .int i256_6)], [.int 8, .int (pd x1), .ref m0], M)) rfl ?_
                            refine ml_blk 3 (S' := (277, [(0, .ref m0), (1, .int x1), (3, .int (pd x1)), (4, .long s228_0), (6, .int i256_6)], [.int i256_6, .int 8, .int ((pd x1) + 8), .ref m0], M)) rfl ?_
                            refine ml_blk 2 (S' := (279, [(0, .ref m0), (1, .int x1), (3, .int (pd x1)), (4, .long s228_0), (6, .int i256_6)], [.int (((pd x1) + 8) + (8 * i256_6)), .ref m0], M)) rfl ?_
                            refine ml_call (a := [.ref m0, .int (((pd x1) + 8) + (8 * i256_6))]) (rest := []) rfl (hR.okc rfl rfl rfl) rfl rfl (rm_b4 hR hF hC (by omega) (by omega) (by omega)) (fun v17 M18 h19 => ?_)
                            obtain ⟨rfl, h19⟩ := h19
                            rw [h19]
                            show ml _ _ _ (282, [(0, .ref m0), (1, .int x1), (3, .int (pd x1)), (4, .long s228_0), (6, .int i256_6)], [.int (B4 f ca (((pd x1) + 8) + (8 * i256_6)))], M) _
                            refine ml_blk 3 (S' := (286, [(0, .ref m0), (1, .int x1), (3, .int (pd x1)), (4, .long s228_0), (6, .int i256_6)], [.int 8, .int (pd x1), .ref m0, .int (B4 f ca (((pd x1) + 8) + (8 * i256_6)))], M)) rfl ?_
                            refine ml_blk 3 (S' := (290, [(0, .ref m0), (1, .int x1), (3, .int (pd x1)), (4, .long s228_0), (6, .int i256_6)], [.int ((pd x1) + (8 * i256_6)), .ref m0, .int (B4 f ca (((pd x1) + 8) + (8 * i256_6)))], M)) rfl ?_
                            refine ml_call (a := [.ref m0, .int ((pd x1) + (8 * i256_6))]) (rest := [.int (B4 f ca (((pd x1) + 8) + (8 * i256_6)))]) rfl (hR.okc rfl rfl rfl) rfl rfl (rm_b4 hR hF hC (by omega) (by omega) (by omega)) (fun v20 M21 h22 => ?_)
                            obtain ⟨rfl, h22⟩ := h22
                            rw [h22]
                            show ml _ _ _ (293, [(0, .ref m0), (1, .int x1), (3, .int (pd x1)), (4, .long s228_0), (6, .int i256_6)], [.int (B4 f ca ((pd x1) + (8 * i256_6))), .int (B4 f ca (((pd x1) + 8) + (8 * i256_6)))], M) _
                            refine ml_if2 (S1 := (298, [(0, .ref m0), (1, .int x1), (3, .int (pd x1)), (4, .long s228_0), (6, .int i256_6)], [], M)) (S2 := (296, [(0, .ref m0), (1, .int x1), (3, .int (pd x1)), (4, .long s228_0), (6, .int i256_6)], [], M)) rfl rfl rfl (fun c_293 => ?_) (fun c_293 => ?_)
                            · have c_293 : (B4 f ca ((pd x1) + (8 * i256_6))) < (B4 f ca (((pd x1) + 8) + (8 * i256_6))) := of_decide_eq_true c_293
                              refine ml_st (S' := (301, [(6, .int (i256_6 + 1)), (0, .ref m0), (1, .int x1), (3, .int (pd x1)), (4, .long s228_0)], [], M)) rfl rfl rfl ?_
                              refine ml_st (S' := (256, [(0, .ref m0), (1, .int x1), (3, .int (pd x1)), (4, .long s228_0), (6, .int (i256_6 + 1))], [], M)) rfl rfl rfl ?_
                              exact ih_256 (i256_6 + 1) (loop_inc (Int32.not_le.mp c_265) hn_256) (by rw [inc_lt (Int32.not_le.mp c_265)]; omega)
                            · have c_293 : ¬ ((B4 f ca ((pd x1) + (8 * i256_6))) < (B4 f ca (((pd x1) + 8) + (8 * i256_6)))) := of_decide_eq_false c_293
                              refine ml_st (S' := (297, [(0, .ref m0), (1, .int x1), (3, .int (pd x1)), (4, .long s228_0), (6, .int i256_6)], [.int (-1)], M)) rfl rfl rfl ?_
                              exact ml_ret rfl (rfl) (⟨⟨_, rfl, Or.inl (by decide)⟩, rfl⟩)
                      exact L_256 _ 1 (Nat.le_refl _) (by decide)
                  · have c_241 : ¬ ((lg_cmp ((Int32.toInt64 (pd x1)) + s228_0) (Int32.toInt64 cl)) ≤ 0) := of_decide_eq_false c_241
                    refine ml_st (S' := (245, [(4, .long s228_0), (0, .ref m0), (1, .int x1), (2, .int x2), (3, .int (pd x1))], [.int (-1)], M)) rfl rfl rfl ?_
                    exact ml_ret rfl (rfl) (⟨⟨_, rfl, Or.inl (by decide)⟩, rfl⟩)
                refine ml_if2 (S1 := (212, [(0, .ref m0), (1, .int x1), (2, .int x2), (3, .int (pd x1))], [], M)) (S2 := (181, [(0, .ref m0), (1, .int x1), (2, .int x2), (3, .int (pd x1))], [], M)) rfl rfl rfl (fun c_178 => ?_) (fun c_178 => ?_)
                · have c_178 : ¬ x2 = 170 := of_decide_eq_true c_178
                  refine ml_blk 3 (S' := (217, [(0, .ref m0), (1, .int x1), (2, .int x2), (3, .int (pd x1))], [.int (pd x1), .ref m0, .long 8], M)) rfl ?_
                  refine ml_blk 2 (S' := (219, [(0, .ref m0), (1, .int x1), (2, .int x2), (3, .int (pd x1))], [.int ((pd x1) + 4), .ref m0, .long 8], M)) rfl ?_
                  refine ml_call (a := [.ref m0, .int ((pd x1) + 4)]) (rest := [.long 8]) rfl (hR.okc rfl rfl rfl) rfl rfl (rm_b4 hR hF hC (by omega) (by omega) (by omega)) (fun v23 M24 h25 => ?_)
                  obtain ⟨rfl, h25⟩ := h25
                  rw [h25]
                  show ml _ _ _ (222, [(0, .ref m0), (1, .int x1), (2, .int x2), (3, .int (pd x1))], [.int (B4 f ca ((pd x1) + 4)), .long 8], M) _
                  refine ml_blk 3 (S' := (227, [(0, .ref m0), (1, .int x1), (2, .int x2), (3, .int (pd x1))], [.long 8, .long (8 * (Int32.toInt64 (B4 f ca ((pd x1) + 4))))], M)) rfl ?_
                  refine ml_st (S' := (228, [(0, .ref m0), (1, .int x1), (2, .int x2), (3, .int (pd x1))], [.long ((8 * (Int32.toInt64 (B4 f ca ((pd x1) + 4)))) + 8)], M)) rfl rfl rfl ?_
                  exact J_228 ((8 * (Int32.toInt64 (B4 f ca ((pd x1) + 4)))) + 8) (⟨fun e => absurd e c_178, fun _ => sw_l2⟩)
                · have c_178 : ¬ (¬ x2 = 170) := of_decide_eq_false c_178
                  refine ml_blk 3 (S' := (186, [(0, .ref m0), (1, .int x1), (2, .int x2), (3, .int (pd x1))], [.int (pd x1), .ref m0, .long 4], M)) rfl ?_
                  refine ml_blk 2 (S' := (189, [(0, .ref m0), (1, .int x1), (2, .int x2), (3, .int (pd x1))], [.int ((pd x1) + 8), .ref m0, .long 4], M)) rfl ?_
                  refine ml_call (a := [.ref m0, .int ((pd x1) + 8)]) (rest := [.long 4]) rfl (hR.okc rfl rfl rfl) rfl rfl (rm_b4 hR hF hC (by omega) (by have := h106.1 (Decidable.not_not.mp c_178); omega) (by omega)) (fun v26 M27 h28 => ?_)
                  obtain ⟨rfl, h28⟩ := h28
                  rw [h28]
                  show ml _ _ _ (192, [(0, .ref m0), (1, .int x1), (2, .int x2), (3, .int (pd x1))], [.int (B4 f ca ((pd x1) + 8)), .long 4], M) _
                  refine ml_blk 3 (S' := (195, [(0, .ref m0), (1, .int x1), (2, .int x2), (3, .int (pd x1))], [.int (pd x1), .ref m0, .long (Int32.toInt64 (B4 f ca ((pd x1) + 8))), .long 4], M)) rfl ?_
                  refine ml_blk 2 (S' := (197, [(0, .ref m0), (1, .int x1), (2, .int x2), (3, .int (pd x1))], [.int ((pd x1) + 4), .ref m0, .long (Int32.toInt64 (B4 f ca ((pd x1) + 8))), .long 4], M)) rfl ?_
                  refine ml_call (a := [.ref m0, .int ((pd x1) + 4)]) (rest := [.long (Int32.toInt64 (B4 f ca ((pd x1) + 8))), .long 4]) rfl (hR.okc rfl rfl rfl) rfl rfl (rm_b4 hR hF hC (by omega) (by have := h106.1 (Decidable.not_not.mp c_178); omega) (by omega)) (fun v29 M30 h31 => ?_)
                  obtain ⟨rfl, h31⟩ := h31
                  rw [h31]
                  show ml _ _ _ (200, [(0, .ref m0), (1, .int x1), (2, .int x2), (3, .int (pd x1))], [.int (B4 f ca ((pd x1) + 4)), .long (Int32.toInt64 (B4 f ca ((pd x1) + 8))), .long 4], M) _
                  refine ml_blk 3 (S' := (203, [(0, .ref m0), (1, .int x1), (2, .int x2), (3, .int (pd x1))], [.long 1, .long ((Int32.toInt64 (B4 f ca ((pd x1) + 8))) - (Int32.toInt64 (B4 f ca ((pd x1) + 4)))), .long 4], M)) rfl ?_
                  refine ml_blk 3 (S' := (208, [(0, .ref m0), (1, .int x1), (2, .int x2), (3, .int (pd x1))], [.long 12, .long (4 * (((Int32.toInt64 (B4 f ca ((pd x1) + 8))) - (Int32.toInt64 (B4 f ca ((pd x1) + 4)))) + 1))], M)) rfl ?_
                  refine ml_st (S' := (209, [(0, .ref m0), (1, .int x1), (2, .int x2), (3, .int (pd x1))], [.long ((4 * (((Int32.toInt64 (B4 f ca ((pd x1) + 8))) - (Int32.toInt64 (B4 f ca ((pd x1) + 4)))) + 1)) + 12)], M)) rfl rfl rfl ?_
                  refine ml_st (S' := (228, [(0, .ref m0), (1, .int x1), (2, .int x2), (3, .int (pd x1))], [.long ((4 * (((Int32.toInt64 (B4 f ca ((pd x1) + 8))) - (Int32.toInt64 (B4 f ca ((pd x1) + 4)))) + 1)) + 12)], M)) rfl rfl rfl ?_
                  exact J_228 ((4 * (((Int32.toInt64 (B4 f ca ((pd x1) + 8))) - (Int32.toInt64 (B4 f ca ((pd x1) + 4)))) + 1)) + 12) (⟨fun _ => sw_l1, fun e => absurd (Decidable.not_not.mp c_178) e⟩)
              refine ml_if2 (S1 := (162, [(0, .ref m0), (1, .int x1), (2, .int x2), (3, .int (pd x1)), (4, .int i111_4)], [], M)) (S2 := (141, [(0, .ref m0), (1, .int x1), (2, .int x2), (3, .int (pd x1)), (4, .int i111_4)], [], M)) rfl rfl rfl (fun c_138 => ?_) (fun c_138 => ?_)
              · have c_138 : ¬ x2 = 170 := of_decide_eq_true c_138
                refine ml_blk 3 (S' := (165, [(0, .ref m0), (1, .int x1), (2, .int x2), (3, .int (pd x1)), (4, .int i111_4)], [.int 4, .int (pd x1), .ref m0], M)) rfl ?_
                refine ml_st (S' := (166, [(0, .ref m0), (1, .int x1), (2, .int x2), (3, .int (pd x1)), (4, .int i111_4)], [.int ((pd x1) + 4), .ref m0], M)) rfl rfl rfl ?_
                refine ml_call (a := [.ref m0, .int ((pd x1) + 4)]) (rest := []) rfl (hR.okc rfl rfl rfl) rfl rfl (rm_b4 hR hF hC (by omega) (by omega) (by omega)) (fun v32 M33 h34 => ?_)
                obtain ⟨rfl, h34⟩ := h34
                rw [h34]
                show ml _ _ _ (169, [(0, .ref m0), (1, .int x1), (2, .int x2), (3, .int (pd x1)), (4, .int i111_4)], [.int (B4 f ca ((pd x1) + 4))], M) _
                refine ml_if (S1 := (174, [(0, .ref m0), (1, .int x1), (2, .int x2), (3, .int (pd x1))], [], M)) (S2 := (172, [], [], M)) rfl rfl rfl (fun c_169 => ?_) (fun c_169 => ?_)
                · have c_169 : 0 ≤ (B4 f ca ((pd x1) + 4)) := of_decide_eq_true c_169
                  exact J_174  (⟨fun e => absurd e c_138, fun _ => i_le c_169⟩)
                · have c_169 : ¬ (0 ≤ (B4 f ca ((pd x1) + 4))) := of_decide_eq_false c_169
                  refine ml_st (S' := (173, [], [.int (-1)], M)) rfl rfl rfl ?_
                  exact ml_ret rfl (rfl) (⟨⟨_, rfl, Or.inl (by decide)⟩, rfl⟩)
              · have c_138 : ¬ (¬ x2 = 170) := of_decide_eq_false c_138
                refine ml_blk 3 (S' := (144, [(0, .ref m0), (1, .int x1), (2, .int x2), (3, .int (pd x1)), (4, .int i111_4)], [.int 4, .int (pd x1), .ref m0], M)) rfl ?_
                refine ml_st (S' := (145, [(0, .ref m0), (1, .int x1), (2, .int x2), (3, .int (pd x1)), (4, .int i111_4)], [.int ((pd x1) + 4), .ref m0], M)) rfl rfl rfl ?_
                refine ml_call (a := [.ref m0, .int ((pd x1) + 4)]) (rest := []) rfl (hR.okc rfl rfl rfl) rfl rfl (rm_b4 hR hF hC (by omega) (by have := h106.1 (Decidable.not_not.mp c_138); omega) (by omega)) (fun v35 M36 h37 => ?_)
                obtain ⟨rfl, h37⟩ := h37
                rw [h37]
                show ml _ _ _ (148, [(0, .ref m0), (1, .int x1), (2, .int x2), (3, .int (pd x1)), (4, .int i111_4)], [.int (B4 f ca ((pd x1) + 4))], M) _
                refine ml_blk 3 (S' := (152, [(0, .ref m0), (1, .int x1), (2, .int x2), (3, .int (pd x1)), (4, .int i111_4)], [.int 8, .int (pd x1), .ref m0, .int (B4 f ca ((pd x1) + 4))], M)) rfl ?_
                refine ml_st (S' := (153, [(0, .ref m0), (1, .int x1), (2, .int x2), (3, .int (pd x1)), (4, .int i111_4)], [.int ((pd x1) + 8), .ref m0, .int (B4 f ca ((pd x1) + 4))], M)) rfl rfl rfl ?_
                refine ml_call (a := [.ref m0, .int ((pd x1) + 8)]) (rest := [.int (B4 f ca ((pd x1) + 4))]) rfl (hR.okc rfl rfl rfl) rfl rfl (rm_b4 hR hF hC (by omega) (by have := h106.1 (Decidable.not_not.mp c_138); omega) (by omega)) (fun v38 M39 h40 => ?_)
                obtain ⟨rfl, h40⟩ := h40
                rw [h40]
                show ml _ _ _ (156, [(0, .ref m0), (1, .int x1), (2, .int x2), (3, .int (pd x1)), (4, .int i111_4)], [.int (B4 f ca ((pd x1) + 8)), .int (B4 f ca ((pd x1) + 4))], M) _
                refine ml_if2 (S1 := (174, [(0, .ref m0), (1, .int x1), (2, .int x2), (3, .int (pd x1))], [], M)) (S2 := (159, [(0, .ref m0), (1, .int x1), (2, .int x2), (3, .int (pd x1)), (4, .int i111_4)], [], M)) rfl rfl rfl (fun c_156 => ?_) (fun c_156 => ?_)
                · have c_156 : (B4 f ca ((pd x1) + 4)) ≤ (B4 f ca ((pd x1) + 8)) := of_decide_eq_true c_156
                  exact J_174  (⟨fun _ => i_le c_156, fun e => absurd (Decidable.not_not.mp c_138) e⟩)
                · have c_156 : ¬ ((B4 f ca ((pd x1) + 4)) ≤ (B4 f ca ((pd x1) + 8))) := of_decide_eq_false c_156
                  refine ml_st (S' := (172, [], [], M)) rfl rfl rfl ?_
                  refine ml_st (S' := (173, [], [.int (-1)], M)) rfl rfl rfl ?_
                  exact ml_ret rfl (rfl) (⟨⟨_, rfl, Or.inl (by decide)⟩, rfl⟩)
            · have c_114 : ¬ ((pd x1) ≤ i111_4) := of_decide_eq_false c_114
              refine ml_blk 2 (S' := (120, [(0, .ref m0), (1, .int x1), (2, .int x2), (3, .int (pd x1)), (4, .int i111_4)], [.int i111_4, .ref m0], M)) rfl ?_
              refine ml_call (a := [.ref m0, .int i111_4]) (rest := []) rfl (hR.okc rfl rfl rfl) rfl rfl (rm_b1 hR hF hC (by omega) (by have q := i_nle c_114; omega) (by omega)) (fun v41 M42 h43 => ?_)
              obtain ⟨rfl, h43⟩ := h43
              rw [h43]
              show ml _ _ _ (123, [(0, .ref m0), (1, .int x1), (2, .int x2), (3, .int (pd x1)), (4, .int i111_4)], [.int (f1 f (ca + i111_4))], M) _
              refine ml_if (S1 := (128, [(0, .ref m0), (1, .int x1), (2, .int x2), (3, .int (pd x1)), (4, .int i111_4)], [], M)) (S2 := (126, [(0, .ref m0), (1, .int x1), (2, .int x2), (3, .int (pd x1)), (4, .int i111_4)], [], M)) rfl rfl rfl (fun c_123 => ?_) (fun c_123 => ?_)
              · have c_123 : (f1 f (ca + i111_4)) = 0 := of_decide_eq_true c_123
                refine ml_st (S' := (131, [(4, .int (i111_4 + 1)), (0, .ref m0), (1, .int x1), (2, .int x2), (3, .int (pd x1))], [], M)) rfl rfl rfl ?_
                refine ml_st (S' := (111, [(0, .ref m0), (1, .int x1), (2, .int x2), (3, .int (pd x1)), (4, .int (i111_4 + 1))], [], M)) rfl rfl rfl ?_
                exact ih_111 (i111_4 + 1) (loop_inc (Int32.not_le.mp c_114) hn_111) (by rw [inc_lt (Int32.not_le.mp c_114)]; omega)
              · have c_123 : ¬ ((f1 f (ca + i111_4)) = 0) := of_decide_eq_false c_123
                refine ml_st (S' := (127, [(0, .ref m0), (1, .int x1), (2, .int x2), (3, .int (pd x1)), (4, .int i111_4)], [.int (-1)], M)) rfl rfl rfl ?_
                exact ml_ret rfl (rfl) (⟨⟨_, rfl, Or.inl (by decide)⟩, rfl⟩)
        exact L_111 _ (x1 + 1) (Nat.le_refl _) (by omega)
      · have c_101 : ¬ (((pd x1) + s96_0) ≤ cl) := of_decide_eq_false c_101
        refine ml_st (S' := (105, [(0, .ref m0), (1, .int x1), (2, .int x2), (3, .int (pd x1))], [.int (-1)], M)) rfl rfl rfl ?_
        exact ml_ret rfl (rfl) (⟨⟨_, rfl, Or.inl (by decide)⟩, rfl⟩)
    refine ml_if2 (S1 := (94, [(3, .int (pd x1)), (0, .ref m0), (1, .int x1), (2, .int x2)], [.int (pd x1)], M)) (S2 := (89, [(3, .int (pd x1)), (0, .ref m0), (1, .int x1), (2, .int x2)], [.int (pd x1)], M)) rfl rfl rfl (fun c_86 => ?_) (fun c_86 => ?_)
    · have c_86 : ¬ x2 = 170 := of_decide_eq_true c_86
      refine ml_st (S' := (96, [(0, .ref m0), (1, .int x1), (2, .int x2), (3, .int (pd x1))], [.int 8, .int (pd x1)], M)) rfl rfl rfl ?_
      exact J_96 8 (⟨fun e => absurd e c_86, fun _ => rfl⟩)
    · have c_86 : ¬ (¬ x2 = 170) := of_decide_eq_false c_86
      refine ml_st (S' := (91, [(3, .int (pd x1)), (0, .ref m0), (1, .int x1), (2, .int x2)], [.int 12, .int (pd x1)], M)) rfl rfl rfl ?_
      refine ml_st (S' := (96, [(0, .ref m0), (1, .int x1), (2, .int x2), (3, .int (pd x1))], [.int 12, .int (pd x1)], M)) rfl rfl rfl ?_
      exact J_96 12 (⟨fun _ => rfl, fun e => absurd (Decidable.not_not.mp c_86) e⟩)
  · have c_4 : ¬ (¬ x2 = 196) := of_decide_eq_false c_4
    refine ml_blk 3 (S' := (10, [(0, .ref m0), (1, .int x1), (2, .int x2)], [.int (x1 + 1)], M)) rfl ?_
    refine ml_st (S' := (11, [(0, .ref m0), (1, .int x1), (2, .int x2)], [.ref m0, .int (x1 + 1)], M)) rfl rfl rfl ?_
    refine rg_int (S' := (14, [(0, .ref m0), (1, .int x1), (2, .int x2)], [.int cl, .int (x1 + 1)], M)) rfl hR rfl (hC.2.1) rfl ?_
    refine ml_if2 (S1 := (19, [(0, .ref m0), (1, .int x1), (2, .int x2)], [], M)) (S2 := (17, [(0, .ref m0), (1, .int x1), (2, .int x2)], [], M)) rfl rfl rfl (fun c_14 => ?_) (fun c_14 => ?_)
    · have c_14 : (x1 + 1) < cl := of_decide_eq_true c_14
      refine ml_blk 3 (S' := (22, [(0, .ref m0), (1, .int x1), (2, .int x2)], [.int 1, .int x1, .ref m0], M)) rfl ?_
      refine ml_st (S' := (23, [(0, .ref m0), (1, .int x1), (2, .int x2)], [.int (x1 + 1), .ref m0], M)) rfl rfl rfl ?_
      refine ml_call (a := [.ref m0, .int (x1 + 1)]) (rest := []) rfl (hR.okc rfl rfl rfl) rfl rfl (rm_b1 hR hF hC (by omega) (by have q := i_lt c_14; omega) (by omega)) (fun v44 M45 h46 => ?_)
      obtain ⟨rfl, h46⟩ := h46
      rw [h46]
      show ml _ _ _ (26, [(0, .ref m0), (1, .int x1), (2, .int x2)], [.int (f1 f (ca + (x1 + 1)))], M) _
      refine ml_st (S' := (27, [(3, .int (f1 f (ca + (x1 + 1)))), (0, .ref m0), (1, .int x1), (2, .int x2)], [], M)) rfl rfl rfl ?_
      refine ml_blk 2 (S' := (31, [(3, .int (f1 f (ca + (x1 + 1)))), (0, .ref m0), (1, .int x1), (2, .int x2)], [.int 132, .int (f1 f (ca + (x1 + 1)))], M)) rfl ?_
      refine ml_if2 (S1 := (39, [(3, .int (f1 f (ca + (x1 + 1)))), (0, .ref m0), (1, .int x1), (2, .int x2)], [], M)) (S2 := (34, [(3, .int (f1 f (ca + (x1 + 1)))), (0, .ref m0), (1, .int x1), (2, .int x2)], [], M)) rfl rfl rfl (fun c_31 => ?_) (fun c_31 => ?_)
      · have c_31 : ¬ (f1 f (ca + (x1 + 1))) = 132 := of_decide_eq_true c_31
        refine ml_blk 2 (S' := (42, [(3, .int (f1 f (ca + (x1 + 1)))), (0, .ref m0), (1, .int x1), (2, .int x2)], [.int 21, .int (f1 f (ca + (x1 + 1)))], M)) rfl ?_
        refine ml_if2 (S1 := (51, [(3, .int (f1 f (ca + (x1 + 1))))], [], M)) (S2 := (45, [(3, .int (f1 f (ca + (x1 + 1)))), (0, .ref m0), (1, .int x1), (2, .int x2)], [], M)) rfl rfl rfl (fun c_42 => ?_) (fun c_42 => ?_)
        · have c_42 : (f1 f (ca + (x1 + 1))) < 21 := of_decide_eq_true c_42
          refine ml_blk 2 (S' := (54, [(3, .int (f1 f (ca + (x1 + 1))))], [.int 54, .int (f1 f (ca + (x1 + 1)))], M)) rfl ?_
          refine ml_if2 (S1 := (63, [(3, .int (f1 f (ca + (x1 + 1))))], [], M)) (S2 := (57, [(3, .int (f1 f (ca + (x1 + 1))))], [], M)) rfl rfl rfl (fun c_54 => ?_) (fun c_54 => ?_)
          · have c_54 : (f1 f (ca + (x1 + 1))) < 54 := of_decide_eq_true c_54
            refine ml_blk 2 (S' := (67, [(3, .int (f1 f (ca + (x1 + 1))))], [.int 169, .int (f1 f (ca + (x1 + 1)))], M)) rfl ?_
            refine ml_if2 (S1 := (74, [(3, .int (f1 f (ca + (x1 + 1))))], [], M)) (S2 := (70, [], [], M)) rfl rfl rfl (fun c_67 => ?_) (fun c_67 => ?_)
            · have c_67 : ¬ (f1 f (ca + (x1 + 1))) = 169 := of_decide_eq_true c_67
              refine ml_st (S' := (75, [], [.int (-1)], M)) rfl rfl rfl ?_
              exact ml_ret rfl (rfl) (⟨⟨_, rfl, Or.inl (by decide)⟩, rfl⟩)
            · have c_67 : ¬ (¬ (f1 f (ca + (x1 + 1))) = 169) := of_decide_eq_false c_67
              refine ml_st (S' := (71, [], [.int 4], M)) rfl rfl rfl ?_
              refine ml_st (S' := (75, [], [.int 4], M)) rfl rfl rfl ?_
              exact ml_ret rfl (rfl) (⟨⟨_, rfl, Or.inr ⟨fun _ => ⟨by decide, fun e => absurd e c_31⟩, fun e => by rw [hop, show x2 = 196 from Decidable.not_not.mp c_4] at e; exact absurd e (by decide), by decide⟩⟩, rfl⟩)
          · have c_54 : ¬ ((f1 f (ca + (x1 + 1))) < 54) := of_decide_eq_false c_54
            refine ml_blk 2 (S' := (60, [(3, .int (f1 f (ca + (x1 + 1))))], [.int 58, .int (f1 f (ca + (x1 + 1)))], M)) rfl ?_
            refine ml_if2 (S1 := (70, [], [], M)) (S2 := (63, [(3, .int (f1 f (ca + (x1 + 1))))], [], M)) rfl rfl rfl (fun c_60 => ?_) (fun c_60 => ?_)
            · have c_60 : (f1 f (ca + (x1 + 1))) ≤ 58 := of_decide_eq_true c_60
              refine ml_st (S' := (71, [], [.int 4], M)) rfl rfl rfl ?_
              refine ml_st (S' := (75, [], [.int 4], M)) rfl rfl rfl ?_
              exact ml_ret rfl (rfl) (⟨⟨_, rfl, Or.inr ⟨fun _ => ⟨by decide, fun e => absurd e c_31⟩, fun e => by rw [hop, show x2 = 196 from Decidable.not_not.mp c_4] at e; exact absurd e (by decide), by decide⟩⟩, rfl⟩)
            · have c_60 : ¬ ((f1 f (ca + (x1 + 1))) ≤ 58) := of_decide_eq_false c_60
              refine ml_blk 2 (S' := (67, [(3, .int (f1 f (ca + (x1 + 1))))], [.int 169, .int (f1 f (ca + (x1 + 1)))], M)) rfl ?_
              refine ml_if2 (S1 := (74, [(3, .int (f1 f (ca + (x1 + 1))))], [], M)) (S2 := (70, [], [], M)) rfl rfl rfl (fun c_67 => ?_) (fun c_67 => ?_)
              · have c_67 : ¬ (f1 f (ca + (x1 + 1))) = 169 := of_decide_eq_true c_67
                refine ml_st (S' := (75, [], [.int (-1)], M)) rfl rfl rfl ?_
                exact ml_ret rfl (rfl) (⟨⟨_, rfl, Or.inl (by decide)⟩, rfl⟩)
              · have c_67 : ¬ (¬ (f1 f (ca + (x1 + 1))) = 169) := of_decide_eq_false c_67
                refine ml_st (S' := (71, [], [.int 4], M)) rfl rfl rfl ?_
                refine ml_st (S' := (75, [], [.int 4], M)) rfl rfl rfl ?_
                exact ml_ret rfl (rfl) (⟨⟨_, rfl, Or.inr ⟨fun _ => ⟨by decide, fun e => absurd e c_31⟩, fun e => by rw [hop, show x2 = 196 from Decidable.not_not.mp c_4] at e; exact absurd e (by decide), by decide⟩⟩, rfl⟩)
        · have c_42 : ¬ ((f1 f (ca + (x1 + 1))) < 21) := of_decide_eq_false c_42
          refine ml_blk 2 (S' := (48, [(3, .int (f1 f (ca + (x1 + 1)))), (0, .ref m0), (1, .int x1), (2, .int x2)], [.int 25, .int (f1 f (ca + (x1 + 1)))], M)) rfl ?_
          refine ml_if2 (S1 := (70, [], [], M)) (S2 := (51, [(3, .int (f1 f (ca + (x1 + 1))))], [], M)) rfl rfl rfl (fun c_48 => ?_) (fun c_48 => ?_)
          · have c_48 : (f1 f (ca + (x1 + 1))) ≤ 25 := of_decide_eq_true c_48
            refine ml_st (S' := (71, [], [.int 4], M)) rfl rfl rfl ?_
            refine ml_st (S' := (75, [], [.int 4], M)) rfl rfl rfl ?_
            exact ml_ret rfl (rfl) (⟨⟨_, rfl, Or.inr ⟨fun _ => ⟨by decide, fun e => absurd e c_31⟩, fun e => by rw [hop, show x2 = 196 from Decidable.not_not.mp c_4] at e; exact absurd e (by decide), by decide⟩⟩, rfl⟩)
          · have c_48 : ¬ ((f1 f (ca + (x1 + 1))) ≤ 25) := of_decide_eq_false c_48
            refine ml_blk 2 (S' := (54, [(3, .int (f1 f (ca + (x1 + 1))))], [.int 54, .int (f1 f (ca + (x1 + 1)))], M)) rfl ?_
            refine ml_if2 (S1 := (63, [(3, .int (f1 f (ca + (x1 + 1))))], [], M)) (S2 := (57, [(3, .int (f1 f (ca + (x1 + 1))))], [], M)) rfl rfl rfl (fun c_54 => ?_) (fun c_54 => ?_)
            · have c_54 : (f1 f (ca + (x1 + 1))) < 54 := of_decide_eq_true c_54
              refine ml_blk 2 (S' := (67, [(3, .int (f1 f (ca + (x1 + 1))))], [.int 169, .int (f1 f (ca + (x1 + 1)))], M)) rfl ?_
              refine ml_if2 (S1 := (74, [(3, .int (f1 f (ca + (x1 + 1))))], [], M)) (S2 := (70, [], [], M)) rfl rfl rfl (fun c_67 => ?_) (fun c_67 => ?_)
              · have c_67 : ¬ (f1 f (ca + (x1 + 1))) = 169 := of_decide_eq_true c_67
                refine ml_st (S' := (75, [], [.int (-1)], M)) rfl rfl rfl ?_
                exact ml_ret rfl (rfl) (⟨⟨_, rfl, Or.inl (by decide)⟩, rfl⟩)
              · have c_67 : ¬ (¬ (f1 f (ca + (x1 + 1))) = 169) := of_decide_eq_false c_67
                refine ml_st (S' := (71, [], [.int 4], M)) rfl rfl rfl ?_
                refine ml_st (S' := (75, [], [.int 4], M)) rfl rfl rfl ?_
                exact ml_ret rfl (rfl) (⟨⟨_, rfl, Or.inr ⟨fun _ => ⟨by decide, fun e => absurd e c_31⟩, fun e => by rw [hop, show x2 = 196 from Decidable.not_not.mp c_4] at e; exact absurd e (by decide), by decide⟩⟩, rfl⟩)
            · have c_54 : ¬ ((f1 f (ca + (x1 + 1))) < 54) := of_decide_eq_false c_54
              refine ml_blk 2 (S' := (60, [(3, .int (f1 f (ca + (x1 + 1))))], [.int 58, .int (f1 f (ca + (x1 + 1)))], M)) rfl ?_
              refine ml_if2 (S1 := (70, [], [], M)) (S2 := (63, [(3, .int (f1 f (ca + (x1 + 1))))], [], M)) rfl rfl rfl (fun c_60 => ?_) (fun c_60 => ?_)
              · have c_60 : (f1 f (ca + (x1 + 1))) ≤ 58 := of_decide_eq_true c_60
                refine ml_st (S' := (71, [], [.int 4], M)) rfl rfl rfl ?_
                refine ml_st (S' := (75, [], [.int 4], M)) rfl rfl rfl ?_
                exact ml_ret rfl (rfl) (⟨⟨_, rfl, Or.inr ⟨fun _ => ⟨by decide, fun e => absurd e c_31⟩, fun e => by rw [hop, show x2 = 196 from Decidable.not_not.mp c_4] at e; exact absurd e (by decide), by decide⟩⟩, rfl⟩)
              · have c_60 : ¬ ((f1 f (ca + (x1 + 1))) ≤ 58) := of_decide_eq_false c_60
                refine ml_blk 2 (S' := (67, [(3, .int (f1 f (ca + (x1 + 1))))], [.int 169, .int (f1 f (ca + (x1 + 1)))], M)) rfl ?_
                refine ml_if2 (S1 := (74, [(3, .int (f1 f (ca + (x1 + 1))))], [], M)) (S2 := (70, [], [], M)) rfl rfl rfl (fun c_67 => ?_) (fun c_67 => ?_)
                · have c_67 : ¬ (f1 f (ca + (x1 + 1))) = 169 := of_decide_eq_true c_67
                  refine ml_st (S' := (75, [], [.int (-1)], M)) rfl rfl rfl ?_
                  exact ml_ret rfl (rfl) (⟨⟨_, rfl, Or.inl (by decide)⟩, rfl⟩)
                · have c_67 : ¬ (¬ (f1 f (ca + (x1 + 1))) = 169) := of_decide_eq_false c_67
                  refine ml_st (S' := (71, [], [.int 4], M)) rfl rfl rfl ?_
                  refine ml_st (S' := (75, [], [.int 4], M)) rfl rfl rfl ?_
                  exact ml_ret rfl (rfl) (⟨⟨_, rfl, Or.inr ⟨fun _ => ⟨by decide, fun e => absurd e c_31⟩, fun e => by rw [hop, show x2 = 196 from Decidable.not_not.mp c_4] at e; exact absurd e (by decide), by decide⟩⟩, rfl⟩)
      · have c_31 : ¬ (¬ (f1 f (ca + (x1 + 1))) = 132) := of_decide_eq_false c_31
        refine ml_st (S' := (36, [(3, .int (f1 f (ca + (x1 + 1)))), (0, .ref m0), (1, .int x1), (2, .int x2)], [.int 6], M)) rfl rfl rfl ?_
        refine ml_st (S' := (75, [], [.int 6], M)) rfl rfl rfl ?_
        exact ml_ret rfl (rfl) (⟨⟨_, rfl, Or.inr ⟨fun _ => ⟨by decide, fun _ => by decide⟩, fun e => by rw [hop, show x2 = 196 from Decidable.not_not.mp c_4] at e; exact absurd e (by decide), by decide⟩⟩, rfl⟩)
    · have c_14 : ¬ ((x1 + 1) < cl) := of_decide_eq_false c_14
      refine ml_st (S' := (18, [(0, .ref m0), (1, .int x1), (2, .int x2)], [.int (-1)], M)) rfl rfl rfl ?_
      exact ml_ret rfl (rfl) (⟨⟨_, rfl, Or.inl (by decide)⟩, rfl⟩)
