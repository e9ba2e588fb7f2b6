section
/-! the reference: forms (laid by wip/p2/c76.py) -/
set_option maxHeartbeats 2000000 in
theorem rm_formed {g : xe_G}  {m0 : Nat} {q : Nat → Nat} {z : Nat × Nat} {I : rI} {R : rR} {M : mi_H} {x1 x2 : Int32} {n : Nat} {f : Nat → Int32} {ca cl : Int32}  (hR : RS g m0 q z I R M) (hF : FK n f I R) (hC : CK n ca cl I R) (h0 : 0 ≤ x1.toInt) (h1 : x1.toInt < cl.toInt) (hop : f1 f (ca + x1) = x2) (hop2 : (x2 = 170 ∨ x2 = 171) ∨ x2 = 196) {d : Nat} (hd : 5 ≤ d) : mt (mT g) d 210 [.ref m0, .int x1, .int x2] M (fun v M' => (∃ x : Int32, v = some (.int x) ∧ (x < 0 ∨ FRM f ca cl x1 x)) ∧ M' = M) := by
  obtain ⟨d, rfl⟩ : ∃ e, d = e + 1 := ⟨d - 1, by omega⟩
  refine mt_in (b := mb_210 g) rfl rfl ?_
  show ml (mT g) d (mb_210 g).2 (0, [(0, .ref m0), (1, .int x1), (2, .int x2)], [], M) _
  have hn := hF.1
  obtain ⟨hca, hcl, hcn⟩ := hC.2.2
  have d1 : (x1 + 1).toInt = x1.toInt + 1 := by have e9 : (1 : Int32).toInt = 1 := rfl; rw [i_add (by omega) (by omega), e9]
  have hp := pd_b h0 (by omega)
  have d4 : ((pd x1) + 4).toInt = (pd x1).toInt + 4 := by have e9 : (4 : Int32).toInt = 4 := rfl; rw [i_add (by omega) (by omega), e9]
  have d8 : ((pd x1) + 8).toInt = (pd x1).toInt + 8 := by have e9 : (8 : Int32).toInt = 8 := rfl; rw [i_add (by omega) (by omega), e9]
  have d12 : ((pd x1) + 12).toInt = (pd x1).toInt + 12 := by have e9 : (12 : Int32).toInt = 12 := rfl; rw [i_add (by omega) (by omega), e9]
  refine ml_blk 2 (S' := (4, [(0, .ref m0), (1, .int x1), (2, .int x2)], [.int 196, .int x2], M)) rfl ?_
  refine ml_if2 (S1 := (76, [(0, .ref m0), (1, .int x1), (2, .int x2)], [], M)) (S2 := (7, [(0, .ref m0), (1, .int x1), (2, .int x2)], [], M)) rfl rfl rfl (fun c_4 => ?_) (fun c_4 => ?_)
  · have c_4 : ¬ x2 = 196 := of_decide_eq_true c_4
    have ho := hop2.resolve_right c_4
    refine ml_st (S' := (77, [(0, .ref m0), (1, .int x1), (2, .int x2)], [.int x1], M)) rfl rfl rfl ?_
    refine ml_call (a := [.int x1]) (rest := []) rfl (rfl) rfl rfl (rm_pad hR (by omega)) (fun v11 M12 h13 => ?_)
    obtain ⟨rfl, h13⟩ := h13
    rw [h13]
    show ml _ _ _ (80, [(0, .ref m0), (1, .int x1), (2, .int x2)], [.int (pd x1)], M) _
    refine ml_st (S' := (81, [(3, .int (pd x1)), (0, .ref m0), (1, .int x1), (2, .int x2)], [], M)) rfl rfl rfl ?_
    refine ml_blk 3 (S' := (86, [(3, .int (pd x1)), (0, .ref m0), (1, .int x1), (2, .int x2)], [.int 170, .int x2, .int (pd x1)], M)) rfl ?_
    have J_96 : ∀ (s96_0 : Int32), ((x2 = 170 → s96_0 = 12) ∧ (¬ x2 = 170 → s96_0 = 8)) → ml (mT g) d (mb_210 g).2 (96, [(0, .ref m0), (1, .int x1), (2, .int x2), (3, .int (pd x1))], [.int s96_0, .int (pd x1)], M) (fun v M' => (∃ x : Int32, v = some (.int x) ∧ (x < 0 ∨ FRM f ca cl x1 x)) ∧ M' = M) := by
      intro s96_0 hj_96
      refine ml_blk 2 (S' := (98, [(0, .ref m0), (1, .int x1), (2, .int x2), (3, .int (pd x1))], [.ref m0, .int ((pd x1) + s96_0)], M)) rfl ?_
      refine rg_int (S' := (101, [(0, .ref m0), (1, .int x1), (2, .int x2), (3, .int (pd x1))], [.int cl, .int ((pd x1) + s96_0)], M)) rfl hR rfl (hC.2.1) rfl ?_
      refine ml_if2 (S1 := (106, [(0, .ref m0), (1, .int x1), (2, .int x2), (3, .int (pd x1))], [], M)) (S2 := (104, [(0, .ref m0), (1, .int x1), (2, .int x2), (3, .int (pd x1))], [], M)) rfl rfl rfl (fun c_101 => ?_) (fun c_101 => ?_)
      · have c_101 : ((pd x1) + s96_0) ≤ cl := of_decide_eq_true c_101
        have h106 : (x2 = 170 → (pd x1).toInt + 12 ≤ cl.toInt) ∧ (¬ x2 = 170 → (pd x1).toInt + 8 ≤ cl.toInt) := ⟨fun e => by have q := i_le c_101; rw [hj_96.1 e, d12] at q; exact q, fun e => by have q := i_le c_101; rw [hj_96.2 e, d8] at q; exact q⟩
        have h8 : (pd x1).toInt + 8 ≤ cl.toInt := by rcases Decidable.em (x2 = 170) with e | e; (have := h106.1 e; omega); exact h106.2 e
        refine ml_blk 3 (S' := (109, [(0, .ref m0), (1, .int x1), (2, .int x2), (3, .int (pd x1))], [.int (x1 + 1)], M)) rfl ?_
        refine ml_st (S' := (111, [(0, .ref m0), (1, .int x1), (2, .int x2), (3, .int (pd x1)), (4, .int (x1 + 1))], [], M)) rfl rfl rfl ?_
        have L_111 : ∀ (n_111 : Nat) (i111_4 : Int32), (2147483648 - i111_4.toInt).toNat ≤ n_111 → 0 ≤ i111_4.toInt → ml (mT g) d (mb_210 g).2 (111, [(0, .ref m0), (1, .int x1), (2, .int x2), (3, .int (pd x1)), (4, .int i111_4)], [], M) (fun v M' => (∃ x : Int32, v = some (.int x) ∧ (x < 0 ∨ FRM f ca cl x1 x)) ∧ M' = M) := by
          intro n_111
          induction n_111 with
          | zero => intro i111_4 hn; exact (loop_zero hn).elim
          | succ n_111 ih_111 =>
            intro i111_4 hn_111 hi_111
            refine ml_blk 2 (S' := (114, [(0, .ref m0), (1, .int x1), (2, .int x2), (3, .int (pd x1)), (4, .int i111_4)], [.int (pd x1), .int i111_4], M)) rfl ?_
            refine ml_if2 (S1 := (134, [(0, .ref m0), (1, .int x1), (2, .int x2), (3, .int (pd x1)), (4, .int i111_4)], [], M)) (S2 := (117, [(0, .ref m0), (1, .int x1), (2, .int x2), (3, .int (pd x1)), (4, .int i111_4)], [], M)) rfl rfl rfl (fun c_114 => ?_) (fun c_114 => ?_)
            · have c_114 : (pd x1) ≤ i111_4 := of_decide_eq_true c_114
              refine ml_blk 2 (S' := (138, [(0, .ref m0), (1, .int x1), (2, .int x2), (3, .int (pd x1)), (4, .int i111_4)], [.int 170, .int x2], M)) rfl ?_
              have J_174 : ((x2 = 170 → (B4 f ca (pd x1 + 4)).toInt ≤ (B4 f ca (pd x1 + 8)).toInt) ∧ (¬ x2 = 170 → 0 ≤ (B4 f ca (pd x1 + 4)).toInt)) → ml (mT g) d (mb_210 g).2 (174, [(0, .ref m0), (1, .int x1), (2, .int x2), (3, .int (pd x1))], [], M) (fun v M' => (∃ x : Int32, v = some (.int x) ∧ (x < 0 ∨ FRM f ca cl x1 x)) ∧ M' = M) := by
                intro hj_174
                refine ml_blk 2 (S' := (178, [(0, .ref m0), (1, .int x1), (2, .int x2), (3, .int (pd x1))], [.int 170, .int x2], M)) rfl ?_
                have J_228 : ∀ (s228_0 : Int64), ((x2 = 170 → s228_0.toInt = 4 * ((B4 f ca (pd x1 + 8)).toInt - (B4 f ca (pd x1 + 4)).toInt + 1) + 12) ∧ (¬ x2 = 170 → s228_0.toInt = 8 * (B4 f ca (pd x1 + 4)).toInt + 8)) → ml (mT g) d (mb_210 g).2 (228, [(0, .ref m0), (1, .int x1), (2, .int x2), (3, .int (pd x1))], [.long s228_0], M) (fun v M' => (∃ x : Int32, v = some (.int x) ∧ (x < 0 ∨ FRM f ca cl x1 x)) ∧ M' = M) := by
                  intro s228_0 hj_228
                  refine ml_st (S' := (230, [(4, .long s228_0), (0, .ref m0), (1, .int x1), (2, .int x2), (3, .int (pd x1))], [], M)) rfl rfl rfl ?_
                  refine ml_blk 3 (S' := (234, [(4, .long s228_0), (0, .ref m0), (1, .int x1), (2, .int x2), (3, .int (pd x1))], [.long s228_0, .long (Int32.toInt64 (pd x1))], M)) rfl ?_
                  refine ml_blk 2 (S' := (236, [(4, .long s228_0), (0, .ref m0), (1, .int x1), (2, .int x2), (3, .int (pd x1))], [.ref m0, .long ((Int32.toInt64 (pd x1)) + s228_0)], M)) rfl ?_
                  refine rg_int (S' := (239, [(4, .long s228_0), (0, .ref m0), (1, .int x1), (2, .int x2), (3, .int (pd x1))], [.int cl, .long ((Int32.toInt64 (pd x1)) + s228_0)], M)) rfl hR rfl (hC.2.1) rfl ?_
                  refine ml_blk 2 (S' := (241, [(4, .long s228_0), (0, .ref m0), (1, .int x1), (2, .int x2), (3, .int (pd x1))], [.int (lg_cmp ((Int32.toInt64 (pd x1)) + s228_0) (Int32.toInt64 cl))], M)) rfl ?_
                  refine ml_if (S1 := (246, [(4, .long s228_0), (0, .ref m0), (1, .int x1), (2, .int x2), (3, .int (pd x1))], [], M)) (S2 := (244, [(4, .long s228_0), (0, .ref m0), (1, .int x1), (2, .int x2), (3, .int (pd x1))], [], M)) rfl rfl rfl (fun c_241 => ?_) (fun c_241 => ?_)
                  · have c_241 : (lg_cmp ((Int32.toInt64 (pd x1)) + s228_0) (Int32.toInt64 cl)) ≤ 0 := of_decide_eq_true c_241
                    have hsz : (pd x1).toInt + s228_0.toInt ≤ cl.toInt := by have hb : s228_0.toInt ≤ 40000000000 := (by have a1 := Int32.le_toInt (B4 f ca (pd x1 + 4)); have a2 := Int32.toInt_lt (B4 f ca (pd x1 + 8)); have a3 := Int32.toInt_lt (B4 f ca (pd x1 + 4)); rcases Decidable.em (x2 = 170) with e | e; (rw [hj_228.1 e]; omega); (rw [hj_228.2 e]; omega)); have hb2 : 0 ≤ s228_0.toInt := (by rcases Decidable.em (x2 = 170) with e | e; (rw [hj_228.1 e]; have := hj_174.1 e; omega); (rw [hj_228.2 e]; have := hj_174.2 e; omega)); have q := lc_le c_241; rw [l_add (by rw [l_of]; omega) (by rw [l_of]; omega), l_of, l_of] at q; exact q
                    have h88 : 8 ≤ s228_0.toInt := by rcases Decidable.em (x2 = 170) with e | e; (rw [hj_228.1 e]; have := hj_174.1 e; omega); (rw [hj_228.2 e]; have := hj_174.2 e; omega)
                    have hS : SWF f ca cl x1 := ⟨fun e => by have e2 : x2 = 170 := hop.symm.trans e; have a := h106.1 e2; have b := hj_174.1 e2; have c := hj_228.1 e2; exact ⟨a, b, by omega⟩, fun e => by have e2 : ¬ x2 = 170 := (fun q => absurd ((hop.trans q).symm.trans e) (by decide)); have a := h106.2 e2; have b := hj_174.2 e2; have c := hj_228.2 e2; exact ⟨a, b, by omega⟩⟩
                    refine ml_blk 2 (S' := (250, [(4, .long s228_0), (0, .ref m0), (1, .int x1), (2, .int x2), (3, .int (pd x1))], [.int 171, .int x2], M)) rfl ?_
                    refine ml_if2 (S1 := (304, [(1, .int x1), (3, .int (pd x1)), (4, .long s228_0)], [], M)) (S2 := (253, [(4, .long s228_0), (0, .ref m0), (1, .int x1), (2, .int x2), (3, .int (pd x1))], [], M)) rfl rfl rfl (fun c_250 => ?_) (fun c_250 => ?_)
                    · have c_250 : ¬ x2 = 171 := of_decide_eq_true c_250
                      refine ml_blk 3 (S' := (308, [(1, .int x1), (3, .int (pd x1)), (4, .long s228_0)], [.long s228_0, .long (Int32.toInt64 (pd x1))], M)) rfl ?_
                      refine ml_blk 3 (S' := (311, [(1, .int x1), (3, .int (pd x1)), (4, .long s228_0)], [.long (Int32.toInt64 x1), .long ((Int32.toInt64 (pd x1)) + s228_0)], M)) rfl ?_
                      refine ml_blk 2 (S' := (313, [(1, .int x1), (3, .int (pd x1)), (4, .long s228_0)], [.int (Int64.toInt32 (((Int32.toInt64 (pd x1)) + s228_0) - (Int32.toInt64 x1)))], M)) rfl ?_
                      exact ml_ret rfl (rfl) (⟨⟨_, rfl, Or.inr ⟨fun e => absurd (hop.symm.trans e) c_4, fun _ => ⟨hS, (sw_l3 h0 hp.1 (by omega) h88).1⟩, (sw_l3 h0 hp.1 (by omega) h88).2⟩⟩, rfl⟩)
                    · have c_250 : ¬ (¬ x2 = 171) := of_decide_eq_false c_250
                      refine ml_st (S' := (254, [(4, .long s228_0), (0, .ref m0), (1, .int x1), (2, .int x2), (3, .int (pd x1))], [.int 1], M)) rfl rfl rfl ?_
                      refine ml_st (S' := (256, [(0, .ref m0), (1, .int x1), (3, .int (pd x1)), (4, .long s228_0), (6, .int 1)], [], M)) rfl rfl rfl ?_
                      have L_256 : ∀ (n_256 : Nat) (i256_6 : Int32), (2147483648 - i256_6.toInt).toNat ≤ n_256 → 1 ≤ i256_6.toInt → ml (mT g) d (mb_210 g).2 (256, [(0, .ref m0), (1, .int x1), (3, .int (pd x1)), (4, .long s228_0), (6, .int i256_6)], [], M) (fun v M' => (∃ x : Int32, v = some (.int x) ∧ (x < 0 ∨ FRM f ca cl x1 x)) ∧ M' = M) := by
                        intro n_256
                        induction n_256 with
                        | zero => intro i256_6 hn; exact (loop_zero hn).elim
                        | succ n_256 ih_256 =>
                          intro i256_6 hn_256 hi_256
                          refine ml_blk 3 (S' := (260, [(0, .ref m0), (1, .int x1), (3, .int (pd x1)), (4, .long s228_0), (6, .int i256_6)], [.int (pd x1), .ref m0, .int i256_6], M)) rfl ?_
                          refine ml_blk 2 (S' := (262, [(0, .ref m0), (1, .int x1), (3, .int (pd x1)), (4, .long s228_0), (6, .int i256_6)], [.int ((pd x1) + 4), .ref m0, .int i256_6], M)) rfl ?_
                          refine ml_call (a := [.ref m0, .int ((pd x1) + 4)]) (rest := [.int i256_6]) rfl (hR.okc rfl rfl rfl) rfl rfl (rm_b4 hR hF hC (by omega) (by omega) (by omega)) (fun v14 M15 h16 => ?_)
                          obtain ⟨rfl, h16⟩ := h16
                          rw [h16]
                          show ml _ _ _ (265, [(0, .ref m0), (1, .int x1), (3, .int (pd x1)), (4, .long s228_0), (6, .int i256_6)], [.int (B4 f ca ((pd x1) + 4)), .int i256_6], M) _
                          refine ml_if2 (S1 := (304, [(1, .int x1), (3, .int (pd x1)), (4, .long s228_0)], [], M)) (S2 := (268, [(0, .ref m0), (1, .int x1), (3, .int (pd x1)), (4, .long s228_0), (6, .int i256_6)], [], M)) rfl rfl rfl (fun c_265 => ?_) (fun c_265 => ?_)
                          · have c_265 : (B4 f ca ((pd x1) + 4)) ≤ i256_6 := of_decide_eq_true c_265
                            refine ml_blk 3 (S' := (308, [(1, .int x1), (3, .int (pd x1)), (4, .long s228_0)], [.long s228_0, .long (Int32.toInt64 (pd x1))], M)) rfl ?_
                            refine ml_blk 3 (S' := (311, [(1, .int x1), (3, .int (pd x1)), (4, .long s228_0)], [.long (Int32.toInt64 x1), .long ((Int32.toInt64 (pd x1)) + s228_0)], M)) rfl ?_
                            refine ml_blk 2 (S' := (313, [(1, .int x1), (3, .int (pd x1)), (4, .long s228_0)], [.int (Int64.toInt32 (((Int32.toInt64 (pd x1)) + s228_0) - (Int32.toInt64 x1)))], M)) rfl ?_
                            exact ml_ret rfl (rfl) (⟨⟨_, rfl, Or.inr ⟨fun e => absurd (hop.symm.trans e) c_4, fun _ => ⟨hS, (sw_l3 h0 hp.1 (by omega) h88).1⟩, (sw_l3 h0 hp.1 (by omega) h88).2⟩⟩, rfl⟩)
                          · have c_265 : ¬ ((B4 f ca ((pd x1) + 4)) ≤ i256_6) := of_decide_eq_false c_265
                            have hlt := i_nle c_265
                            have e71 : ¬ x2 = 170 := by rw [show x2 = 171 from Decidable.not_not.mp c_250]; decide
                            have hc9 := hj_228.2 e71
                            have m8 := mul_k (k := 8) (x := i256_6) (a := 8) rfl (by omega) (by omega) (by omega) (by omega)
                            have a1 : (pd x1 + 8 + 8 * i256_6).toInt = (pd x1).toInt + 8 + 8 * i256_6.toInt := by rw [i_add (by omega) (by omega), d8, m8]
                            have a2 : (pd x1 + 8 * i256_6).toInt = (pd x1).toInt + 8 * i256_6.toInt := by rw [i_add (by omega) (by omega), m8]
                            refine ml_blk 3 (S' := (272, [(0, .ref m0), (1, .int x1), (3, .int (pd x1)), (4, .long s228_0), (6, .int i256_6)], [.int 8, .int (pd x1), .ref m0], M)) rfl ?_
                            refine ml_blk 3 (S' := (277, [(0, .ref m0), (1, .int x1), (3, .int (pd x1)), (4, .long s228_0), (6, .int i256_6)], [.int i256_6, .int 8, .int ((pd x1) + 8), .ref m0], M)) rfl ?_
                            refine ml_blk 2 (S' := (279, [(0, .ref m0), (1, .int x1), (3, .int (pd x1)), (4, .long s228_0), (6, .int i256_6)], [.int (((pd x1) + 8) + (8 * i256_6)), .ref m0], M)) rfl ?_
                            refine ml_call (a := [.ref m0, .int (((pd x1) + 8) + (8 * i256_6))]) (rest := []) rfl (hR.okc rfl rfl rfl) rfl rfl (rm_b4 hR hF hC (by omega) (by omega) (by omega)) (fun v17 M18 h19 => ?_)
                            obtain ⟨rfl, h19⟩ := h19
                            rw [h19]
                            show ml _ _ _ (282, [(0, .ref m0), (1, .int x1), (3, .int (pd x1)), (4, .long s228_0), (6, .int i256_6)], [.int (B4 f ca (((pd x1) + 8) + (8 * i256_6)))], M) _
                            refine ml_blk 3 (S' := (286, [(0, .ref m0), (1, .int x1), (3, .int (pd x1)), (4, .long s228_0), (6, .int i256_6)], [.int 8, .int (pd x1), .ref m0, .int (B4 f ca (((pd x1) + 8) + (8 * i256_6)))], M)) rfl ?_
                            refine ml_blk 3 (S' := (290, [(0, .ref m0), (1, .int x1), (3, .int (pd x1)), (4, .long s228_0), (6, .int i256_6)], [.int ((pd x1) + (8 * i256_6)), .ref m0, .int (B4 f ca (((pd x1) + 8) + (8 * i256_6)))], M)) rfl ?_
                            refine ml_call (a := [.ref m0, .int ((pd x1) + (8 * i256_6))]) (rest := [.int (B4 f ca (((pd x1) + 8) + (8 * i256_6)))]) rfl (hR.okc rfl rfl rfl) rfl rfl (rm_b4 hR hF hC (by omega) (by omega) (by omega)) (fun v20 M21 h22 => ?_)
                            obtain ⟨rfl, h22⟩ := h22
                            rw [h22]
                            show ml _ _ _ (293, [(0, .ref m0), (1, .int x1), (3, .int (pd x1)), (4, .long s228_0), (6, .int i256_6)], [.int (B4 f ca ((pd x1) + (8 * i256_6))), .int (B4 f ca (((pd x1) + 8) + (8 * i256_6)))], M) _
                            refine ml_if2 (S1 := (298, [(0, .ref m0), (1, .int x1), (3, .int (pd x1)), (4, .long s228_0), (6, .int i256_6)], [], M)) (S2 := (296, [(0, .ref m0), (1, .int x1), (3, .int (pd x1)), (4, .long s228_0), (6, .int i256_6)], [], M)) rfl rfl rfl (fun c_293 => ?_) (fun c_293 => ?_)
                            · have c_293 : (B4 f ca ((pd x1) + (8 * i256_6))) < (B4 f ca (((pd x1) + 8) + (8 * i256_6))) := of_decide_eq_true c_293
                              refine ml_st (S' := (301, [(6, .int (i256_6 + 1)), (0, .ref m0), (1, .int x1), (3, .int (pd x1)), (4, .long s228_0)], [], M)) rfl rfl rfl ?_
                              refine ml_st (S' := (256, [(0, .ref m0), (1, .int x1), (3, .int (pd x1)), (4, .long s228_0), (6, .int (i256_6 + 1))], [], M)) rfl rfl rfl ?_
                              exact ih_256 (i256_6 + 1) (loop_inc (Int32.not_le.mp c_265) hn_256) (by rw [inc_lt (Int32.not_le.mp c_265)]; omega)
                            · have c_293 : ¬ ((B4 f ca ((pd x1) + (8 * i256_6))) < (B4 f ca (((pd x1) + 8) + (8 * i256_6)))) := of_decide_eq_false c_293
                              refine ml_st (S' := (297, [(0, .ref m0), (1, .int x1), (3, .int (pd x1)), (4, .long s228_0), (6, .int i256_6)], [.int (-1)], M)) rfl rfl rfl ?_
                              exact ml_ret rfl (rfl) (⟨⟨_, rfl, Or.inl (by decide)⟩, rfl⟩)
                      exact L_256 _ 1 (Nat.le_refl _) (by decide)
                  · have c_241 : ¬ ((lg_cmp ((Int32.toInt64 (pd x1)) + s228_0) (Int32.toInt64 cl)) ≤ 0) := of_decide_eq_false c_241
                    refine ml_st (S' := (245, [(4, .long s228_0), (0, .ref m0), (1, .int x1), (2, .int x2), (3, .int (pd x1))], [.int (-1)], M)) rfl rfl rfl ?_
                    exact ml_ret rfl (rfl) (⟨⟨_, rfl, Or.inl (by decide)⟩, rfl⟩)
                refine ml_if2 (S1 := (212, [(0, .ref m0), (1, .int x1), (2, .int x2), (3, .int (pd x1))], [], M)) (S2 := (181, [(0, .ref m0), (1, .int x1), (2, .int x2), (3, .int (pd x1))], [], M)) rfl rfl rfl (fun c_178 => ?_) (fun c_178 => ?_)
                · have c_178 : ¬ x2 = 170 := of_decide_eq_true c_178
                  refine ml_blk 3 (S' := (217, [(0, .ref m0), (1, .int x1), (2, .int x2), (3, .int (pd x1))], [.int (pd x1), .ref m0, .long 8], M)) rfl ?_
                  refine ml_blk 2 (S' := (219, [(0, .ref m0), (1, .int x1), (2, .int x2), (3, .int (pd x1))], [.int ((pd x1) + 4), .ref m0, .long 8], M)) rfl ?_
                  refine ml_call (a := [.ref m0, .int ((pd x1) + 4)]) (rest := [.long 8]) rfl (hR.okc rfl rfl rfl) rfl rfl (rm_b4 hR hF hC (by omega) (by omega) (by omega)) (fun v23 M24 h25 => ?_)
                  obtain ⟨rfl, h25⟩ := h25
                  rw [h25]
                  show ml _ _ _ (222, [(0, .ref m0), (1, .int x1), (2, .int x2), (3, .int (pd x1))], [.int (B4 f ca ((pd x1) + 4)), .long 8], M) _
                  refine ml_blk 3 (S' := (227, [(0, .ref m0), (1, .int x1), (2, .int x2), (3, .int (pd x1))], [.long 8, .long (8 * (Int32.toInt64 (B4 f ca ((pd x1) + 4))))], M)) rfl ?_
                  refine ml_st (S' := (228, [(0, .ref m0), (1, .int x1), (2, .int x2), (3, .int (pd x1))], [.long ((8 * (Int32.toInt64 (B4 f ca ((pd x1) + 4)))) + 8)], M)) rfl rfl rfl ?_
                  exact J_228 ((8 * (Int32.toInt64 (B4 f ca ((pd x1) + 4)))) + 8) (⟨fun e => absurd e c_178, fun _ => sw_l2⟩)
                · have c_178 : ¬ (¬ x2 = 170) := of_decide_eq_false c_178
                  refine ml_blk 3 (S' := (186, [(0, .ref m0), (1, .int x1), (2, .int x2), (3, .int (pd x1))], [.int (pd x1), .ref m0, .long 4], M)) rfl ?_
                  refine ml_blk 2 (S' := (189, [(0, .ref m0), (1, .int x1), (2, .int x2), (3, .int (pd x1))], [.int ((pd x1) + 8), .ref m0, .long 4], M)) rfl ?_
                  refine ml_call (a := [.ref m0, .int ((pd x1) + 8)]) (rest := [.long 4]) rfl (hR.okc rfl rfl rfl) rfl rfl (rm_b4 hR hF hC (by omega) (by have := h106.1 (Decidable.not_not.mp c_178); omega) (by omega)) (fun v26 M27 h28 => ?_)
                  obtain ⟨rfl, h28⟩ := h28
                  rw [h28]
                  show ml _ _ _ (192, [(0, .ref m0), (1, .int x1), (2, .int x2), (3, .int (pd x1))], [.int (B4 f ca ((pd x1) + 8)), .long 4], M) _
                  refine ml_blk 3 (S' := (195, [(0, .ref m0), (1, .int x1), (2, .int x2), (3, .int (pd x1))], [.int (pd x1), .ref m0, .long (Int32.toInt64 (B4 f ca ((pd x1) + 8))), .long 4], M)) rfl ?_
                  refine ml_blk 2 (S' := (197, [(0, .ref m0), (1, .int x1), (2, .int x2), (3, .int (pd x1))], [.int ((pd x1) + 4), .ref m0, .long (Int32.toInt64 (B4 f ca ((pd x1) + 8))), .long 4], M)) rfl ?_
                  refine ml_call (a := [.ref m0, .int ((pd x1) + 4)]) (rest := [.long (Int32.toInt64 (B4 f ca ((pd x1) + 8))), .long 4]) rfl (hR.okc rfl rfl rfl) rfl rfl (rm_b4 hR hF hC (by omega) (by have := h106.1 (Decidable.not_not.mp c_178); omega) (by omega)) (fun v29 M30 h31 => ?_)
                  obtain ⟨rfl, h31⟩ := h31
                  rw [h31]
                  show ml _ _ _ (200, [(0, .ref m0), (1, .int x1), (2, .int x2), (3, .int (pd x1))], [.int (B4 f ca ((pd x1) + 4)), .long (Int32.toInt64 (B4 f ca ((pd x1) + 8))), .long 4], M) _
                  refine ml_blk 3 (S' := (203, [(0, .ref m0), (1, .int x1), (2, .int x2), (3, .int (pd x1))], [.long 1, .long ((Int32.toInt64 (B4 f ca ((pd x1) + 8))) - (Int32.toInt64 (B4 f ca ((pd x1) + 4)))), .long 4], M)) rfl ?_
                  refine ml_blk 3 (S' := (208, [(0, .ref m0), (1, .int x1), (2, .int x2), (3, .int (pd x1))], [.long 12, .long (4 * (((Int32.toInt64 (B4 f ca ((pd x1) + 8))) - (Int32.toInt64 (B4 f ca ((pd x1) + 4)))) + 1))], M)) rfl ?_
                  refine ml_st (S' := (209, [(0, .ref m0), (1, .int x1), (2, .int x2), (3, .int (pd x1))], [.long ((4 * (((Int32.toInt64 (B4 f ca ((pd x1) + 8))) - (Int32.toInt64 (B4 f ca ((pd x1) + 4)))) + 1)) + 12)], M)) rfl rfl rfl ?_
                  refine ml_st (S' := (228, [(0, .ref m0), (1, .int x1), (2, .int x2), (3, .int (pd x1))], [.long ((4 * (((Int32.toInt64 (B4 f ca ((pd x1) + 8))) - (Int32.toInt64 (B4 f ca ((pd x1) + 4)))) + 1)) + 12)], M)) rfl rfl rfl ?_
                  exact J_228 ((4 * (((Int32.toInt64 (B4 f ca ((pd x1) + 8))) - (Int32.toInt64 (B4 f ca ((pd x1) + 4)))) + 1)) + 12) (⟨fun _ => sw_l1, fun e => absurd (Decidable.not_not.mp c_178) e⟩)
              refine ml_if2 (S1 := (162, [(0, .ref m0), (1, .int x1), (2, .int x2), (3, .int (pd x1)), (4, .int i111_4)], [], M)) (S2 := (141, [(0, .ref m0), (1, .int x1), (2, .int x2), (3, .int (pd x1)), (4, .int i111_4)], [], M)) rfl rfl rfl (fun c_138 => ?_) (fun c_138 => ?_)
              · have c_138 : ¬ x2 = 170 := of_decide_eq_true c_138
                refine ml_blk 3 (S' := (165, [(0, .ref m0), (1, .int x1), (2, .int x2), (3, .int (pd x1)), (4, .int i111_4)], [.int 4, .int (pd x1), .ref m0], M)) rfl ?_
                refine ml_st (S' := (166, [(0, .ref m0), (1, .int x1), (2, .int x2), (3, .int (pd x1)), (4, .int i111_4)], [.int ((pd x1) + 4), .ref m0], M)) rfl rfl rfl ?_
                refine ml_call (a := [.ref m0, .int ((pd x1) + 4)]) (rest := []) rfl (hR.okc rfl rfl rfl) rfl rfl (rm_b4 hR hF hC (by omega) (by omega) (by omega)) (fun v32 M33 h34 => ?_)
                obtain ⟨rfl, h34⟩ := h34
                rw [h34]
                show ml _ _ _ (169, [(0, .ref m0), (1, .int x1), (2, .int x2), (3, .int (pd x1)), (4, .int i111_4)], [.int (B4 f ca ((pd x1) + 4))], M) _
                refine ml_if (S1 := (174, [(0, .ref m0), (1, .int x1), (2, .int x2), (3, .int (pd x1))], [], M)) (S2 := (172, [], [], M)) rfl rfl rfl (fun c_169 => ?_) (fun c_169 => ?_)
                · have c_169 : 0 ≤ (B4 f ca ((pd x1) + 4)) := of_decide_eq_true c_169
                  exact J_174  (⟨fun e => absurd e c_138, fun _ => i_le c_169⟩)
                · have c_169 : ¬ (0 ≤ (B4 f ca ((pd x1) + 4))) := of_decide_eq_false c_169
                  refine ml_st (S' := (173, [], [.int (-1)], M)) rfl rfl rfl ?_
                  exact ml_ret rfl (rfl) (⟨⟨_, rfl, Or.inl (by decide)⟩, rfl⟩)
              · have c_138 : ¬ (¬ x2 = 170) := of_decide_eq_false c_138
                refine ml_blk 3 (S' := (144, [(0, .ref m0), (1, .int x1), (2, .int x2), (3, .int (pd x1)), (4, .int i111_4)], [.int 4, .int (pd x1), .ref m0], M)) rfl ?_
                refine ml_st (S' := (145, [(0, .ref m0), (1, .int x1), (2, .int x2), (3, .int (pd x1)), (4, .int i111_4)], [.int ((pd x1) + 4), .ref m0], M)) rfl rfl rfl ?_
                refine ml_call (a := [.ref m0, .int ((pd x1) + 4)]) (rest := []) rfl (hR.okc rfl rfl rfl) rfl rfl (rm_b4 hR hF hC (by omega) (by have := h106.1 (Decidable.not_not.mp c_138); omega) (by omega)) (fun v35 M36 h37 => ?_)
                obtain ⟨rfl, h37⟩ := h37
                rw [h37]
                show ml _ _ _ (148, [(0, .ref m0), (1, .int x1), (2, .int x2), (3, .int (pd x1)), (4, .int i111_4)], [.int (B4 f ca ((pd x1) + 4))], M) _
                refine ml_blk 3 (S' := (152, [(0, .ref m0), (1, .int x1), (2, .int x2), (3, .int (pd x1)), (4, .int i111_4)], [.int 8, .int (pd x1), .ref m0, .int (B4 f ca ((pd x1) + 4))], M)) rfl ?_
                refine ml_st (S' := (153, [(0, .ref m0), (1, .int x1), (2, .int x2), (3, .int (pd x1)), (4, .int i111_4)], [.int ((pd x1) + 8), .ref m0, .int (B4 f ca ((pd x1) + 4))], M)) rfl rfl rfl ?_
                refine ml_call (a := [.ref m0, .int ((pd x1) + 8)]) (rest := [.int (B4 f ca ((pd x1) + 4))]) rfl (hR.okc rfl rfl rfl) rfl rfl (rm_b4 hR hF hC (by omega) (by have := h106.1 (Decidable.not_not.mp c_138); omega) (by omega)) (fun v38 M39 h40 => ?_)
                obtain ⟨rfl, h40⟩ := h40
                rw [h40]
                show ml _ _ _ (156, [(0, .ref m0), (1, .int x1), (2, .int x2), (3, .int (pd x1)), (4, .int i111_4)], [.int (B4 f ca ((pd x1) + 8)), .int (B4 f ca ((pd x1) + 4))], M) _
                refine ml_if2 (S1 := (174, [(0, .ref m0), (1, .int x1), (2, .int x2), (3, .int (pd x1))], [], M)) (S2 := (159, [(0, .ref m0), (1, .int x1), (2, .int x2), (3, .int (pd x1)), (4, .int i111_4)], [], M)) rfl rfl rfl (fun c_156 => ?_) (fun c_156 => ?_)
                · have c_156 : (B4 f ca ((pd x1) + 4)) ≤ (B4 f ca ((pd x1) + 8)) := of_decide_eq_true c_156
                  exact J_174  (⟨fun _ => i_le c_156, fun e => absurd (Decidable.not_not.mp c_138) e⟩)
                · have c_156 : ¬ ((B4 f ca ((pd x1) + 4)) ≤ (B4 f ca ((pd x1) + 8))) := of_decide_eq_false c_156
                  refine ml_st (S' := (172, [], [], M)) rfl rfl rfl ?_
                  refine ml_st (S' := (173, [], [.int (-1)], M)) rfl rfl rfl ?_
                  exact ml_ret rfl (rfl) (⟨⟨_, rfl, Or.inl (by decide)⟩, rfl⟩)
            · have c_114 : ¬ ((pd x1) ≤ i111_4) := of_decide_eq_false c_114
              refine ml_blk 2 (S' := (120, [(0, .ref m0), (1, .int x1), (2, .int x2), (3, .int (pd x1)), (4, .int i111_4)], [.int i111_4, .ref m0], M)) rfl ?_
              refine ml_call (a := [.ref m0, .int i111_4]) (rest := []) rfl (hR.okc rfl rfl rfl) rfl rfl (rm_b1 hR hF hC (by omega) (by have q := i_nle c_114; omega) (by omega)) (fun v41 M42 h43 => ?_)
              obtain ⟨rfl, h43⟩ := h43
              rw [h43]
              show ml _ _ _ (123, [(0, .ref m0), (1, .int x1), (2, .int x2), (3, .int (pd x1)), (4, .int i111_4)], [.int (f1 f (ca + i111_4))], M) _
              refine ml_if (S1 := (128, [(0, .ref m0), (1, .int x1), (2, .int x2), (3, .int (pd x1)), (4, .int i111_4)], [], M)) (S2 := (126, [(0, .ref m0), (1, .int x1), (2, .int x2), (3, .int (pd x1)), (4, .int i111_4)], [], M)) rfl rfl rfl (fun c_123 => ?_) (fun c_123 => ?_)
              · have c_123 : (f1 f (ca + i111_4)) = 0 := of_decide_eq_true c_123
                refine ml_st (S' := (131, [(4, .int (i111_4 + 1)), (0, .ref m0), (1, .int x1), (2, .int x2), (3, .int (pd x1))], [], M)) rfl rfl rfl ?_
                refine ml_st (S' := (111, [(0, .ref m0), (1, .int x1), (2, .int x2), (3, .int (pd x1)), (4, .int (i111_4 + 1))], [], M)) rfl rfl rfl ?_
                exact ih_111 (i111_4 + 1) (loop_inc (Int32.not_le.mp c_114) hn_111) (by rw [inc_lt (Int32.not_le.mp c_114)]; omega)
              · have c_123 : ¬ ((f1 f (ca + i111_4)) = 0) := of_decide_eq_false c_123
                refine ml_st (S' := (127, [(0, .ref m0), (1, .int x1), (2, .int x2), (3, .int (pd x1)), (4, .int i111_4)], [.int (-1)], M)) rfl rfl rfl ?_
                exact ml_ret rfl (rfl) (⟨⟨_, rfl, Or.inl (by decide)⟩, rfl⟩)
        exact L_111 _ (x1 + 1) (Nat.le_refl _) (by omega)
      · have c_101 : ¬ (((pd x1) + s96_0) ≤ cl) := of_decide_eq_false c_101
        refine ml_st (S' := (105, [(0, .ref m0), (1, .int x1), (2, .int x2), (3, .int (pd x1))], [.int (-1)], M)) rfl rfl rfl ?_
        exact ml_ret rfl (rfl) (⟨⟨_, rfl, Or.inl (by decide)⟩, rfl⟩)
    refine ml_if2 (S1 := (94, [(3, .int (pd x1)), (0, .ref m0), (1, .int x1), (2, .int x2)], [.int (pd x1)], M)) (S2 := (89, [(3, .int (pd x1)), (0, .ref m0), (1, .int x1), (2, .int x2)], [.int (pd x1)], M)) rfl rfl rfl (fun c_86 => ?_) (fun c_86 => ?_)
    · have c_86 : ¬ x2 = 170 := of_decide_eq_true c_86
      refine ml_st (S' := (96, [(0, .ref m0), (1, .int x1), (2, .int x2), (3, .int (pd x1))], [.int 8, .int (pd x1)], M)) rfl rfl rfl ?_
      exact J_96 8 (⟨fun e => absurd e c_86, fun _ => rfl⟩)
    · have c_86 : ¬ (¬ x2 = 170) := of_decide_eq_false c_86
      refine ml_st (S' := (91, [(3, .int (pd x1)), (0, .ref m0), (1, .int x1), (2, .int x2)], [.int 12, .int (pd x1)], M)) rfl rfl rfl ?_
      refine ml_st (S' := (96, [(0, .ref m0), (1, .int x1), (2, .int x2), (3, .int (pd x1))], [.int 12, .int (pd x1)], M)) rfl rfl rfl ?_
      exact J_96 12 (⟨fun _ => rfl, fun e => absurd (Decidable.not_not.mp c_86) e⟩)
  · have c_4 : ¬ (¬ x2 = 196) := of_decide_eq_false c_4
    refine ml_blk 3 (S' := (10, [(0, .ref m0), (1, .int x1), (2, .int x2)], [.int (x1 + 1)], M)) rfl ?_
    refine ml_st (S' := (11, [(0, .ref m0), (1, .int x1), (2, .int x2)], [.ref m0, .int (x1 + 1)], M)) rfl rfl rfl ?_
    refine rg_int (S' := (14, [(0, .ref m0), (1, .int x1), (2, .int x2)], [.int cl, .int (x1 + 1)], M)) rfl hR rfl (hC.2.1) rfl ?_
    refine ml_if2 (S1 := (19, [(0, .ref m0), (1, .int x1), (2, .int x2)], [], M)) (S2 := (17, [(0, .ref m0), (1, .int x1), (2, .int x2)], [], M)) rfl rfl rfl (fun c_14 => ?_) (fun c_14 => ?_)
    · have c_14 : (x1 + 1) < cl := of_decide_eq_true c_14
      refine ml_blk 3 (S' := (22, [(0, .ref m0), (1, .int x1), (2, .int x2)], [.int 1, .int x1, .ref m0], M)) rfl ?_
      refine ml_st (S' := (23, [(0, .ref m0), (1, .int x1), (2, .int x2)], [.int (x1 + 1), .ref m0], M)) rfl rfl rfl ?_
      refine ml_call (a := [.ref m0, .int (x1 + 1)]) (rest := []) rfl (hR.okc rfl rfl rfl) rfl rfl (rm_b1 hR hF hC (by omega) (by have q := i_lt c_14; omega) (by omega)) (fun v44 M45 h46 => ?_)
      obtain ⟨rfl, h46⟩ := h46
      rw [h46]
      show ml _ _ _ (26, [(0, .ref m0), (1, .int x1), (2, .int x2)], [.int (f1 f (ca + (x1 + 1)))], M) _
      refine ml_st (S' := (27, [(3, .int (f1 f (ca + (x1 + 1)))), (0, .ref m0), (1, .int x1), (2, .int x2)], [], M)) rfl rfl rfl ?_
      refine ml_blk 2 (S' := (31, [(3, .int (f1 f (ca + (x1 + 1)))), (0, .ref m0), (1, .int x1), (2, .int x2)], [.int 132, .int (f1 f (ca + (x1 + 1)))], M)) rfl ?_
      refine ml_if2 (S1 := (39, [(3, .int (f1 f (ca + (x1 + 1)))), (0, .ref m0), (1, .int x1), (2, .int x2)], [], M)) (S2 := (34, [(3, .int (f1 f (ca + (x1 + 1)))), (0, .ref m0), (1, .int x1), (2, .int x2)], [], M)) rfl rfl rfl (fun c_31 => ?_) (fun c_31 => ?_)
      · have c_31 : ¬ (f1 f (ca + (x1 + 1))) = 132 := of_decide_eq_true c_31
        refine ml_blk 2 (S' := (42, [(3, .int (f1 f (ca + (x1 + 1)))), (0, .ref m0), (1, .int x1), (2, .int x2)], [.int 21, .int (f1 f (ca + (x1 + 1)))], M)) rfl ?_
        refine ml_if2 (S1 := (51, [(3, .int (f1 f (ca + (x1 + 1))))], [], M)) (S2 := (45, [(3, .int (f1 f (ca + (x1 + 1)))), (0, .ref m0), (1, .int x1), (2, .int x2)], [], M)) rfl rfl rfl (fun c_42 => ?_) (fun c_42 => ?_)
        · have c_42 : (f1 f (ca + (x1 + 1))) < 21 := of_decide_eq_true c_42
          refine ml_blk 2 (S' := (54, [(3, .int (f1 f (ca + (x1 + 1))))], [.int 54, .int (f1 f (ca + (x1 + 1)))], M)) rfl ?_
          refine ml_if2 (S1 := (63, [(3, .int (f1 f (ca + (x1 + 1))))], [], M)) (S2 := (57, [(3, .int (f1 f (ca + (x1 + 1))))], [], M)) rfl rfl rfl (fun c_54 => ?_) (fun c_54 => ?_)
          · have c_54 : (f1 f (ca + (x1 + 1))) < 54 := of_decide_eq_true c_54
            refine ml_blk 2 (S' := (67, [(3, .int (f1 f (ca + (x1 + 1))))], [.int 169, .int (f1 f (ca + (x1 + 1)))], M)) rfl ?_
            refine ml_if2 (S1 := (74, [(3, .int (f1 f (ca + (x1 + 1))))], [], M)) (S2 := (70, [], [], M)) rfl rfl rfl (fun c_67 => ?_) (fun c_67 => ?_)
            · have c_67 : ¬ (f1 f (ca + (x1 + 1))) = 169 := of_decide_eq_true c_67
              refine ml_st (S' := (75, [], [.int (-1)], M)) rfl rfl rfl ?_
              exact ml_ret rfl (rfl) (⟨⟨_, rfl, Or.inl (by decide)⟩, rfl⟩)
            · have c_67 : ¬ (¬ (f1 f (ca + (x1 + 1))) = 169) := of_decide_eq_false c_67
              refine ml_st (S' := (71, [], [.int 4], M)) rfl rfl rfl ?_
              refine ml_st (S' := (75, [], [.int 4], M)) rfl rfl rfl ?_
              exact ml_ret rfl (rfl) (⟨⟨_, rfl, Or.inr ⟨fun _ => ⟨by decide, fun e => absurd e c_31⟩, fun e => by rw [hop, show x2 = 196 from Decidable.not_not.mp c_4] at e; exact absurd e (by decide), by decide⟩⟩, rfl⟩)
          · have c_54 : ¬ ((f1 f (ca + (x1 + 1))) < 54) := of_decide_eq_false c_54
            refine ml_blk 2 (S' := (60, [(3, .int (f1 f (ca + (x1 + 1))))], [.int 58, .int (f1 f (ca + (x1 + 1)))], M)) rfl ?_
            refine ml_if2 (S1 := (70, [], [], M)) (S2 := (63, [(3, .int (f1 f (ca + (x1 + 1))))], [], M)) rfl rfl rfl (fun c_60 => ?_) (fun c_60 => ?_)
            · have c_60 : (f1 f (ca + (x1 + 1))) ≤ 58 := of_decide_eq_true c_60
              refine ml_st (S' := (71, [], [.int 4], M)) rfl rfl rfl ?_
              refine ml_st (S' := (75, [], [.int 4], M)) rfl rfl rfl ?_
              exact ml_ret rfl (rfl) (⟨⟨_, rfl, Or.inr ⟨fun _ => ⟨by decide, fun e => absurd e c_31⟩, fun e => by rw [hop, show x2 = 196 from Decidable.not_not.mp c_4] at e; exact absurd e (by decide), by decide⟩⟩, rfl⟩)
            · have c_60 : ¬ ((f1 f (ca + (x1 + 1))) ≤ 58) := of_decide_eq_false c_60
              refine ml_blk 2 (S' := (67, [(3, .int (f1 f (ca + (x1 + 1))))], [.int 169, .int (f1 f (ca + (x1 + 1)))], M)) rfl ?_
              refine ml_if2 (S1 := (74, [(3, .int (f1 f (ca + (x1 + 1))))], [], M)) (S2 := (70, [], [], M)) rfl rfl rfl (fun c_67 => ?_) (fun c_67 => ?_)
              · have c_67 : ¬ (f1 f (ca + (x1 + 1))) = 169 := of_decide_eq_true c_67
                refine ml_st (S' := (75, [], [.int (-1)], M)) rfl rfl rfl ?_
                exact ml_ret rfl (rfl) (⟨⟨_, rfl, Or.inl (by decide)⟩, rfl⟩)
              · have c_67 : ¬ (¬ (f1 f (ca + (x1 + 1))) = 169) := of_decide_eq_false c_67
                refine ml_st (S' := (71, [], [.int 4], M)) rfl rfl rfl ?_
                refine ml_st (S' := (75, [], [.int 4], M)) rfl rfl rfl ?_
                exact ml_ret rfl (rfl) (⟨⟨_, rfl, Or.inr ⟨fun _ => ⟨by decide, fun e => absurd e c_31⟩, fun e => by rw [hop, show x2 = 196 from Decidable.not_not.mp c_4] at e; exact absurd e (by decide), by decide⟩⟩, rfl⟩)
        · have c_42 : ¬ ((f1 f (ca + (x1 + 1))) < 21) := of_decide_eq_false c_42
          refine ml_blk 2 (S' := (48, [(3, .int (f1 f (ca + (x1 + 1)))), (0, .ref m0), (1, .int x1), (2, .int x2)], [.int 25, .int (f1 f (ca + (x1 + 1)))], M)) rfl ?_
          refine ml_if2 (S1 := (70, [], [], M)) (S2 := (51, [(3, .int (f1 f (ca + (x1 + 1))))], [], M)) rfl rfl rfl (fun c_48 => ?_) (fun c_48 => ?_)
          · have c_48 : (f1 f (ca + (x1 + 1))) ≤ 25 := of_decide_eq_true c_48
            refine ml_st (S' := (71, [], [.int 4], M)) rfl rfl rfl ?_
            refine ml_st (S' := (75, [], [.int 4], M)) rfl rfl rfl ?_
            exact ml_ret rfl (rfl) (⟨⟨_, rfl, Or.inr ⟨fun _ => ⟨by decide, fun e => absurd e c_31⟩, fun e => by rw [hop, show x2 = 196 from Decidable.not_not.mp c_4] at e; exact absurd e (by decide), by decide⟩⟩, rfl⟩)
          · have c_48 : ¬ ((f1 f (ca + (x1 + 1))) ≤ 25) := of_decide_eq_false c_48
            refine ml_blk 2 (S' := (54, [(3, .int (f1 f (ca + (x1 + 1))))], [.int 54, .int (f1 f (ca + (x1 + 1)))], M)) rfl ?_
            refine ml_if2 (S1 := (63, [(3, .int (f1 f (ca + (x1 + 1))))], [], M)) (S2 := (57, [(3, .int (f1 f (ca + (x1 + 1))))], [], M)) rfl rfl rfl (fun c_54 => ?_) (fun c_54 => ?_)
            · have c_54 : (f1 f (ca + (x1 + 1))) < 54 := of_decide_eq_true c_54
              refine ml_blk 2 (S' := (67, [(3, .int (f1 f (ca + (x1 + 1))))], [.int 169, .int (f1 f (ca + (x1 + 1)))], M)) rfl ?_
              refine ml_if2 (S1 := (74, [(3, .int (f1 f (ca + (x1 + 1))))], [], M)) (S2 := (70, [], [], M)) rfl rfl rfl (fun c_67 => ?_) (fun c_67 => ?_)
              · have c_67 : ¬ (f1 f (ca + (x1 + 1))) = 169 := of_decide_eq_true c_67
                refine ml_st (S' := (75, [], [.int (-1)], M)) rfl rfl rfl ?_
                exact ml_ret rfl (rfl) (⟨⟨_, rfl, Or.inl (by decide)⟩, rfl⟩)
              · have c_67 : ¬ (¬ (f1 f (ca + (x1 + 1))) = 169) := of_decide_eq_false c_67
                refine ml_st (S' := (71, [], [.int 4], M)) rfl rfl rfl ?_
                refine ml_st (S' := (75, [], [.int 4], M)) rfl rfl rfl ?_
                exact ml_ret rfl (rfl) (⟨⟨_, rfl, Or.inr ⟨fun _ => ⟨by decide, fun e => absurd e c_31⟩, fun e => by rw [hop, show x2 = 196 from Decidable.not_not.mp c_4] at e; exact absurd e (by decide), by decide⟩⟩, rfl⟩)
            · have c_54 : ¬ ((f1 f (ca + (x1 + 1))) < 54) := of_decide_eq_false c_54
              refine ml_blk 2 (S' := (60, [(3, .int (f1 f (ca + (x1 + 1))))], [.int 58, .int (f1 f (ca + (x1 + 1)))], M)) rfl ?_
              refine ml_if2 (S1 := (70, [], [], M)) (S2 := (63, [(3, .int (f1 f (ca + (x1 + 1))))], [], M)) rfl rfl rfl (fun c_60 => ?_) (fun c_60 => ?_)
              · have c_60 : (f1 f (ca + (x1 + 1))) ≤ 58 := of_decide_eq_true c_60
                refine ml_st (S' := (71, [], [.int 4], M)) rfl rfl rfl ?_
                refine ml_st (S' := (75, [], [.int 4], M)) rfl rfl rfl ?_
                exact ml_ret rfl (rfl) (⟨⟨_, rfl, Or.inr ⟨fun _ => ⟨by decide, fun e => absurd e c_31⟩, fun e => by rw [hop, show x2 = 196 from Decidable.not_not.mp c_4] at e; exact absurd e (by decide), by decide⟩⟩, rfl⟩)
              · have c_60 : ¬ ((f1 f (ca + (x1 + 1))) ≤ 58) := of_decide_eq_false c_60
                refine ml_blk 2 (S' := (67, [(3, .int (f1 f (ca + (x1 + 1))))], [.int 169, .int (f1 f (ca + (x1 + 1)))], M)) rfl ?_
                refine ml_if2 (S1 := (74, [(3, .int (f1 f (ca + (x1 + 1))))], [], M)) (S2 := (70, [], [], M)) rfl rfl rfl (fun c_67 => ?_) (fun c_67 => ?_)
                · have c_67 : ¬ (f1 f (ca + (x1 + 1))) = 169 := of_decide_eq_true c_67
                  refine ml_st (S' := (75, [], [.int (-1)], M)) rfl rfl rfl ?_
                  exact ml_ret rfl (rfl) (⟨⟨_, rfl, Or.inl (by decide)⟩, rfl⟩)
                · have c_67 : ¬ (¬ (f1 f (ca + (x1 + 1))) = 169) := of_decide_eq_false c_67
                  refine ml_st (S' := (71, [], [.int 4], M)) rfl rfl rfl ?_
                  refine ml_st (S' := (75, [], [.int 4], M)) rfl rfl rfl ?_
                  exact ml_ret rfl (rfl) (⟨⟨_, rfl, Or.inr ⟨fun _ => ⟨by decide, fun e => absurd e c_31⟩, fun e => by rw [hop, show x2 = 196 from Decidable.not_not.mp c_4] at e; exact absurd e (by decide), by decide⟩⟩, rfl⟩)
      · have c_31 : ¬ (¬ (f1 f (ca + (x1 + 1))) = 132) := of_decide_eq_false c_31
        refine ml_st (S' := (36, [(3, .int (f1 f (ca + (x1 + 1)))), (0, .ref m0), (1, .int x1), (2, .int x2)], [.int 6], M)) rfl rfl rfl ?_
        refine ml_st (S' := (75, [], [.int 6], M)) rfl rfl rfl ?_
        exact ml_ret rfl (rfl) (⟨⟨_, rfl, Or.inr ⟨fun _ => ⟨by decide, fun _ => by decide⟩, fun e => by rw [hop, show x2 = 196 from Decidable.not_not.mp c_4] at e; exact absurd e (by decide), by decide⟩⟩, rfl⟩)
    · have c_14 : ¬ ((x1 + 1) < cl) := of_decide_eq_false c_14
      refine ml_st (S' := (18, [(0, .ref m0), (1, .int x1), (2, .int x2)], [.int (-1)], M)) rfl rfl rfl ?_
      exact ml_ret rfl (rfl) (⟨⟨_, rfl, Or.inl (by decide)⟩, rfl⟩)
end
section
/-! the reference: operands (laid by wip/p2/c76.py) -/
set_option maxHeartbeats 2000000 in
theorem rm_operands {g : xe_G}  {m0 : Nat} {q : Nat → Nat} {z : Nat × Nat} {I : rI} {R : rR} {M : mi_H} {x1 x2 si mx : Int32} {n : Nat} {f : Nat → Int32} {S cN : Nat} {sa sl ch : Nat → Int32} {cp mj : Int32} {pa py : Nat → Int32} {ca cl : Int32} {nn : Int}  (hR : RS g m0 q z I R M) (hk9 : I 9 = some si) (hk79 : I 79 = some mx) (hF : FK n f I R) (hY : SK S cN sa sl ch I R) (hP : PK n f S cp mj pa py I R) (hE : EK f cp pa py sa sl ch) (hC : CK n ca cl I R) (h0 : 0 ≤ x1.toInt) (hln : ILN x2 nn) (hN : x1.toInt + nn ≤ cl.toInt) {d : Nat} (hd : 5 ≤ d) : mt (mT g) d 228 [.ref m0, .int x1, .int x2] M (fun v M' => (∃ x : Int32, v = some (.int x) ∧ (x = 0 ∨ x = 1)) ∧ M' = M) := by
  obtain ⟨d, rfl⟩ : ∃ e, d = e + 1 := ⟨d - 1, by omega⟩
  refine mt_in (b := mb_228 g) rfl rfl ?_
  show ml (mT g) d (mb_228 g).2 (0, [(0, .ref m0), (1, .int x1), (2, .int x2)], [], M) _
  have hn := hF.1
  obtain ⟨hca, hcl, hcn⟩ := hC.2.2
  have hnb : 1 ≤ nn := iln 1 hln 0 201 hln.1 hln.2.1 mlk_1_0_201
  have d1 : (x1 + 1).toInt = x1.toInt + 1 := by have e9 : (1 : Int32).toInt = 1 := rfl; rw [i_add (by omega) (by omega), e9]
  have d2 : (x1 + 2).toInt = x1.toInt + 2 := by have e9 : (2 : Int32).toInt = 2 := rfl; rw [i_add (by omega) (by omega), e9]
  have d3 : (x1 + 3).toInt = x1.toInt + 3 := by have e9 : (3 : Int32).toInt = 3 := rfl; rw [i_add (by omega) (by omega), e9]
  have d4 : (x1 + 4).toInt = x1.toInt + 4 := by have e9 : (4 : Int32).toInt = 4 := rfl; rw [i_add (by omega) (by omega), e9]
  refine ml_blk 2 (S' := (4, [(0, .ref m0), (1, .int x1), (2, .int x2)], [.int 168, .int x2], M)) rfl ?_
  have J_21 : ml (mT g) d (mb_228 g).2 (21, [(0, .ref m0), (1, .int x1), (2, .int x2)], [], M) (fun v M' => (∃ x : Int32, v = some (.int x) ∧ (x = 0 ∨ x = 1)) ∧ M' = M) := by
    refine ml_st (S' := (22, [(0, .ref m0), (1, .int x1), (2, .int x2)], [.ref m0], M)) rfl rfl rfl ?_
    refine rg_int (S' := (25, [(0, .ref m0), (1, .int x1), (2, .int x2)], [.int mj], M)) rfl hR rfl (hP.2.2.1) rfl ?_
    refine ml_st (S' := (27, [(0, .ref m0), (1, .int x1), (2, .int x2)], [.int 51, .int mj], M)) rfl rfl rfl ?_
    refine ml_if2 (S1 := (56, [], [], M)) (S2 := (30, [(0, .ref m0), (1, .int x1), (2, .int x2)], [], M)) rfl rfl rfl (fun c_27 => ?_) (fun c_27 => ?_)
    · have c_27 : 51 ≤ mj := of_decide_eq_true c_27
      refine ml_st (S' := (57, [], [.int 0], M)) rfl rfl rfl ?_
      exact ml_ret rfl (r_z (Or.inl rfl)) (⟨⟨_, rfl, Or.inl rfl⟩, rfl⟩)
    · have c_27 : ¬ (51 ≤ mj) := of_decide_eq_false c_27
      refine ml_blk 2 (S' := (34, [(0, .ref m0), (1, .int x1), (2, .int x2)], [.int 169, .int x2], M)) rfl ?_
      refine ml_if2 (S1 := (52, [], [], M)) (S2 := (37, [(0, .ref m0), (1, .int x1), (2, .int x2)], [], M)) rfl rfl rfl (fun c_34 => ?_) (fun c_34 => ?_)
      · have c_34 : ¬ x2 = 169 := of_decide_eq_true c_34
        refine ml_st (S' := (53, [], [.int 1], M)) rfl rfl rfl ?_
        refine ml_st (S' := (57, [], [.int 1], M)) rfl rfl rfl ?_
        exact ml_ret rfl (r_z (Or.inr rfl)) (⟨⟨_, rfl, Or.inr rfl⟩, rfl⟩)
      · have c_34 : ¬ (¬ x2 = 169) := of_decide_eq_false c_34
        have h2 : (2 : Int) ≤ nn := iln 2 hln 169 169 (by rw [show _ = (169 : Int32) from Decidable.not_not.mp c_34]; decide) (by rw [show _ = (169 : Int32) from Decidable.not_not.mp c_34]; decide) mlk_2_169_169
        refine ml_blk 3 (S' := (40, [(0, .ref m0), (1, .int x1), (2, .int x2)], [.int x1, .ref m0, .ref m0], M)) rfl ?_
        refine ml_blk 2 (S' := (42, [(0, .ref m0), (1, .int x1), (2, .int x2)], [.int (x1 + 1), .ref m0, .ref m0], M)) rfl ?_
        refine ml_call (a := [.ref m0, .int (x1 + 1)]) (rest := [.ref m0]) rfl (hR.okc rfl rfl rfl) rfl rfl (rm_b1 hR hF hC (by omega) (by omega) (by omega)) (fun v11 M12 h13 => ?_)
        obtain ⟨rfl, h13⟩ := h13
        rw [h13]
        show ml _ _ _ (45, [(0, .ref m0), (1, .int x1), (2, .int x2)], [.int (f1 f (ca + (x1 + 1))), .ref m0], M) _
        refine ml_st (S' := (46, [(0, .ref m0), (1, .int x1), (2, .int x2)], [.int 1, .int (f1 f (ca + (x1 + 1))), .ref m0], M)) rfl rfl rfl ?_
        refine ml_call (a := [.ref m0, .int (f1 f (ca + (x1 + 1))), .int 1]) (rest := []) rfl (hR.okc rfl rfl rfl) rfl rfl (rm_local hR (hk79) (by omega)) (fun v14 M15 h16 => ?_)
        obtain ⟨⟨u17, rfl, z18⟩, h16⟩ := h16
        rw [h16]
        show ml _ _ _ (49, [(0, .ref m0), (1, .int x1), (2, .int x2)], [.int u17], M) _
        refine ml_if (S1 := (56, [], [], M)) (S2 := (52, [], [], M)) rfl rfl rfl (fun c_49 => ?_) (fun c_49 => ?_)
        · have c_49 : u17 = 0 := of_decide_eq_true c_49
          refine ml_st (S' := (57, [], [.int 0], M)) rfl rfl rfl ?_
          exact ml_ret rfl (r_z (Or.inl rfl)) (⟨⟨_, rfl, Or.inl rfl⟩, rfl⟩)
        · have c_49 : ¬ (u17 = 0) := of_decide_eq_false c_49
          refine ml_st (S' := (53, [], [.int 1], M)) rfl rfl rfl ?_
          refine ml_st (S' := (57, [], [.int 1], M)) rfl rfl rfl ?_
          exact ml_ret rfl (r_z (Or.inr rfl)) (⟨⟨_, rfl, Or.inr rfl⟩, rfl⟩)
  refine ml_if2 (S1 := (21, [(0, .ref m0), (1, .int x1), (2, .int x2)], [], M)) (S2 := (7, [(0, .ref m0), (1, .int x1), (2, .int x2)], [], M)) rfl rfl rfl (fun c_4 => ?_) (fun c_4 => ?_)
  · have c_4 : x2 = 168 := of_decide_eq_true c_4
    exact J_21 
  · have c_4 : ¬ (x2 = 168) := of_decide_eq_false c_4
    refine ml_blk 2 (S' := (11, [(0, .ref m0), (1, .int x1), (2, .int x2)], [.int 169, .int x2], M)) rfl ?_
    refine ml_if2 (S1 := (21, [(0, .ref m0), (1, .int x1), (2, .int x2)], [], M)) (S2 := (14, [(0, .ref m0), (1, .int x1), (2, .int x2)], [], M)) rfl rfl rfl (fun c_11 => ?_) (fun c_11 => ?_)
    · have c_11 : x2 = 169 := of_decide_eq_true c_11
      exact J_21 
    · have c_11 : ¬ (x2 = 169) := of_decide_eq_false c_11
      refine ml_blk 2 (S' := (18, [(0, .ref m0), (1, .int x1), (2, .int x2)], [.int 201, .int x2], M)) rfl ?_
      refine ml_if2 (S1 := (58, [(0, .ref m0), (1, .int x1), (2, .int x2)], [], M)) (S2 := (21, [(0, .ref m0), (1, .int x1), (2, .int x2)], [], M)) rfl rfl rfl (fun c_18 => ?_) (fun c_18 => ?_)
      · have c_18 : ¬ x2 = 201 := of_decide_eq_true c_18
        refine ml_blk 2 (S' := (61, [(0, .ref m0), (1, .int x1), (2, .int x2)], [.int 21, .int x2], M)) rfl ?_
        have J_82 : ((2 : Int) ≤ nn) → ml (mT g) d (mb_228 g).2 (82, [(0, .ref m0), (1, .int x1), (2, .int x2)], [], M) (fun v M' => (∃ x : Int32, v = some (.int x) ∧ (x = 0 ∨ x = 1)) ∧ M' = M) := by
          intro hj_82
          refine ml_blk 2 (S' := (85, [(0, .ref m0), (1, .int x1), (2, .int x2)], [.int 54, .int x2], M)) rfl ?_
          refine ml_if2 (S1 := (95, [(0, .ref m0), (1, .int x1), (2, .int x2)], [], M)) (S2 := (88, [(0, .ref m0), (1, .int x1), (2, .int x2)], [], M)) rfl rfl rfl (fun c_85 => ?_) (fun c_85 => ?_)
          · have c_85 : x2 < 54 := of_decide_eq_true c_85
            refine ml_blk 3 (S' := (99, [(0, .ref m0), (1, .int x1)], [.int (x2 - 21)], M)) rfl ?_
            refine ml_st (S' := (100, [(3, .int (x2 - 21)), (0, .ref m0), (1, .int x1)], [], M)) rfl rfl rfl ?_
            refine ml_blk 3 (S' := (103, [(3, .int (x2 - 21)), (0, .ref m0), (1, .int x1)], [.int x1, .ref m0, .ref m0], M)) rfl ?_
            refine ml_blk 2 (S' := (105, [(3, .int (x2 - 21)), (0, .ref m0), (1, .int x1)], [.int (x1 + 1), .ref m0, .ref m0], M)) rfl ?_
            refine ml_call (a := [.ref m0, .int (x1 + 1)]) (rest := [.ref m0]) rfl (hR.okc rfl rfl rfl) rfl rfl (rm_b1 hR hF hC (by omega) (by omega) (by omega)) (fun v19 M20 h21 => ?_)
            obtain ⟨rfl, h21⟩ := h21
            rw [h21]
            show ml _ _ _ (108, [(3, .int (x2 - 21)), (0, .ref m0), (1, .int x1)], [.int (f1 f (ca + (x1 + 1))), .ref m0], M) _
            refine ml_blk 2 (S' := (110, [(3, .int (x2 - 21)), (0, .ref m0), (1, .int x1)], [.int 1, .int (x2 - 21), .int (f1 f (ca + (x1 + 1))), .ref m0], M)) rfl ?_
            refine ml_if2 (S1 := (118, [], [.int (f1 f (ca + (x1 + 1))), .ref m0], M)) (S2 := (113, [(3, .int (x2 - 21)), (0, .ref m0), (1, .int x1)], [.int (f1 f (ca + (x1 + 1))), .ref m0], M)) rfl rfl rfl (fun c_110 => ?_) (fun c_110 => ?_)
            · have c_110 : (x2 - 21) = 1 := of_decide_eq_true c_110
              refine ml_st (S' := (119, [], [.int 2, .int (f1 f (ca + (x1 + 1))), .ref m0], M)) rfl rfl rfl ?_
              refine ml_st (S' := (123, [], [.int 2, .int (f1 f (ca + (x1 + 1))), .ref m0], M)) rfl rfl rfl ?_
              refine ml_call (a := [.ref m0, .int (f1 f (ca + (x1 + 1))), .int 2]) (rest := []) rfl (hR.okc rfl rfl rfl) rfl rfl (rm_local hR (hk79) (by omega)) (fun v22 M23 h24 => ?_)
              obtain ⟨⟨u25, rfl, z26⟩, h24⟩ := h24
              rw [h24]
              show ml _ _ _ (126, [], [.int u25], M) _
              exact ml_ret rfl (r_z (z26)) (⟨⟨_, rfl, z26⟩, rfl⟩)
            · have c_110 : ¬ ((x2 - 21) = 1) := of_decide_eq_false c_110
              refine ml_blk 2 (S' := (115, [(3, .int (x2 - 21)), (0, .ref m0), (1, .int x1)], [.int 3, .int (x2 - 21), .int (f1 f (ca + (x1 + 1))), .ref m0], M)) rfl ?_
              refine ml_if2 (S1 := (122, [(3, .int (x2 - 21)), (0, .ref m0), (1, .int x1)], [.int (f1 f (ca + (x1 + 1))), .ref m0], M)) (S2 := (118, [], [.int (f1 f (ca + (x1 + 1))), .ref m0], M)) rfl rfl rfl (fun c_115 => ?_) (fun c_115 => ?_)
              · have c_115 : ¬ (x2 - 21) = 3 := of_decide_eq_true c_115
                refine ml_st (S' := (123, [], [.int 1, .int (f1 f (ca + (x1 + 1))), .ref m0], M)) rfl rfl rfl ?_
                refine ml_call (a := [.ref m0, .int (f1 f (ca + (x1 + 1))), .int 1]) (rest := []) rfl (hR.okc rfl rfl rfl) rfl rfl (rm_local hR (hk79) (by omega)) (fun v27 M28 h29 => ?_)
                obtain ⟨⟨u30, rfl, z31⟩, h29⟩ := h29
                rw [h29]
                show ml _ _ _ (126, [], [.int u30], M) _
                exact ml_ret rfl (r_z (z31)) (⟨⟨_, rfl, z31⟩, rfl⟩)
              · have c_115 : ¬ (¬ (x2 - 21) = 3) := of_decide_eq_false c_115
                refine ml_st (S' := (119, [], [.int 2, .int (f1 f (ca + (x1 + 1))), .ref m0], M)) rfl rfl rfl ?_
                refine ml_st (S' := (123, [], [.int 2, .int (f1 f (ca + (x1 + 1))), .ref m0], M)) rfl rfl rfl ?_
                refine ml_call (a := [.ref m0, .int (f1 f (ca + (x1 + 1))), .int 2]) (rest := []) rfl (hR.okc rfl rfl rfl) rfl rfl (rm_local hR (hk79) (by omega)) (fun v32 M33 h34 => ?_)
                obtain ⟨⟨u35, rfl, z36⟩, h34⟩ := h34
                rw [h34]
                show ml _ _ _ (126, [], [.int u35], M) _
                exact ml_ret rfl (r_z (z36)) (⟨⟨_, rfl, z36⟩, rfl⟩)
          · have c_85 : ¬ (x2 < 54) := of_decide_eq_false c_85
            refine ml_blk 3 (S' := (92, [(0, .ref m0), (1, .int x1), (2, .int x2)], [.int (x2 - 54)], M)) rfl ?_
            refine ml_st (S' := (99, [(0, .ref m0), (1, .int x1)], [.int (x2 - 54)], M)) rfl rfl rfl ?_
            refine ml_st (S' := (100, [(3, .int (x2 - 54)), (0, .ref m0), (1, .int x1)], [], M)) rfl rfl rfl ?_
            refine ml_blk 3 (S' := (103, [(3, .int (x2 - 54)), (0, .ref m0), (1, .int x1)], [.int x1, .ref m0, .ref m0], M)) rfl ?_
            refine ml_blk 2 (S' := (105, [(3, .int (x2 - 54)), (0, .ref m0), (1, .int x1)], [.int (x1 + 1), .ref m0, .ref m0], M)) rfl ?_
            refine ml_call (a := [.ref m0, .int (x1 + 1)]) (rest := [.ref m0]) rfl (hR.okc rfl rfl rfl) rfl rfl (rm_b1 hR hF hC (by omega) (by omega) (by omega)) (fun v37 M38 h39 => ?_)
            obtain ⟨rfl, h39⟩ := h39
            rw [h39]
            show ml _ _ _ (108, [(3, .int (x2 - 54)), (0, .ref m0), (1, .int x1)], [.int (f1 f (ca + (x1 + 1))), .ref m0], M) _
            refine ml_blk 2 (S' := (110, [(3, .int (x2 - 54)), (0, .ref m0), (1, .int x1)], [.int 1, .int (x2 - 54), .int (f1 f (ca + (x1 + 1))), .ref m0], M)) rfl ?_
            refine ml_if2 (S1 := (118, [], [.int (f1 f (ca + (x1 + 1))), .ref m0], M)) (S2 := (113, [(3, .int (x2 - 54)), (0, .ref m0), (1, .int x1)], [.int (f1 f (ca + (x1 + 1))), .ref m0], M)) rfl rfl rfl (fun c_110 => ?_) (fun c_110 => ?_)
            · have c_110 : (x2 - 54) = 1 := of_decide_eq_true c_110
              refine ml_st (S' := (119, [], [.int 2, .int (f1 f (ca + (x1 + 1))), .ref m0], M)) rfl rfl rfl ?_
              refine ml_st (S' := (123, [], [.int 2, .int (f1 f (ca + (x1 + 1))), .ref m0], M)) rfl rfl rfl ?_
              refine ml_call (a := [.ref m0, .int (f1 f (ca + (x1 + 1))), .int 2]) (rest := []) rfl (hR.okc rfl rfl rfl) rfl rfl (rm_local hR (hk79) (by omega)) (fun v40 M41 h42 => ?_)
              obtain ⟨⟨u43, rfl, z44⟩, h42⟩ := h42
              rw [h42]
              show ml _ _ _ (126, [], [.int u43], M) _
              exact ml_ret rfl (r_z (z44)) (⟨⟨_, rfl, z44⟩, rfl⟩)
            · have c_110 : ¬ ((x2 - 54) = 1) := of_decide_eq_false c_110
              refine ml_blk 2 (S' := (115, [(3, .int (x2 - 54)), (0, .ref m0), (1, .int x1)], [.int 3, .int (x2 - 54), .int (f1 f (ca + (x1 + 1))), .ref m0], M)) rfl ?_
              refine ml_if2 (S1 := (122, [(3, .int (x2 - 54)), (0, .ref m0), (1, .int x1)], [.int (f1 f (ca + (x1 + 1))), .ref m0], M)) (S2 := (118, [], [.int (f1 f (ca + (x1 + 1))), .ref m0], M)) rfl rfl rfl (fun c_115 => ?_) (fun c_115 => ?_)
              · have c_115 : ¬ (x2 - 54) = 3 := of_decide_eq_true c_115
                refine ml_st (S' := (123, [], [.int 1, .int (f1 f (ca + (x1 + 1))), .ref m0], M)) rfl rfl rfl ?_
                refine ml_call (a := [.ref m0, .int (f1 f (ca + (x1 + 1))), .int 1]) (rest := []) rfl (hR.okc rfl rfl rfl) rfl rfl (rm_local hR (hk79) (by omega)) (fun v45 M46 h47 => ?_)
                obtain ⟨⟨u48, rfl, z49⟩, h47⟩ := h47
                rw [h47]
                show ml _ _ _ (126, [], [.int u48], M) _
                exact ml_ret rfl (r_z (z49)) (⟨⟨_, rfl, z49⟩, rfl⟩)
              · have c_115 : ¬ (¬ (x2 - 54) = 3) := of_decide_eq_false c_115
                refine ml_st (S' := (119, [], [.int 2, .int (f1 f (ca + (x1 + 1))), .ref m0], M)) rfl rfl rfl ?_
                refine ml_st (S' := (123, [], [.int 2, .int (f1 f (ca + (x1 + 1))), .ref m0], M)) rfl rfl rfl ?_
                refine ml_call (a := [.ref m0, .int (f1 f (ca + (x1 + 1))), .int 2]) (rest := []) rfl (hR.okc rfl rfl rfl) rfl rfl (rm_local hR (hk79) (by omega)) (fun v50 M51 h52 => ?_)
                obtain ⟨⟨u53, rfl, z54⟩, h52⟩ := h52
                rw [h52]
                show ml _ _ _ (126, [], [.int u53], M) _
                exact ml_ret rfl (r_z (z54)) (⟨⟨_, rfl, z54⟩, rfl⟩)
        have J_70 : ml (mT g) d (mb_228 g).2 (70, [(0, .ref m0), (1, .int x1), (2, .int x2)], [], M) (fun v M' => (∃ x : Int32, v = some (.int x) ∧ (x = 0 ∨ x = 1)) ∧ M' = M) := by
          refine ml_blk 2 (S' := (73, [(0, .ref m0), (1, .int x1), (2, .int x2)], [.int 54, .int x2], M)) rfl ?_
          have J_127 : ml (mT g) d (mb_228 g).2 (127, [(0, .ref m0), (1, .int x1), (2, .int x2)], [], M) (fun v M' => (∃ x : Int32, v = some (.int x) ∧ (x = 0 ∨ x = 1)) ∧ M' = M) := by
            refine ml_blk 2 (S' := (130, [(0, .ref m0), (1, .int x1), (2, .int x2)], [.int 26, .int x2], M)) rfl ?_
            have J_151 : ml (mT g) d (mb_228 g).2 (151, [(0, .ref m0), (2, .int x2)], [], M) (fun v M' => (∃ x : Int32, v = some (.int x) ∧ (x = 0 ∨ x = 1)) ∧ M' = M) := by
              refine ml_blk 2 (S' := (154, [(0, .ref m0), (2, .int x2)], [.int 59, .int x2], M)) rfl ?_
              refine ml_if2 (S1 := (164, [(0, .ref m0), (2, .int x2)], [], M)) (S2 := (157, [(0, .ref m0), (2, .int x2)], [], M)) rfl rfl rfl (fun c_154 => ?_) (fun c_154 => ?_)
              · have c_154 : x2 < 59 := of_decide_eq_true c_154
                refine ml_blk 3 (S' := (168, [(0, .ref m0)], [.int (x2 - 26)], M)) rfl ?_
                refine ml_st (S' := (169, [(3, .int (x2 - 26)), (0, .ref m0)], [], M)) rfl rfl rfl ?_
                refine ml_blk 3 (S' := (172, [(3, .int (x2 - 26)), (0, .ref m0)], [.int 4, .int (x2 - 26), .ref m0], M)) rfl ?_
                refine ml_blk 3 (S' := (175, [(3, .int (x2 - 26)), (0, .ref m0)], [.int 4, .int (x2 - 26), .int ((x2 - 26) - (x2 - 26) / 4 * 4), .ref m0], M)) rfl ?_
                refine ml_blk 2 (S' := (177, [(3, .int (x2 - 26)), (0, .ref m0)], [.int 1, .int ((x2 - 26) / 4), .int ((x2 - 26) - (x2 - 26) / 4 * 4), .ref m0], M)) rfl ?_
                refine ml_if2 (S1 := (187, [], [.int ((x2 - 26) - (x2 - 26) / 4 * 4), .ref m0], M)) (S2 := (180, [(3, .int (x2 - 26)), (0, .ref m0)], [.int ((x2 - 26) - (x2 - 26) / 4 * 4), .ref m0], M)) rfl rfl rfl (fun c_177 => ?_) (fun c_177 => ?_)
                · have c_177 : ((x2 - 26) / 4) = 1 := of_decide_eq_true c_177
                  refine ml_st (S' := (188, [], [.int 2, .int ((x2 - 26) - (x2 - 26) / 4 * 4), .ref m0], M)) rfl rfl rfl ?_
                  refine ml_st (S' := (192, [], [.int 2, .int ((x2 - 26) - (x2 - 26) / 4 * 4), .ref m0], M)) rfl rfl rfl ?_
                  refine ml_call (a := [.ref m0, .int ((x2 - 26) - (x2 - 26) / 4 * 4), .int 2]) (rest := []) rfl (hR.okc rfl rfl rfl) rfl rfl (rm_local hR (hk79) (by omega)) (fun v55 M56 h57 => ?_)
                  obtain ⟨⟨u58, rfl, z59⟩, h57⟩ := h57
                  rw [h57]
                  show ml _ _ _ (195, [], [.int u58], M) _
                  exact ml_ret rfl (r_z (z59)) (⟨⟨_, rfl, z59⟩, rfl⟩)
                · have c_177 : ¬ (((x2 - 26) / 4) = 1) := of_decide_eq_false c_177
                  refine ml_blk 2 (S' := (182, [(3, .int (x2 - 26)), (0, .ref m0)], [.int 4, .int (x2 - 26), .int ((x2 - 26) - (x2 - 26) / 4 * 4), .ref m0], M)) rfl ?_
                  refine ml_blk 2 (S' := (184, [(3, .int (x2 - 26)), (0, .ref m0)], [.int 3, .int ((x2 - 26) / 4), .int ((x2 - 26) - (x2 - 26) / 4 * 4), .ref m0], M)) rfl ?_
                  refine ml_if2 (S1 := (191, [(3, .int (x2 - 26)), (0, .ref m0)], [.int ((x2 - 26) - (x2 - 26) / 4 * 4), .ref m0], M)) (S2 := (187, [], [.int ((x2 - 26) - (x2 - 26) / 4 * 4), .ref m0], M)) rfl rfl rfl (fun c_184 => ?_) (fun c_184 => ?_)
                  · have c_184 : ¬ ((x2 - 26) / 4) = 3 := of_decide_eq_true c_184
                    refine ml_st (S' := (192, [], [.int 1, .int ((x2 - 26) - (x2 - 26) / 4 * 4), .ref m0], M)) rfl rfl rfl ?_
                    refine ml_call (a := [.ref m0, .int ((x2 - 26) - (x2 - 26) / 4 * 4), .int 1]) (rest := []) rfl (hR.okc rfl rfl rfl) rfl rfl (rm_local hR (hk79) (by omega)) (fun v60 M61 h62 => ?_)
                    obtain ⟨⟨u63, rfl, z64⟩, h62⟩ := h62
                    rw [h62]
                    show ml _ _ _ (195, [], [.int u63], M) _
                    exact ml_ret rfl (r_z (z64)) (⟨⟨_, rfl, z64⟩, rfl⟩)
                  · have c_184 : ¬ (¬ ((x2 - 26) / 4) = 3) := of_decide_eq_false c_184
                    refine ml_st (S' := (188, [], [.int 2, .int ((x2 - 26) - (x2 - 26) / 4 * 4), .ref m0], M)) rfl rfl rfl ?_
                    refine ml_st (S' := (192, [], [.int 2, .int ((x2 - 26) - (x2 - 26) / 4 * 4), .ref m0], M)) rfl rfl rfl ?_
                    refine ml_call (a := [.ref m0, .int ((x2 - 26) - (x2 - 26) / 4 * 4), .int 2]) (rest := []) rfl (hR.okc rfl rfl rfl) rfl rfl (rm_local hR (hk79) (by omega)) (fun v65 M66 h67 => ?_)
                    obtain ⟨⟨u68, rfl, z69⟩, h67⟩ := h67
                    rw [h67]
                    show ml _ _ _ (195, [], [.int u68], M) _
                    exact ml_ret rfl (r_z (z69)) (⟨⟨_, rfl, z69⟩, rfl⟩)
              · have c_154 : ¬ (x2 < 59) := of_decide_eq_false c_154
                refine ml_blk 3 (S' := (161, [(0, .ref m0), (2, .int x2)], [.int (x2 - 59)], M)) rfl ?_
                refine ml_st (S' := (168, [(0, .ref m0)], [.int (x2 - 59)], M)) rfl rfl rfl ?_
                refine ml_st (S' := (169, [(3, .int (x2 - 59)), (0, .ref m0)], [], M)) rfl rfl rfl ?_
                refine ml_blk 3 (S' := (172, [(3, .int (x2 - 59)), (0, .ref m0)], [.int 4, .int (x2 - 59), .ref m0], M)) rfl ?_
                refine ml_blk 3 (S' := (175, [(3, .int (x2 - 59)), (0, .ref m0)], [.int 4, .int (x2 - 59), .int ((x2 - 59) - (x2 - 59) / 4 * 4), .ref m0], M)) rfl ?_
                refine ml_blk 2 (S' := (177, [(3, .int (x2 - 59)), (0, .ref m0)], [.int 1, .int ((x2 - 59) / 4), .int ((x2 - 59) - (x2 - 59) / 4 * 4), .ref m0], M)) rfl ?_
                refine ml_if2 (S1 := (187, [], [.int ((x2 - 59) - (x2 - 59) / 4 * 4), .ref m0], M)) (S2 := (180, [(3, .int (x2 - 59)), (0, .ref m0)], [.int ((x2 - 59) - (x2 - 59) / 4 * 4), .ref m0], M)) rfl rfl rfl (fun c_177 => ?_) (fun c_177 => ?_)
                · have c_177 : ((x2 - 59) / 4) = 1 := of_decide_eq_true c_177
                  refine ml_st (S' := (188, [], [.int 2, .int ((x2 - 59) - (x2 - 59) / 4 * 4), .ref m0], M)) rfl rfl rfl ?_
                  refine ml_st (S' := (192, [], [.int 2, .int ((x2 - 59) - (x2 - 59) / 4 * 4), .ref m0], M)) rfl rfl rfl ?_
                  refine ml_call (a := [.ref m0, .int ((x2 - 59) - (x2 - 59) / 4 * 4), .int 2]) (rest := []) rfl (hR.okc rfl rfl rfl) rfl rfl (rm_local hR (hk79) (by omega)) (fun v70 M71 h72 => ?_)
                  obtain ⟨⟨u73, rfl, z74⟩, h72⟩ := h72
                  rw [h72]
                  show ml _ _ _ (195, [], [.int u73], M) _
                  exact ml_ret rfl (r_z (z74)) (⟨⟨_, rfl, z74⟩, rfl⟩)
                · have c_177 : ¬ (((x2 - 59) / 4) = 1) := of_decide_eq_false c_177
                  refine ml_blk 2 (S' := (182, [(3, .int (x2 - 59)), (0, .ref m0)], [.int 4, .int (x2 - 59), .int ((x2 - 59) - (x2 - 59) / 4 * 4), .ref m0], M)) rfl ?_
                  refine ml_blk 2 (S' := (184, [(3, .int (x2 - 59)), (0, .ref m0)], [.int 3, .int ((x2 - 59) / 4), .int ((x2 - 59) - (x2 - 59) / 4 * 4), .ref m0], M)) rfl ?_
                  refine ml_if2 (S1 := (191, [(3, .int (x2 - 59)), (0, .ref m0)], [.int ((x2 - 59) - (x2 - 59) / 4 * 4), .ref m0], M)) (S2 := (187, [], [.int ((x2 - 59) - (x2 - 59) / 4 * 4), .ref m0], M)) rfl rfl rfl (fun c_184 => ?_) (fun c_184 => ?_)
                  · have c_184 : ¬ ((x2 - 59) / 4) = 3 := of_decide_eq_true c_184
                    refine ml_st (S' := (192, [], [.int 1, .int ((x2 - 59) - (x2 - 59) / 4 * 4), .ref m0], M)) rfl rfl rfl ?_
                    refine ml_call (a := [.ref m0, .int ((x2 - 59) - (x2 - 59) / 4 * 4), .int 1]) (rest := []) rfl (hR.okc rfl rfl rfl) rfl rfl (rm_local hR (hk79) (by omega)) (fun v75 M76 h77 => ?_)
                    obtain ⟨⟨u78, rfl, z79⟩, h77⟩ := h77
                    rw [h77]
                    show ml _ _ _ (195, [], [.int u78], M) _
                    exact ml_ret rfl (r_z (z79)) (⟨⟨_, rfl, z79⟩, rfl⟩)
                  · have c_184 : ¬ (¬ ((x2 - 59) / 4) = 3) := of_decide_eq_false c_184
                    refine ml_st (S' := (188, [], [.int 2, .int ((x2 - 59) - (x2 - 59) / 4 * 4), .ref m0], M)) rfl rfl rfl ?_
                    refine ml_st (S' := (192, [], [.int 2, .int ((x2 - 59) - (x2 - 59) / 4 * 4), .ref m0], M)) rfl rfl rfl ?_
                    refine ml_call (a := [.ref m0, .int ((x2 - 59) - (x2 - 59) / 4 * 4), .int 2]) (rest := []) rfl (hR.okc rfl rfl rfl) rfl rfl (rm_local hR (hk79) (by omega)) (fun v80 M81 h82 => ?_)
                    obtain ⟨⟨u83, rfl, z84⟩, h82⟩ := h82
                    rw [h82]
                    show ml _ _ _ (195, [], [.int u83], M) _
                    exact ml_ret rfl (r_z (z84)) (⟨⟨_, rfl, z84⟩, rfl⟩)
            have J_139 : ml (mT g) d (mb_228 g).2 (139, [(0, .ref m0), (1, .int x1), (2, .int x2)], [], M) (fun v M' => (∃ x : Int32, v = some (.int x) ∧ (x = 0 ∨ x = 1)) ∧ M' = M) := by
              refine ml_blk 2 (S' := (142, [(0, .ref m0), (1, .int x1), (2, .int x2)], [.int 59, .int x2], M)) rfl ?_
              have J_196 : ml (mT g) d (mb_228 g).2 (196, [(0, .ref m0), (1, .int x1), (2, .int x2)], [], M) (fun v M' => (∃ x : Int32, v = some (.int x) ∧ (x = 0 ∨ x = 1)) ∧ M' = M) := by
                refine ml_blk 2 (S' := (200, [(0, .ref m0), (1, .int x1), (2, .int x2)], [.int 132, .int x2], M)) rfl ?_
                refine ml_if2 (S1 := (216, [(0, .ref m0), (1, .int x1), (2, .int x2)], [], M)) (S2 := (203, [(0, .ref m0), (1, .int x1), (2, .int x2)], [], M)) rfl rfl rfl (fun c_200 => ?_) (fun c_200 => ?_)
                · have c_200 : ¬ x2 = 132 := of_decide_eq_true c_200
                  refine ml_blk 2 (S' := (220, [(0, .ref m0), (1, .int x1), (2, .int x2)], [.int 196, .int x2], M)) rfl ?_
                  refine ml_if2 (S1 := (296, [(0, .ref m0), (1, .int x1), (2, .int x2)], [], M)) (S2 := (223, [(0, .ref m0), (1, .int x1), (2, .int x2)], [], M)) rfl rfl rfl (fun c_220 => ?_) (fun c_220 => ?_)
                  · have c_220 : ¬ x2 = 196 := of_decide_eq_true c_220
                    refine ml_blk 2 (S' := (300, [(0, .ref m0), (1, .int x1), (2, .int x2)], [.int 188, .int x2], M)) rfl ?_
                    refine ml_if2 (S1 := (332, [(0, .ref m0), (1, .int x1), (2, .int x2)], [], M)) (S2 := (303, [(0, .ref m0), (1, .int x1), (2, .int x2)], [], M)) rfl rfl rfl (fun c_300 => ?_) (fun c_300 => ?_)
                    · have c_300 : ¬ x2 = 188 := of_decide_eq_true c_300
                      refine ml_blk 2 (S' := (335, [(0, .ref m0), (1, .int x1), (2, .int x2)], [.int 18, .int x2], M)) rfl ?_
                      have J_513 : ml (mT g) d (mb_228 g).2 (513, [(0, .ref m0), (1, .int x1), (2, .int x2)], [], M) (fun v M' => (∃ x : Int32, v = some (.int x) ∧ (x = 0 ∨ x = 1)) ∧ M' = M) := by
                        refine ml_blk 2 (S' := (517, [(0, .ref m0), (1, .int x1), (2, .int x2)], [.int 178, .int x2], M)) rfl ?_
                        have J_549 : ml (mT g) d (mb_228 g).2 (549, [(0, .ref m0), (1, .int x1), (2, .int x2)], [], M) (fun v M' => (∃ x : Int32, v = some (.int x) ∧ (x = 0 ∨ x = 1)) ∧ M' = M) := by
                          refine ml_blk 2 (S' := (553, [(0, .ref m0), (1, .int x1), (2, .int x2)], [.int 182, .int x2], M)) rfl ?_
                          have J_692 : ml (mT g) d (mb_228 g).2 (692, [(0, .ref m0), (1, .int x1), (2, .int x2)], [], M) (fun v M' => (∃ x : Int32, v = some (.int x) ∧ (x = 0 ∨ x = 1)) ∧ M' = M) := by
                            refine ml_blk 2 (S' := (696, [(0, .ref m0), (1, .int x1), (2, .int x2)], [.int 186, .int x2], M)) rfl ?_
                            refine ml_if2 (S1 := (741, [(0, .ref m0), (1, .int x1), (2, .int x2)], [], M)) (S2 := (699, [(0, .ref m0), (1, .int x1), (2, .int x2)], [], M)) rfl rfl rfl (fun c_696 => ?_) (fun c_696 => ?_)
                            · have c_696 : ¬ x2 = 186 := of_decide_eq_true c_696
                              refine ml_blk 2 (S' := (745, [(0, .ref m0), (1, .int x1), (2, .int x2)], [.int 187, .int x2], M)) rfl ?_
                              have J_776 : ((3 : Int) ≤ nn) → ml (mT g) d (mb_228 g).2 (776, [(0, .ref m0), (1, .int x1), (2, .int x2)], [], M) (fun v M' => (∃ x : Int32, v = some (.int x) ∧ (x = 0 ∨ x = 1)) ∧ M' = M) := by
                                intro hj_776
                                refine ml_blk 3 (S' := (779, [(0, .ref m0), (1, .int x1), (2, .int x2)], [.int 1, .int x1, .ref m0], M)) rfl ?_
                                refine ml_st (S' := (780, [(0, .ref m0), (1, .int x1), (2, .int x2)], [.int (x1 + 1), .ref m0], M)) rfl rfl rfl ?_
                                refine ml_call (a := [.ref m0, .int (x1 + 1)]) (rest := []) rfl (hR.okc rfl rfl rfl) rfl rfl (rm_b2 hR hF hC (by omega) (by omega) (by omega)) (fun v85 M86 h87 => ?_)
                                obtain ⟨rfl, h87⟩ := h87
                                rw [h87]
                                show ml _ _ _ (783, [(0, .ref m0), (1, .int x1), (2, .int x2)], [.int (f2 f (ca + (x1 + 1)))], M) _
                                refine ml_st (S' := (784, [(3, .int (f2 f (ca + (x1 + 1)))), (0, .ref m0), (1, .int x1), (2, .int x2)], [], M)) rfl rfl rfl ?_
                                refine ml_blk 2 (S' := (786, [(3, .int (f2 f (ca + (x1 + 1)))), (0, .ref m0), (1, .int x1), (2, .int x2)], [.int (f2 f (ca + (x1 + 1))), .ref m0], M)) rfl ?_
                                refine ml_call (a := [.ref m0, .int (f2 f (ca + (x1 + 1)))]) (rest := []) rfl (hR.okc rfl rfl rfl) rfl rfl (rm_tag hR hF hP (by omega)) (fun v88 M89 h90 => ?_)
                                obtain ⟨rfl, h90⟩ := h90
                                rw [h90]
                                show ml _ _ _ (789, [(3, .int (f2 f (ca + (x1 + 1)))), (0, .ref m0), (1, .int x1), (2, .int x2)], [.int (tgf f cp pa (f2 f (ca + (x1 + 1))))], M) _
                                refine ml_st (S' := (791, [(3, .int (f2 f (ca + (x1 + 1)))), (0, .ref m0), (1, .int x1), (2, .int x2)], [.int 7, .int (tgf f cp pa (f2 f (ca + (x1 + 1))))], M)) rfl rfl rfl ?_
                                refine ml_if2 (S1 := (796, [(3, .int (f2 f (ca + (x1 + 1)))), (0, .ref m0), (1, .int x1), (2, .int x2)], [], M)) (S2 := (794, [(3, .int (f2 f (ca + (x1 + 1)))), (0, .ref m0), (1, .int x1), (2, .int x2)], [], M)) rfl rfl rfl (fun c_791 => ?_) (fun c_791 => ?_)
                                · have c_791 : (tgf f cp pa (f2 f (ca + (x1 + 1)))) = 7 := of_decide_eq_true c_791
                                  have t7h : tgf f cp pa (f2 f (ca + (x1 + 1))) = 7 := c_791
                                  have hE7 := hE (f2 f (ca + (x1 + 1))) (by rw [t7h]; decide)
                                  have h7i := hE7.1.1 (Or.inl t7h)
                                  have hy7 := hP.y h7i
                                  refine ml_blk 2 (S' := (798, [(3, .int (f2 f (ca + (x1 + 1)))), (0, .ref m0), (1, .int x1), (2, .int x2)], [.int (f2 f (ca + (x1 + 1))), .ref m0], M)) rfl ?_
                                  refine ml_call (a := [.ref m0, .int (f2 f (ca + (x1 + 1)))]) (rest := []) rfl (hR.okc rfl rfl rfl) rfl rfl (rm_className hR hF hP (t7h) (h7i) (by omega)) (fun v91 M92 h93 => ?_)
                                  obtain ⟨rfl, h93⟩ := h93
                                  rw [h93]
                                  show ml _ _ _ (801, [(3, .int (f2 f (ca + (x1 + 1)))), (0, .ref m0), (1, .int x1), (2, .int x2)], [.int (pyf py (ixf f pa (f2 f (ca + (x1 + 1))) 1))], M) _
                                  refine ml_st (S' := (803, [(4, .int (pyf py (ixf f pa (f2 f (ca + (x1 + 1))) 1))), (3, .int (f2 f (ca + (x1 + 1)))), (0, .ref m0), (1, .int x1), (2, .int x2)], [], M)) rfl rfl rfl ?_
                                  refine ml_st (S' := (804, [(4, .int (pyf py (ixf f pa (f2 f (ca + (x1 + 1))) 1))), (3, .int (f2 f (ca + (x1 + 1)))), (0, .ref m0), (1, .int x1), (2, .int x2)], [.int 0], M)) rfl rfl rfl ?_
                                  refine ml_st (S' := (806, [(0, .ref m0), (1, .int x1), (2, .int x2), (4, .int (pyf py (ixf f pa (f2 f (ca + (x1 + 1))) 1))), (5, .int 0)], [], M)) rfl rfl rfl ?_
                                  have L_806 : ∀ (n_806 : Nat) (i806_5 : Int32), (2147483648 - i806_5.toInt).toNat ≤ n_806 → 0 ≤ i806_5.toInt → ml (mT g) d (mb_228 g).2 (806, [(0, .ref m0), (1, .int x1), (2, .int x2), (4, .int (pyf py (ixf f pa (f2 f (ca + (x1 + 1))) 1))), (5, .int i806_5)], [], M) (fun v M' => (∃ x : Int32, v = some (.int x) ∧ (x = 0 ∨ x = 1)) ∧ M' = M) := by
                                    intro n_806
                                    induction n_806 with
                                    | zero => intro i806_5 hn; exact (loop_zero hn).elim
                                    | succ n_806 ih_806 =>
                                      intro i806_5 hn_806 hi_806
                                      refine ml_blk 3 (S' := (811, [(0, .ref m0), (1, .int x1), (2, .int x2), (4, .int (pyf py (ixf f pa (f2 f (ca + (x1 + 1))) 1))), (5, .int i806_5)], [.int (pyf py (ixf f pa (f2 f (ca + (x1 + 1))) 1)), .ref m0, .int i806_5], M)) rfl ?_
                                      refine ml_call (a := [.ref m0, .int (pyf py (ixf f pa (f2 f (ca + (x1 + 1))) 1))]) (rest := [.int i806_5]) rfl (hR.okc rfl rfl rfl) rfl rfl (rm_length hR hY (hy7.2.2.1) (hy7.2.2.2) (by omega)) (fun v94 M95 h96 => ?_)
                                      obtain ⟨rfl, h96⟩ := h96
                                      rw [h96]
                                      show ml _ _ _ (814, [(0, .ref m0), (1, .int x1), (2, .int x2), (4, .int (pyf py (ixf f pa (f2 f (ca + (x1 + 1))) 1))), (5, .int i806_5)], [.int (sL sl (pyf py (ixf f pa (f2 f (ca + (x1 + 1))) 1))), .int i806_5], M) _
                                      have J_836 : ml (mT g) d (mb_228 g).2 (836, [(0, .ref m0), (1, .int x1), (2, .int x2), (5, .int i806_5)], [], M) (fun v M' => (∃ x : Int32, v = some (.int x) ∧ (x = 0 ∨ x = 1)) ∧ M' = M) := by
                                        refine ml_blk 2 (S' := (840, [(0, .ref m0), (1, .int x1), (2, .int x2), (5, .int i806_5)], [.int 187, .int x2], M)) rfl ?_
                                        refine ml_if2 (S1 := (854, [(0, .ref m0), (1, .int x1), (2, .int x2), (5, .int i806_5)], [], M)) (S2 := (843, [(0, .ref m0), (1, .int x1), (2, .int x2), (5, .int i806_5)], [], M)) rfl rfl rfl (fun c_840 => ?_) (fun c_840 => ?_)
                                        · have c_840 : ¬ x2 = 187 := of_decide_eq_true c_840
                                          refine ml_blk 2 (S' := (858, [(0, .ref m0), (1, .int x1), (2, .int x2), (5, .int i806_5)], [.int 189, .int x2], M)) rfl ?_
                                          refine ml_if2 (S1 := (875, [(0, .ref m0), (1, .int x1), (2, .int x2), (5, .int i806_5)], [], M)) (S2 := (861, [(0, .ref m0), (1, .int x1), (2, .int x2), (5, .int i806_5)], [], M)) rfl rfl rfl (fun c_858 => ?_) (fun c_858 => ?_)
                                          · have c_858 : ¬ x2 = 189 := of_decide_eq_true c_858
                                            refine ml_blk 2 (S' := (879, [(0, .ref m0), (1, .int x1), (2, .int x2), (5, .int i806_5)], [.int 197, .int x2], M)) rfl ?_
                                            refine ml_if2 (S1 := (905, [], [], M)) (S2 := (882, [(0, .ref m0), (1, .int x1), (2, .int x2), (5, .int i806_5)], [], M)) rfl rfl rfl (fun c_879 => ?_) (fun c_879 => ?_)
                                            · have c_879 : ¬ x2 = 197 := of_decide_eq_true c_879
                                              refine ml_st (S' := (906, [], [.int 1], M)) rfl rfl rfl ?_
                                              refine ml_st (S' := (910, [], [.int 1], M)) rfl rfl rfl ?_
                                              exact ml_ret rfl (r_z (Or.inr rfl)) (⟨⟨_, rfl, Or.inr rfl⟩, rfl⟩)
                                            · have c_879 : ¬ (¬ x2 = 197) := of_decide_eq_false c_879
                                              have h4 : (4 : Int) ≤ nn := iln 4 hln 197 197 (by rw [show _ = (197 : Int32) from Decidable.not_not.mp c_879]; decide) (by rw [show _ = (197 : Int32) from Decidable.not_not.mp c_879]; decide) mlk_4_197_197
                                              refine ml_blk 3 (S' := (885, [(0, .ref m0), (1, .int x1), (2, .int x2), (5, .int i806_5)], [.int 3, .int x1, .ref m0], M)) rfl ?_
                                              refine ml_st (S' := (886, [(0, .ref m0), (1, .int x1), (2, .int x2), (5, .int i806_5)], [.int (x1 + 3), .ref m0], M)) rfl rfl rfl ?_
                                              refine ml_call (a := [.ref m0, .int (x1 + 3)]) (rest := []) rfl (hR.okc rfl rfl rfl) rfl rfl (rm_b1 hR hF hC (by omega) (by omega) (by omega)) (fun v97 M98 h99 => ?_)
                                              obtain ⟨rfl, h99⟩ := h99
                                              rw [h99]
                                              show ml _ _ _ (889, [(0, .ref m0), (1, .int x1), (2, .int x2), (5, .int i806_5)], [.int (f1 f (ca + (x1 + 3)))], M) _
                                              refine ml_st (S' := (890, [(0, .ref m0), (1, .int x1), (2, .int x2), (5, .int i806_5)], [.int 1, .int (f1 f (ca + (x1 + 3)))], M)) rfl rfl rfl ?_
                                              refine ml_if2 (S1 := (909, [], [], M)) (S2 := (893, [(0, .ref m0), (1, .int x1), (2, .int x2), (5, .int i806_5)], [], M)) rfl rfl rfl (fun c_890 => ?_) (fun c_890 => ?_)
                                              · have c_890 : (f1 f (ca + (x1 + 3))) < 1 := of_decide_eq_true c_890
                                                refine ml_st (S' := (910, [], [.int 0], M)) rfl rfl rfl ?_
                                                exact ml_ret rfl (r_z (Or.inl rfl)) (⟨⟨_, rfl, Or.inl rfl⟩, rfl⟩)
                                              · have c_890 : ¬ ((f1 f (ca + (x1 + 3))) < 1) := of_decide_eq_false c_890
                                                refine ml_blk 3 (S' := (896, [(0, .ref m0), (1, .int x1), (2, .int x2), (5, .int i806_5)], [.int 3, .int x1, .ref m0], M)) rfl ?_
                                                refine ml_st (S' := (897, [(0, .ref m0), (1, .int x1), (2, .int x2), (5, .int i806_5)], [.int (x1 + 3), .ref m0], M)) rfl rfl rfl ?_
                                                refine ml_call (a := [.ref m0, .int (x1 + 3)]) (rest := []) rfl (hR.okc rfl rfl rfl) rfl rfl (rm_b1 hR hF hC (by omega) (by omega) (by omega)) (fun v100 M101 h102 => ?_)
                                                obtain ⟨rfl, h102⟩ := h102
                                                rw [h102]
                                                show ml _ _ _ (900, [(0, .ref m0), (1, .int x1), (2, .int x2), (5, .int i806_5)], [.int (f1 f (ca + (x1 + 3)))], M) _
                                                refine ml_st (S' := (902, [(0, .ref m0), (1, .int x1), (2, .int x2), (5, .int i806_5)], [.int i806_5, .int (f1 f (ca + (x1 + 3)))], M)) rfl rfl rfl ?_
                                                refine ml_if2 (S1 := (909, [], [], M)) (S2 := (905, [], [], M)) rfl rfl rfl (fun c_902 => ?_) (fun c_902 => ?_)
                                                · have c_902 : i806_5 < (f1 f (ca + (x1 + 3))) := of_decide_eq_true c_902
                                                  refine ml_st (S' := (910, [], [.int 0], M)) rfl rfl rfl ?_
                                                  exact ml_ret rfl (r_z (Or.inl rfl)) (⟨⟨_, rfl, Or.inl rfl⟩, rfl⟩)
                                                · have c_902 : ¬ (i806_5 < (f1 f (ca + (x1 + 3)))) := of_decide_eq_false c_902
                                                  refine ml_st (S' := (906, [], [.int 1], M)) rfl rfl rfl ?_
                                                  refine ml_st (S' := (910, [], [.int 1], M)) rfl rfl rfl ?_
                                                  exact ml_ret rfl (r_z (Or.inr rfl)) (⟨⟨_, rfl, Or.inr rfl⟩, rfl⟩)
                                          · have c_858 : ¬ (¬ x2 = 189) := of_decide_eq_false c_858
                                            refine ml_blk 2 (S' := (866, [(0, .ref m0), (1, .int x1), (2, .int x2), (5, .int i806_5)], [.int 255, .int i806_5], M)) rfl ?_
                                            refine ml_if2 (S1 := (873, [(0, .ref m0), (1, .int x1), (2, .int x2), (5, .int i806_5)], [], M)) (S2 := (869, [(0, .ref m0), (1, .int x1), (2, .int x2), (5, .int i806_5)], [], M)) rfl rfl rfl (fun c_866 => ?_) (fun c_866 => ?_)
                                            · have c_866 : 255 ≤ i806_5 := of_decide_eq_true c_866
                                              refine ml_st (S' := (874, [], [.int 0], M)) rfl rfl rfl ?_
                                              exact ml_ret rfl (r_z (Or.inl rfl)) (⟨⟨_, rfl, Or.inl rfl⟩, rfl⟩)
                                            · have c_866 : ¬ (255 ≤ i806_5) := of_decide_eq_false c_866
                                              refine ml_st (S' := (870, [(0, .ref m0), (1, .int x1), (2, .int x2), (5, .int i806_5)], [.int 1], M)) rfl rfl rfl ?_
                                              refine ml_st (S' := (874, [], [.int 1], M)) rfl rfl rfl ?_
                                              exact ml_ret rfl (r_z (Or.inr rfl)) (⟨⟨_, rfl, Or.inr rfl⟩, rfl⟩)
                                        · have c_840 : ¬ (¬ x2 = 187) := of_decide_eq_false c_840
                                          refine ml_st (S' := (845, [(0, .ref m0), (1, .int x1), (2, .int x2), (5, .int i806_5)], [.int i806_5], M)) rfl rfl rfl ?_
                                          refine ml_if (S1 := (852, [(0, .ref m0), (1, .int x1), (2, .int x2), (5, .int i806_5)], [], M)) (S2 := (848, [(0, .ref m0), (1, .int x1), (2, .int x2), (5, .int i806_5)], [], M)) rfl rfl rfl (fun c_845 => ?_) (fun c_845 => ?_)
                                          · have c_845 : ¬ i806_5 = 0 := of_decide_eq_true c_845
                                            refine ml_st (S' := (853, [], [.int 0], M)) rfl rfl rfl ?_
                                            exact ml_ret rfl (r_z (Or.inl rfl)) (⟨⟨_, rfl, Or.inl rfl⟩, rfl⟩)
                                          · have c_845 : ¬ (¬ i806_5 = 0) := of_decide_eq_false c_845
                                            refine ml_st (S' := (849, [(0, .ref m0), (1, .int x1), (2, .int x2), (5, .int i806_5)], [.int 1], M)) rfl rfl rfl ?_
                                            refine ml_st (S' := (853, [], [.int 1], M)) rfl rfl rfl ?_
                                            exact ml_ret rfl (r_z (Or.inr rfl)) (⟨⟨_, rfl, Or.inr rfl⟩, rfl⟩)
                                      refine ml_if2 (S1 := (836, [(0, .ref m0), (1, .int x1), (2, .int x2), (5, .int i806_5)], [], M)) (S2 := (817, [(0, .ref m0), (1, .int x1), (2, .int x2), (4, .int (pyf py (ixf f pa (f2 f (ca + (x1 + 1))) 1))), (5, .int i806_5)], [], M)) rfl rfl rfl (fun c_814 => ?_) (fun c_814 => ?_)
                                      · have c_814 : (sL sl (pyf py (ixf f pa (f2 f (ca + (x1 + 1))) 1))) ≤ i806_5 := of_decide_eq_true c_814
                                        exact J_836 
                                      · have c_814 : ¬ ((sL sl (pyf py (ixf f pa (f2 f (ca + (x1 + 1))) 1))) ≤ i806_5) := of_decide_eq_false c_814
                                        refine ml_blk 3 (S' := (822, [(0, .ref m0), (1, .int x1), (2, .int x2), (4, .int (pyf py (ixf f pa (f2 f (ca + (x1 + 1))) 1))), (5, .int i806_5)], [.int i806_5, .int (pyf py (ixf f pa (f2 f (ca + (x1 + 1))) 1)), .ref m0], M)) rfl ?_
                                        refine ml_call (a := [.ref m0, .int (pyf py (ixf f pa (f2 f (ca + (x1 + 1))) 1)), .int i806_5]) (rest := []) rfl (hR.okc rfl rfl rfl) rfl rfl (rm_at hR hY (hy7.2.2.1) (hy7.2.2.2) (hi_806) (i_nle c_814) (by omega)) (fun v103 M104 h105 => ?_)
                                        obtain ⟨rfl, h105⟩ := h105
                                        rw [h105]
                                        show ml _ _ _ (825, [(0, .ref m0), (1, .int x1), (2, .int x2), (4, .int (pyf py (ixf f pa (f2 f (ca + (x1 + 1))) 1))), (5, .int i806_5)], [.int (tx sa ch (pyf py (ixf f pa (f2 f (ca + (x1 + 1))) 1)) i806_5)], M) _
                                        refine ml_st (S' := (827, [(0, .ref m0), (1, .int x1), (2, .int x2), (4, .int (pyf py (ixf f pa (f2 f (ca + (x1 + 1))) 1))), (5, .int i806_5)], [.int 91, .int (tx sa ch (pyf py (ixf f pa (f2 f (ca + (x1 + 1))) 1)) i806_5)], M)) rfl rfl rfl ?_
                                        refine ml_if2 (S1 := (836, [(0, .ref m0), (1, .int x1), (2, .int x2), (5, .int i806_5)], [], M)) (S2 := (830, [(0, .ref m0), (1, .int x1), (2, .int x2), (4, .int (pyf py (ixf f pa (f2 f (ca + (x1 + 1))) 1))), (5, .int i806_5)], [], M)) rfl rfl rfl (fun c_827 => ?_) (fun c_827 => ?_)
                                        · have c_827 : ¬ (tx sa ch (pyf py (ixf f pa (f2 f (ca + (x1 + 1))) 1)) i806_5) = 91 := of_decide_eq_true c_827
                                          exact J_836 
                                        · have c_827 : ¬ (¬ (tx sa ch (pyf py (ixf f pa (f2 f (ca + (x1 + 1))) 1)) i806_5) = 91) := of_decide_eq_false c_827
                                          refine ml_st (S' := (833, [(5, .int (i806_5 + 1)), (0, .ref m0), (1, .int x1), (2, .int x2), (4, .int (pyf py (ixf f pa (f2 f (ca + (x1 + 1))) 1)))], [], M)) rfl rfl rfl ?_
                                          refine ml_st (S' := (806, [(0, .ref m0), (1, .int x1), (2, .int x2), (4, .int (pyf py (ixf f pa (f2 f (ca + (x1 + 1))) 1))), (5, .int (i806_5 + 1))], [], M)) rfl rfl rfl ?_
                                          exact ih_806 (i806_5 + 1) (loop_inc (Int32.not_le.mp c_814) hn_806) (by rw [inc_lt (Int32.not_le.mp c_814)]; omega)
                                  exact L_806 _ 0 (Nat.le_refl _) (by decide)
                                · have c_791 : ¬ ((tgf f cp pa (f2 f (ca + (x1 + 1)))) = 7) := of_decide_eq_false c_791
                                  refine ml_st (S' := (795, [(3, .int (f2 f (ca + (x1 + 1)))), (0, .ref m0), (1, .int x1), (2, .int x2)], [.int 0], M)) rfl rfl rfl ?_
                                  exact ml_ret rfl (r_z (Or.inl rfl)) (⟨⟨_, rfl, Or.inl rfl⟩, rfl⟩)
                              refine ml_if2 (S1 := (776, [(0, .ref m0), (1, .int x1), (2, .int x2)], [], M)) (S2 := (748, [(0, .ref m0), (1, .int x1), (2, .int x2)], [], M)) rfl rfl rfl (fun c_745 => ?_) (fun c_745 => ?_)
                              · have c_745 : x2 = 187 := of_decide_eq_true c_745
                                exact J_776  (iln 3 hln 187 187 (by rw [show _ = (187 : Int32) from c_745]; decide) (by rw [show _ = (187 : Int32) from c_745]; decide) mlk_3_187_187)
                              · have c_745 : ¬ (x2 = 187) := of_decide_eq_false c_745
                                refine ml_blk 2 (S' := (752, [(0, .ref m0), (1, .int x1), (2, .int x2)], [.int 189, .int x2], M)) rfl ?_
                                refine ml_if2 (S1 := (776, [(0, .ref m0), (1, .int x1), (2, .int x2)], [], M)) (S2 := (755, [(0, .ref m0), (1, .int x1), (2, .int x2)], [], M)) rfl rfl rfl (fun c_752 => ?_) (fun c_752 => ?_)
                                · have c_752 : x2 = 189 := of_decide_eq_true c_752
                                  exact J_776  (iln 3 hln 189 189 (by rw [show _ = (189 : Int32) from c_752]; decide) (by rw [show _ = (189 : Int32) from c_752]; decide) mlk_3_189_189)
                                · have c_752 : ¬ (x2 = 189) := of_decide_eq_false c_752
                                  refine ml_blk 2 (S' := (759, [(0, .ref m0), (1, .int x1), (2, .int x2)], [.int 192, .int x2], M)) rfl ?_
                                  refine ml_if2 (S1 := (776, [(0, .ref m0), (1, .int x1), (2, .int x2)], [], M)) (S2 := (762, [(0, .ref m0), (1, .int x1), (2, .int x2)], [], M)) rfl rfl rfl (fun c_759 => ?_) (fun c_759 => ?_)
                                  · have c_759 : x2 = 192 := of_decide_eq_true c_759
                                    exact J_776  (iln 3 hln 192 192 (by rw [show _ = (192 : Int32) from c_759]; decide) (by rw [show _ = (192 : Int32) from c_759]; decide) mlk_3_192_192)
                                  · have c_759 : ¬ (x2 = 192) := of_decide_eq_false c_759
                                    refine ml_blk 2 (S' := (766, [(0, .ref m0), (1, .int x1), (2, .int x2)], [.int 193, .int x2], M)) rfl ?_
                                    refine ml_if2 (S1 := (776, [(0, .ref m0), (1, .int x1), (2, .int x2)], [], M)) (S2 := (769, [(0, .ref m0), (1, .int x1), (2, .int x2)], [], M)) rfl rfl rfl (fun c_766 => ?_) (fun c_766 => ?_)
                                    · have c_766 : x2 = 193 := of_decide_eq_true c_766
                                      exact J_776  (iln 3 hln 193 193 (by rw [show _ = (193 : Int32) from c_766]; decide) (by rw [show _ = (193 : Int32) from c_766]; decide) mlk_3_193_193)
                                    · have c_766 : ¬ (x2 = 193) := of_decide_eq_false c_766
                                      refine ml_blk 2 (S' := (773, [(0, .ref m0), (1, .int x1), (2, .int x2)], [.int 197, .int x2], M)) rfl ?_
                                      refine ml_if2 (S1 := (911, [(0, .ref m0), (1, .int x1), (2, .int x2)], [], M)) (S2 := (776, [(0, .ref m0), (1, .int x1), (2, .int x2)], [], M)) rfl rfl rfl (fun c_773 => ?_) (fun c_773 => ?_)
                                      · have c_773 : ¬ x2 = 197 := of_decide_eq_true c_773
                                        refine ml_st (S' := (912, [(0, .ref m0), (1, .int x1), (2, .int x2)], [.int 1], M)) rfl rfl rfl ?_
                                        exact ml_ret rfl (r_z (Or.inr rfl)) (⟨⟨_, rfl, Or.inr rfl⟩, rfl⟩)
                                      · have c_773 : ¬ (¬ x2 = 197) := of_decide_eq_false c_773
                                        exact J_776  (Int.le_trans (by decide) (iln 4 hln 197 197 (by rw [show _ = (197 : Int32) from Decidable.not_not.mp c_773]; decide) (by rw [show _ = (197 : Int32) from Decidable.not_not.mp c_773]; decide) mlk_4_197_197))
                            · have c_696 : ¬ (¬ x2 = 186) := of_decide_eq_false c_696
                              have h5 : (5 : Int) ≤ nn := iln 5 hln 186 186 (by rw [show _ = (186 : Int32) from Decidable.not_not.mp c_696]; decide) (by rw [show _ = (186 : Int32) from Decidable.not_not.mp c_696]; decide) mlk_5_186_186
                              refine ml_blk 3 (S' := (702, [(0, .ref m0), (1, .int x1), (2, .int x2)], [.int x1, .ref m0, .ref m0], M)) rfl ?_
                              refine ml_blk 2 (S' := (704, [(0, .ref m0), (1, .int x1), (2, .int x2)], [.int (x1 + 1), .ref m0, .ref m0], M)) rfl ?_
                              refine ml_call (a := [.ref m0, .int (x1 + 1)]) (rest := [.ref m0]) rfl (hR.okc rfl rfl rfl) rfl rfl (rm_b2 hR hF hC (by omega) (by omega) (by omega)) (fun v106 M107 h108 => ?_)
                              obtain ⟨rfl, h108⟩ := h108
                              rw [h108]
                              show ml _ _ _ (707, [(0, .ref m0), (1, .int x1), (2, .int x2)], [.int (f2 f (ca + (x1 + 1))), .ref m0], M) _
                              refine ml_call (a := [.ref m0, .int (f2 f (ca + (x1 + 1)))]) (rest := []) rfl (hR.okc rfl rfl rfl) rfl rfl (rm_tag hR hF hP (by omega)) (fun v109 M110 h111 => ?_)
                              obtain ⟨rfl, h111⟩ := h111
                              rw [h111]
                              show ml _ _ _ (710, [(0, .ref m0), (1, .int x1), (2, .int x2)], [.int (tgf f cp pa (f2 f (ca + (x1 + 1))))], M) _
                              refine ml_st (S' := (712, [(0, .ref m0), (1, .int x1), (2, .int x2)], [.int 18, .int (tgf f cp pa (f2 f (ca + (x1 + 1))))], M)) rfl rfl rfl ?_
                              refine ml_if2 (S1 := (739, [], [], M)) (S2 := (715, [(0, .ref m0), (1, .int x1), (2, .int x2)], [], M)) rfl rfl rfl (fun c_712 => ?_) (fun c_712 => ?_)
                              · have c_712 : ¬ (tgf f cp pa (f2 f (ca + (x1 + 1)))) = 18 := of_decide_eq_true c_712
                                refine ml_st (S' := (740, [], [.int 0], M)) rfl rfl rfl ?_
                                exact ml_ret rfl (r_z (Or.inl rfl)) (⟨⟨_, rfl, Or.inl rfl⟩, rfl⟩)
                              · have c_712 : ¬ (¬ (tgf f cp pa (f2 f (ca + (x1 + 1)))) = 18) := of_decide_eq_false c_712
                                refine ml_blk 3 (S' := (718, [(0, .ref m0), (1, .int x1), (2, .int x2)], [.int 3, .int x1, .ref m0], M)) rfl ?_
                                refine ml_st (S' := (719, [(0, .ref m0), (1, .int x1), (2, .int x2)], [.int (x1 + 3), .ref m0], M)) rfl rfl rfl ?_
                                refine ml_call (a := [.ref m0, .int (x1 + 3)]) (rest := []) rfl (hR.okc rfl rfl rfl) rfl rfl (rm_b1 hR hF hC (by omega) (by omega) (by omega)) (fun v112 M113 h114 => ?_)
                                obtain ⟨rfl, h114⟩ := h114
                                rw [h114]
                                show ml _ _ _ (722, [(0, .ref m0), (1, .int x1), (2, .int x2)], [.int (f1 f (ca + (x1 + 3)))], M) _
                                refine ml_if (S1 := (739, [], [], M)) (S2 := (725, [(0, .ref m0), (1, .int x1), (2, .int x2)], [], M)) rfl rfl rfl (fun c_722 => ?_) (fun c_722 => ?_)
                                · have c_722 : ¬ (f1 f (ca + (x1 + 3))) = 0 := of_decide_eq_true c_722
                                  refine ml_st (S' := (740, [], [.int 0], M)) rfl rfl rfl ?_
                                  exact ml_ret rfl (r_z (Or.inl rfl)) (⟨⟨_, rfl, Or.inl rfl⟩, rfl⟩)
                                · have c_722 : ¬ (¬ (f1 f (ca + (x1 + 3))) = 0) := of_decide_eq_false c_722
                                  refine ml_blk 3 (S' := (728, [(0, .ref m0), (1, .int x1), (2, .int x2)], [.int 4, .int x1, .ref m0], M)) rfl ?_
                                  refine ml_st (S' := (729, [(0, .ref m0), (1, .int x1), (2, .int x2)], [.int (x1 + 4), .ref m0], M)) rfl rfl rfl ?_
                                  refine ml_call (a := [.ref m0, .int (x1 + 4)]) (rest := []) rfl (hR.okc rfl rfl rfl) rfl rfl (rm_b1 hR hF hC (by omega) (by omega) (by omega)) (fun v115 M116 h117 => ?_)
                                  obtain ⟨rfl, h117⟩ := h117
                                  rw [h117]
                                  show ml _ _ _ (732, [(0, .ref m0), (1, .int x1), (2, .int x2)], [.int (f1 f (ca + (x1 + 4)))], M) _
                                  refine ml_if (S1 := (739, [], [], M)) (S2 := (735, [(0, .ref m0), (1, .int x1), (2, .int x2)], [], M)) rfl rfl rfl (fun c_732 => ?_) (fun c_732 => ?_)
                                  · have c_732 : ¬ (f1 f (ca + (x1 + 4))) = 0 := of_decide_eq_true c_732
                                    refine ml_st (S' := (740, [], [.int 0], M)) rfl rfl rfl ?_
                                    exact ml_ret rfl (r_z (Or.inl rfl)) (⟨⟨_, rfl, Or.inl rfl⟩, rfl⟩)
                                  · have c_732 : ¬ (¬ (f1 f (ca + (x1 + 4))) = 0) := of_decide_eq_false c_732
                                    refine ml_st (S' := (736, [(0, .ref m0), (1, .int x1), (2, .int x2)], [.int 1], M)) rfl rfl rfl ?_
                                    refine ml_st (S' := (740, [], [.int 1], M)) rfl rfl rfl ?_
                                    exact ml_ret rfl (r_z (Or.inr rfl)) (⟨⟨_, rfl, Or.inr rfl⟩, rfl⟩)
                          refine ml_if2 (S1 := (692, [(0, .ref m0), (1, .int x1), (2, .int x2)], [], M)) (S2 := (556, [(0, .ref m0), (1, .int x1), (2, .int x2)], [], M)) rfl rfl rfl (fun c_553 => ?_) (fun c_553 => ?_)
                          · have c_553 : x2 < 182 := of_decide_eq_true c_553
                            exact J_692 
                          · have c_553 : ¬ (x2 < 182) := of_decide_eq_false c_553
                            refine ml_blk 2 (S' := (560, [(0, .ref m0), (1, .int x1), (2, .int x2)], [.int 185, .int x2], M)) rfl ?_
                            refine ml_if2 (S1 := (692, [(0, .ref m0), (1, .int x1), (2, .int x2)], [], M)) (S2 := (563, [(0, .ref m0), (1, .int x1), (2, .int x2)], [], M)) rfl rfl rfl (fun c_560 => ?_) (fun c_560 => ?_)
                            · have c_560 : 185 < x2 := of_decide_eq_true c_560
                              exact J_692 
                            · have c_560 : ¬ (185 < x2) := of_decide_eq_false c_560
                              have h3 : (3 : Int) ≤ nn := iln 3 hln 182 185 (by have := i_nlt c_553; have : (182 : Int32).toInt = 182 := rfl; omega) (by have := i_nlt c_560; have : (185 : Int32).toInt = 185 := rfl; omega) mlk_3_182_185
                              refine ml_blk 3 (S' := (566, [(0, .ref m0), (1, .int x1), (2, .int x2)], [.int 1, .int x1, .ref m0], M)) rfl ?_
                              refine ml_st (S' := (567, [(0, .ref m0), (1, .int x1), (2, .int x2)], [.int (x1 + 1), .ref m0], M)) rfl rfl rfl ?_
                              refine ml_call (a := [.ref m0, .int (x1 + 1)]) (rest := []) rfl (hR.okc rfl rfl rfl) rfl rfl (rm_b2 hR hF hC (by omega) (by omega) (by omega)) (fun v118 M119 h120 => ?_)
                              obtain ⟨rfl, h120⟩ := h120
                              rw [h120]
                              show ml _ _ _ (570, [(0, .ref m0), (1, .int x1), (2, .int x2)], [.int (f2 f (ca + (x1 + 1)))], M) _
                              refine ml_st (S' := (571, [(3, .int (f2 f (ca + (x1 + 1)))), (0, .ref m0), (1, .int x1), (2, .int x2)], [], M)) rfl rfl rfl ?_
                              refine ml_blk 2 (S' := (573, [(3, .int (f2 f (ca + (x1 + 1)))), (0, .ref m0), (1, .int x1), (2, .int x2)], [.int (f2 f (ca + (x1 + 1))), .ref m0], M)) rfl ?_
                              refine ml_call (a := [.ref m0, .int (f2 f (ca + (x1 + 1)))]) (rest := []) rfl (hR.okc rfl rfl rfl) rfl rfl (rm_tag hR hF hP (by omega)) (fun v121 M122 h123 => ?_)
                              obtain ⟨rfl, h123⟩ := h123
                              rw [h123]
                              show ml _ _ _ (576, [(3, .int (f2 f (ca + (x1 + 1)))), (0, .ref m0), (1, .int x1), (2, .int x2)], [.int (tgf f cp pa (f2 f (ca + (x1 + 1))))], M) _
                              refine ml_st (S' := (578, [(4, .int (tgf f cp pa (f2 f (ca + (x1 + 1))))), (3, .int (f2 f (ca + (x1 + 1)))), (0, .ref m0), (1, .int x1), (2, .int x2)], [], M)) rfl rfl rfl ?_
                              refine ml_blk 2 (S' := (582, [(4, .int (tgf f cp pa (f2 f (ca + (x1 + 1))))), (3, .int (f2 f (ca + (x1 + 1)))), (0, .ref m0), (1, .int x1), (2, .int x2)], [.int 185, .int x2], M)) rfl ?_
                              have J_627 : (tgf f cp pa (f2 f (ca + (x1 + 1))) = 10 ∨ tgf f cp pa (f2 f (ca + (x1 + 1))) = 11) → ml (mT g) d (mb_228 g).2 (627, [(0, .ref m0), (1, .int x1), (2, .int x2), (3, .int (f2 f (ca + (x1 + 1))))], [], M) (fun v M' => (∃ x : Int32, v = some (.int x) ∧ (x = 0 ∨ x = 1)) ∧ M' = M) := by
                                intro hj_627
                                have hz7 : tgf f cp pa (f2 f (ca + (x1 + 1))) ≠ 0 := (fun e => by rcases hj_627 with h | h <;> rw [h] at e <;> exact absurd e (by decide))
                                have hE7 := hE (f2 f (ca + (x1 + 1))) hz7
                                have h99 : t9 (tgf f cp pa (f2 f (ca + (x1 + 1)))) := t9_of (Or.inr hj_627)
                                have hi9 := hE7.1.2.2.1 h99
                                have hx17 : ix17 f cp pa (f2 f (ca + (x1 + 1))) := hi9.2.2
                                have hy17 := hP.y hx17.2.2
                                have hmt := hE7.2.2.1 (hj_627.imp id Or.inl)
                                refine ml_blk 2 (S' := (629, [(0, .ref m0), (1, .int x1), (2, .int x2), (3, .int (f2 f (ca + (x1 + 1))))], [.int (f2 f (ca + (x1 + 1))), .ref m0], M)) rfl ?_
                                refine ml_call (a := [.ref m0, .int (f2 f (ca + (x1 + 1)))]) (rest := []) rfl (hR.okc rfl rfl rfl) rfl rfl (rm_nameOf hR hF hP (esz_9 h99) (hz7) (hx17) (by omega)) (fun v124 M125 h126 => ?_)
                                obtain ⟨rfl, h126⟩ := h126
                                rw [h126]
                                show ml _ _ _ (632, [(0, .ref m0), (1, .int x1), (2, .int x2), (3, .int (f2 f (ca + (x1 + 1))))], [.int (pyf py (ixf f pa (ixf f pa (f2 f (ca + (x1 + 1))) 3) 1))], M) _
                                refine ml_st (S' := (633, [(0, .ref m0), (1, .int x1), (2, .int x2), (3, .int (f2 f (ca + (x1 + 1))))], [.ref m0, .int (pyf py (ixf f pa (ixf f pa (f2 f (ca + (x1 + 1))) 3) 1))], M)) rfl rfl rfl ?_
                                refine rg_int (S' := (636, [(0, .ref m0), (1, .int x1), (2, .int x2), (3, .int (f2 f (ca + (x1 + 1))))], [.int si, .int (pyf py (ixf f pa (ixf f pa (f2 f (ca + (x1 + 1))) 3) 1))], M)) rfl hR rfl (hk9) rfl ?_
                                have J_648 : ml (mT g) d (mb_228 g).2 (648, [(0, .ref m0), (1, .int x1), (2, .int x2), (3, .int (f2 f (ca + (x1 + 1))))], [], M) (fun v M' => (∃ x : Int32, v = some (.int x) ∧ (x = 0 ∨ x = 1)) ∧ M' = M) := by
                                  refine ml_blk 2 (S' := (652, [(0, .ref m0), (1, .int x1), (2, .int x2), (3, .int (f2 f (ca + (x1 + 1))))], [.int 185, .int x2], M)) rfl ?_
                                  refine ml_if2 (S1 := (686, [], [], M)) (S2 := (655, [(0, .ref m0), (1, .int x1), (2, .int x2), (3, .int (f2 f (ca + (x1 + 1))))], [], M)) rfl rfl rfl (fun c_652 => ?_) (fun c_652 => ?_)
                                  · have c_652 : ¬ x2 = 185 := of_decide_eq_true c_652
                                    refine ml_st (S' := (687, [], [.int 1], M)) rfl rfl rfl ?_
                                    refine ml_st (S' := (691, [], [.int 1], M)) rfl rfl rfl ?_
                                    exact ml_ret rfl (r_z (Or.inr rfl)) (⟨⟨_, rfl, Or.inr rfl⟩, rfl⟩)
                                  · have c_652 : ¬ (¬ x2 = 185) := of_decide_eq_false c_652
                                    have h5 : (5 : Int) ≤ nn := iln 5 hln 185 185 (by rw [show _ = (185 : Int32) from Decidable.not_not.mp c_652]; decide) (by rw [show _ = (185 : Int32) from Decidable.not_not.mp c_652]; decide) mlk_5_185_185
                                    refine ml_blk 3 (S' := (658, [(0, .ref m0), (1, .int x1), (2, .int x2), (3, .int (f2 f (ca + (x1 + 1))))], [.int 3, .int x1, .ref m0], M)) rfl ?_
                                    refine ml_st (S' := (659, [(0, .ref m0), (1, .int x1), (2, .int x2), (3, .int (f2 f (ca + (x1 + 1))))], [.int (x1 + 3), .ref m0], M)) rfl rfl rfl ?_
                                    refine ml_call (a := [.ref m0, .int (x1 + 3)]) (rest := []) rfl (hR.okc rfl rfl rfl) rfl rfl (rm_b1 hR hF hC (by omega) (by omega) (by omega)) (fun v127 M128 h129 => ?_)
                                    obtain ⟨rfl, h129⟩ := h129
                                    rw [h129]
                                    show ml _ _ _ (662, [(0, .ref m0), (1, .int x1), (2, .int x2), (3, .int (f2 f (ca + (x1 + 1))))], [.int (f1 f (ca + (x1 + 3)))], M) _
                                    refine ml_blk 3 (S' := (665, [(0, .ref m0), (1, .int x1), (2, .int x2), (3, .int (f2 f (ca + (x1 + 1))))], [.int (f2 f (ca + (x1 + 1))), .ref m0, .ref m0, .int (f1 f (ca + (x1 + 3)))], M)) rfl ?_
                                    refine ml_call (a := [.ref m0, .int (f2 f (ca + (x1 + 1)))]) (rest := [.ref m0, .int (f1 f (ca + (x1 + 3)))]) rfl (hR.okc rfl rfl rfl) rfl rfl (rm_descOf hR hF hP (esz_9 h99) (hz7) (hx17) (by omega)) (fun v130 M131 h132 => ?_)
                                    obtain ⟨rfl, h132⟩ := h132
                                    rw [h132]
                                    show ml _ _ _ (668, [(0, .ref m0), (1, .int x1), (2, .int x2), (3, .int (f2 f (ca + (x1 + 1))))], [.int (pyf py (ixf f pa (ixf f pa (f2 f (ca + (x1 + 1))) 3) 3)), .ref m0, .int (f1 f (ca + (x1 + 3)))], M) _
                                    refine ml_call (a := [.ref m0, .int (pyf py (ixf f pa (ixf f pa (f2 f (ca + (x1 + 1))) 3) 3))]) (rest := [.int (f1 f (ca + (x1 + 3)))]) rfl (hR.okc rfl rfl rfl) rfl rfl (rm_places0 hR hY (hy17.2.2.1) (hy17.2.2.2) (hmt.1) (by omega)) (fun v133 M134 h135 => ?_)
                                    obtain ⟨⟨u136, rfl⟩, h135⟩ := h135
                                    rw [h135]
                                    show ml _ _ _ (671, [(0, .ref m0), (1, .int x1), (2, .int x2), (3, .int (f2 f (ca + (x1 + 1))))], [.int u136, .int (f1 f (ca + (x1 + 3)))], M) _
                                    refine ml_blk 2 (S' := (673, [(0, .ref m0), (1, .int x1), (2, .int x2), (3, .int (f2 f (ca + (x1 + 1))))], [.int (u136 + 1), .int (f1 f (ca + (x1 + 3)))], M)) rfl ?_
                                    refine ml_if2 (S1 := (690, [], [], M)) (S2 := (676, [(0, .ref m0), (1, .int x1), (2, .int x2), (3, .int (f2 f (ca + (x1 + 1))))], [], M)) rfl rfl rfl (fun c_673 => ?_) (fun c_673 => ?_)
                                    · have c_673 : ¬ (f1 f (ca + (x1 + 3))) = (u136 + 1) := of_decide_eq_true c_673
                                      refine ml_st (S' := (691, [], [.int 0], M)) rfl rfl rfl ?_
                                      exact ml_ret rfl (r_z (Or.inl rfl)) (⟨⟨_, rfl, Or.inl rfl⟩, rfl⟩)
                                    · have c_673 : ¬ (¬ (f1 f (ca + (x1 + 3))) = (u136 + 1)) := of_decide_eq_false c_673
                                      refine ml_blk 3 (S' := (679, [(0, .ref m0), (1, .int x1), (2, .int x2), (3, .int (f2 f (ca + (x1 + 1))))], [.int 4, .int x1, .ref m0], M)) rfl ?_
                                      refine ml_st (S' := (680, [(0, .ref m0), (1, .int x1), (2, .int x2), (3, .int (f2 f (ca + (x1 + 1))))], [.int (x1 + 4), .ref m0], M)) rfl rfl rfl ?_
                                      refine ml_call (a := [.ref m0, .int (x1 + 4)]) (rest := []) rfl (hR.okc rfl rfl rfl) rfl rfl (rm_b1 hR hF hC (by omega) (by omega) (by omega)) (fun v137 M138 h139 => ?_)
                                      obtain ⟨rfl, h139⟩ := h139
                                      rw [h139]
                                      show ml _ _ _ (683, [(0, .ref m0), (1, .int x1), (2, .int x2), (3, .int (f2 f (ca + (x1 + 1))))], [.int (f1 f (ca + (x1 + 4)))], M) _
                                      refine ml_if (S1 := (690, [], [], M)) (S2 := (686, [], [], M)) rfl rfl rfl (fun c_683 => ?_) (fun c_683 => ?_)
                                      · have c_683 : ¬ (f1 f (ca + (x1 + 4))) = 0 := of_decide_eq_true c_683
                                        refine ml_st (S' := (691, [], [.int 0], M)) rfl rfl rfl ?_
                                        exact ml_ret rfl (r_z (Or.inl rfl)) (⟨⟨_, rfl, Or.inl rfl⟩, rfl⟩)
                                      · have c_683 : ¬ (¬ (f1 f (ca + (x1 + 4))) = 0) := of_decide_eq_false c_683
                                        refine ml_st (S' := (687, [], [.int 1], M)) rfl rfl rfl ?_
                                        refine ml_st (S' := (691, [], [.int 1], M)) rfl rfl rfl ?_
                                        exact ml_ret rfl (r_z (Or.inr rfl)) (⟨⟨_, rfl, Or.inr rfl⟩, rfl⟩)
                                refine ml_if2 (S1 := (648, [(0, .ref m0), (1, .int x1), (2, .int x2), (3, .int (f2 f (ca + (x1 + 1))))], [], M)) (S2 := (639, [(0, .ref m0), (1, .int x1), (2, .int x2), (3, .int (f2 f (ca + (x1 + 1))))], [], M)) rfl rfl rfl (fun c_636 => ?_) (fun c_636 => ?_)
                                · have c_636 : ¬ (pyf py (ixf f pa (ixf f pa (f2 f (ca + (x1 + 1))) 3) 1)) = si := of_decide_eq_true c_636
                                  exact J_648 
                                · have c_636 : ¬ (¬ (pyf py (ixf f pa (ixf f pa (f2 f (ca + (x1 + 1))) 3) 1)) = si) := of_decide_eq_false c_636
                                  refine ml_blk 2 (S' := (643, [(0, .ref m0), (1, .int x1), (2, .int x2), (3, .int (f2 f (ca + (x1 + 1))))], [.int 183, .int x2], M)) rfl ?_
                                  refine ml_if2 (S1 := (648, [(0, .ref m0), (1, .int x1), (2, .int x2), (3, .int (f2 f (ca + (x1 + 1))))], [], M)) (S2 := (646, [(0, .ref m0), (1, .int x1), (2, .int x2), (3, .int (f2 f (ca + (x1 + 1))))], [], M)) rfl rfl rfl (fun c_643 => ?_) (fun c_643 => ?_)
                                  · have c_643 : x2 = 183 := of_decide_eq_true c_643
                                    exact J_648 
                                  · have c_643 : ¬ (x2 = 183) := of_decide_eq_false c_643
                                    refine ml_st (S' := (647, [(0, .ref m0), (1, .int x1), (2, .int x2), (3, .int (f2 f (ca + (x1 + 1))))], [.int 0], M)) rfl rfl rfl ?_
                                    exact ml_ret rfl (r_z (Or.inl rfl)) (⟨⟨_, rfl, Or.inl rfl⟩, rfl⟩)
                              refine ml_if2 (S1 := (595, [(4, .int (tgf f cp pa (f2 f (ca + (x1 + 1))))), (3, .int (f2 f (ca + (x1 + 1)))), (0, .ref m0), (1, .int x1), (2, .int x2)], [], M)) (S2 := (585, [(4, .int (tgf f cp pa (f2 f (ca + (x1 + 1))))), (3, .int (f2 f (ca + (x1 + 1)))), (0, .ref m0), (1, .int x1), (2, .int x2)], [], M)) rfl rfl rfl (fun c_582 => ?_) (fun c_582 => ?_)
                              · have c_582 : ¬ x2 = 185 := of_decide_eq_true c_582
                                refine ml_blk 2 (S' := (599, [(4, .int (tgf f cp pa (f2 f (ca + (x1 + 1))))), (3, .int (f2 f (ca + (x1 + 1)))), (0, .ref m0), (1, .int x1), (2, .int x2)], [.int 10, .int (tgf f cp pa (f2 f (ca + (x1 + 1))))], M)) rfl ?_
                                refine ml_if2 (S1 := (627, [(0, .ref m0), (1, .int x1), (2, .int x2), (3, .int (f2 f (ca + (x1 + 1))))], [], M)) (S2 := (602, [(4, .int (tgf f cp pa (f2 f (ca + (x1 + 1))))), (3, .int (f2 f (ca + (x1 + 1)))), (0, .ref m0), (1, .int x1), (2, .int x2)], [], M)) rfl rfl rfl (fun c_599 => ?_) (fun c_599 => ?_)
                                · have c_599 : (tgf f cp pa (f2 f (ca + (x1 + 1)))) = 10 := of_decide_eq_true c_599
                                  exact J_627  (Or.inl c_599)
                                · have c_599 : ¬ ((tgf f cp pa (f2 f (ca + (x1 + 1)))) = 10) := of_decide_eq_false c_599
                                  refine ml_blk 2 (S' := (606, [(4, .int (tgf f cp pa (f2 f (ca + (x1 + 1))))), (3, .int (f2 f (ca + (x1 + 1)))), (0, .ref m0), (1, .int x1), (2, .int x2)], [.int 182, .int x2], M)) rfl ?_
                                  refine ml_if2 (S1 := (625, [], [], M)) (S2 := (609, [(4, .int (tgf f cp pa (f2 f (ca + (x1 + 1))))), (3, .int (f2 f (ca + (x1 + 1)))), (0, .ref m0), (1, .int x1), (2, .int x2)], [], M)) rfl rfl rfl (fun c_606 => ?_) (fun c_606 => ?_)
                                  · have c_606 : x2 = 182 := of_decide_eq_true c_606
                                    refine ml_st (S' := (626, [], [.int 0], M)) rfl rfl rfl ?_
                                    exact ml_ret rfl (r_z (Or.inl rfl)) (⟨⟨_, rfl, Or.inl rfl⟩, rfl⟩)
                                  · have c_606 : ¬ (x2 = 182) := of_decide_eq_false c_606
                                    refine ml_blk 2 (S' := (613, [(4, .int (tgf f cp pa (f2 f (ca + (x1 + 1))))), (3, .int (f2 f (ca + (x1 + 1)))), (0, .ref m0), (1, .int x1), (2, .int x2)], [.int 11, .int (tgf f cp pa (f2 f (ca + (x1 + 1))))], M)) rfl ?_
                                    refine ml_if2 (S1 := (625, [], [], M)) (S2 := (616, [(4, .int (tgf f cp pa (f2 f (ca + (x1 + 1))))), (3, .int (f2 f (ca + (x1 + 1)))), (0, .ref m0), (1, .int x1), (2, .int x2)], [], M)) rfl rfl rfl (fun c_613 => ?_) (fun c_613 => ?_)
                                    · have c_613 : ¬ (tgf f cp pa (f2 f (ca + (x1 + 1)))) = 11 := of_decide_eq_true c_613
                                      refine ml_st (S' := (626, [], [.int 0], M)) rfl rfl rfl ?_
                                      exact ml_ret rfl (r_z (Or.inl rfl)) (⟨⟨_, rfl, Or.inl rfl⟩, rfl⟩)
                                    · have c_613 : ¬ (¬ (tgf f cp pa (f2 f (ca + (x1 + 1)))) = 11) := of_decide_eq_false c_613
                                      refine ml_st (S' := (617, [(4, .int (tgf f cp pa (f2 f (ca + (x1 + 1))))), (3, .int (f2 f (ca + (x1 + 1)))), (0, .ref m0), (1, .int x1), (2, .int x2)], [.ref m0], M)) rfl rfl rfl ?_
                                      refine rg_int (S' := (620, [(4, .int (tgf f cp pa (f2 f (ca + (x1 + 1))))), (3, .int (f2 f (ca + (x1 + 1)))), (0, .ref m0), (1, .int x1), (2, .int x2)], [.int mj], M)) rfl hR rfl (hP.2.2.1) rfl ?_
                                      refine ml_st (S' := (622, [(4, .int (tgf f cp pa (f2 f (ca + (x1 + 1))))), (3, .int (f2 f (ca + (x1 + 1)))), (0, .ref m0), (1, .int x1), (2, .int x2)], [.int 52, .int mj], M)) rfl rfl rfl ?_
                                      refine ml_if2 (S1 := (627, [(0, .ref m0), (1, .int x1), (2, .int x2), (3, .int (f2 f (ca + (x1 + 1))))], [], M)) (S2 := (625, [], [], M)) rfl rfl rfl (fun c_622 => ?_) (fun c_622 => ?_)
                                      · have c_622 : 52 ≤ mj := of_decide_eq_true c_622
                                        exact J_627  (Or.inr (Decidable.not_not.mp c_613))
                                      · have c_622 : ¬ (52 ≤ mj) := of_decide_eq_false c_622
                                        refine ml_st (S' := (626, [], [.int 0], M)) rfl rfl rfl ?_
                                        exact ml_ret rfl (r_z (Or.inl rfl)) (⟨⟨_, rfl, Or.inl rfl⟩, rfl⟩)
                              · have c_582 : ¬ (¬ x2 = 185) := of_decide_eq_false c_582
                                refine ml_blk 2 (S' := (589, [(4, .int (tgf f cp pa (f2 f (ca + (x1 + 1))))), (3, .int (f2 f (ca + (x1 + 1)))), (0, .ref m0), (1, .int x1), (2, .int x2)], [.int 11, .int (tgf f cp pa (f2 f (ca + (x1 + 1))))], M)) rfl ?_
                                refine ml_if2 (S1 := (625, [], [], M)) (S2 := (592, [(4, .int (tgf f cp pa (f2 f (ca + (x1 + 1))))), (3, .int (f2 f (ca + (x1 + 1)))), (0, .ref m0), (1, .int x1), (2, .int x2)], [], M)) rfl rfl rfl (fun c_589 => ?_) (fun c_589 => ?_)
                                · have c_589 : ¬ (tgf f cp pa (f2 f (ca + (x1 + 1)))) = 11 := of_decide_eq_true c_589
                                  refine ml_st (S' := (626, [], [.int 0], M)) rfl rfl rfl ?_
                                  exact ml_ret rfl (r_z (Or.inl rfl)) (⟨⟨_, rfl, Or.inl rfl⟩, rfl⟩)
                                · have c_589 : ¬ (¬ (tgf f cp pa (f2 f (ca + (x1 + 1)))) = 11) := of_decide_eq_false c_589
                                  refine ml_st (S' := (627, [(0, .ref m0), (1, .int x1), (2, .int x2), (3, .int (f2 f (ca + (x1 + 1))))], [], M)) rfl rfl rfl ?_
                                  exact J_627  (Or.inr (Decidable.not_not.mp c_589))
                        refine ml_if2 (S1 := (549, [(0, .ref m0), (1, .int x1), (2, .int x2)], [], M)) (S2 := (520, [(0, .ref m0), (1, .int x1), (2, .int x2)], [], M)) rfl rfl rfl (fun c_517 => ?_) (fun c_517 => ?_)
                        · have c_517 : x2 < 178 := of_decide_eq_true c_517
                          exact J_549 
                        · have c_517 : ¬ (x2 < 178) := of_decide_eq_false c_517
                          refine ml_blk 2 (S' := (524, [(0, .ref m0), (1, .int x1), (2, .int x2)], [.int 181, .int x2], M)) rfl ?_
                          refine ml_if2 (S1 := (549, [(0, .ref m0), (1, .int x1), (2, .int x2)], [], M)) (S2 := (527, [(0, .ref m0), (1, .int x1), (2, .int x2)], [], M)) rfl rfl rfl (fun c_524 => ?_) (fun c_524 => ?_)
                          · have c_524 : 181 < x2 := of_decide_eq_true c_524
                            exact J_549 
                          · have c_524 : ¬ (181 < x2) := of_decide_eq_false c_524
                            have h3 : (3 : Int) ≤ nn := iln 3 hln 178 181 (by have := i_nlt c_517; have : (178 : Int32).toInt = 178 := rfl; omega) (by have := i_nlt c_524; have : (181 : Int32).toInt = 181 := rfl; omega) mlk_3_178_181
                            refine ml_blk 3 (S' := (530, [(0, .ref m0), (1, .int x1), (2, .int x2)], [.int x1, .ref m0, .ref m0], M)) rfl ?_
                            refine ml_blk 2 (S' := (532, [(0, .ref m0), (1, .int x1), (2, .int x2)], [.int (x1 + 1), .ref m0, .ref m0], M)) rfl ?_
                            refine ml_call (a := [.ref m0, .int (x1 + 1)]) (rest := [.ref m0]) rfl (hR.okc rfl rfl rfl) rfl rfl (rm_b2 hR hF hC (by omega) (by omega) (by omega)) (fun v140 M141 h142 => ?_)
                            obtain ⟨rfl, h142⟩ := h142
                            rw [h142]
                            show ml _ _ _ (535, [(0, .ref m0), (1, .int x1), (2, .int x2)], [.int (f2 f (ca + (x1 + 1))), .ref m0], M) _
                            refine ml_call (a := [.ref m0, .int (f2 f (ca + (x1 + 1)))]) (rest := []) rfl (hR.okc rfl rfl rfl) rfl rfl (rm_tag hR hF hP (by omega)) (fun v143 M144 h145 => ?_)
                            obtain ⟨rfl, h145⟩ := h145
                            rw [h145]
                            show ml _ _ _ (538, [(0, .ref m0), (1, .int x1), (2, .int x2)], [.int (tgf f cp pa (f2 f (ca + (x1 + 1))))], M) _
                            refine ml_st (S' := (540, [(0, .ref m0), (1, .int x1), (2, .int x2)], [.int 9, .int (tgf f cp pa (f2 f (ca + (x1 + 1))))], M)) rfl rfl rfl ?_
                            refine ml_if2 (S1 := (547, [(0, .ref m0), (1, .int x1), (2, .int x2)], [], M)) (S2 := (543, [(0, .ref m0), (1, .int x1), (2, .int x2)], [], M)) rfl rfl rfl (fun c_540 => ?_) (fun c_540 => ?_)
                            · have c_540 : ¬ (tgf f cp pa (f2 f (ca + (x1 + 1)))) = 9 := of_decide_eq_true c_540
                              refine ml_st (S' := (548, [], [.int 0], M)) rfl rfl rfl ?_
                              exact ml_ret rfl (r_z (Or.inl rfl)) (⟨⟨_, rfl, Or.inl rfl⟩, rfl⟩)
                            · have c_540 : ¬ (¬ (tgf f cp pa (f2 f (ca + (x1 + 1)))) = 9) := of_decide_eq_false c_540
                              refine ml_st (S' := (544, [(0, .ref m0), (1, .int x1), (2, .int x2)], [.int 1], M)) rfl rfl rfl ?_
                              refine ml_st (S' := (548, [], [.int 1], M)) rfl rfl rfl ?_
                              exact ml_ret rfl (r_z (Or.inr rfl)) (⟨⟨_, rfl, Or.inr rfl⟩, rfl⟩)
                      refine ml_if2 (S1 := (513, [(0, .ref m0), (1, .int x1), (2, .int x2)], [], M)) (S2 := (338, [(0, .ref m0), (1, .int x1), (2, .int x2)], [], M)) rfl rfl rfl (fun c_335 => ?_) (fun c_335 => ?_)
                      · have c_335 : x2 < 18 := of_decide_eq_true c_335
                        exact J_513 
                      · have c_335 : ¬ (x2 < 18) := of_decide_eq_false c_335
                        refine ml_blk 2 (S' := (341, [(0, .ref m0), (1, .int x1), (2, .int x2)], [.int 20, .int x2], M)) rfl ?_
                        refine ml_if2 (S1 := (513, [(0, .ref m0), (1, .int x1), (2, .int x2)], [], M)) (S2 := (344, [(0, .ref m0), (1, .int x1), (2, .int x2)], [], M)) rfl rfl rfl (fun c_341 => ?_) (fun c_341 => ?_)
                        · have c_341 : 20 < x2 := of_decide_eq_true c_341
                          exact J_513 
                        · have c_341 : ¬ (20 < x2) := of_decide_eq_false c_341
                          refine ml_blk 2 (S' := (347, [(0, .ref m0), (1, .int x1), (2, .int x2)], [.int 18, .int x2], M)) rfl ?_
                          have J_367 : ∀ (s367_0 : Int32), ml (mT g) d (mb_228 g).2 (367, [(0, .ref m0), (2, .int x2)], [.int s367_0], M) (fun v M' => (∃ x : Int32, v = some (.int x) ∧ (x = 0 ∨ x = 1)) ∧ M' = M) := by
                            intro s367_0
                            refine ml_st (S' := (368, [(3, .int s367_0), (0, .ref m0), (2, .int x2)], [], M)) rfl rfl rfl ?_
                            refine ml_blk 2 (S' := (370, [(3, .int s367_0), (0, .ref m0), (2, .int x2)], [.int s367_0, .ref m0], M)) rfl ?_
                            refine ml_call (a := [.ref m0, .int s367_0]) (rest := []) rfl (hR.okc rfl rfl rfl) rfl rfl (rm_tag hR hF hP (by omega)) (fun v146 M147 h148 => ?_)
                            obtain ⟨rfl, h148⟩ := h148
                            rw [h148]
                            show ml _ _ _ (373, [(3, .int s367_0), (0, .ref m0), (2, .int x2)], [.int (tgf f cp pa s367_0)], M) _
                            refine ml_st (S' := (375, [(4, .int (tgf f cp pa s367_0)), (3, .int s367_0), (0, .ref m0), (2, .int x2)], [], M)) rfl rfl rfl ?_
                            refine ml_blk 2 (S' := (378, [(4, .int (tgf f cp pa s367_0)), (3, .int s367_0), (0, .ref m0), (2, .int x2)], [.int 20, .int x2], M)) rfl ?_
                            refine ml_if2 (S1 := (420, [(4, .int (tgf f cp pa s367_0)), (3, .int s367_0), (0, .ref m0), (2, .int x2)], [], M)) (S2 := (381, [(4, .int (tgf f cp pa s367_0)), (3, .int s367_0), (0, .ref m0), (2, .int x2)], [], M)) rfl rfl rfl (fun c_378 => ?_) (fun c_378 => ?_)
                            · have c_378 : ¬ x2 = 20 := of_decide_eq_true c_378
                              refine ml_blk 2 (S' := (423, [(4, .int (tgf f cp pa s367_0)), (3, .int s367_0), (0, .ref m0), (2, .int x2)], [.int 3, .int (tgf f cp pa s367_0)], M)) rfl ?_
                              refine ml_if2 (S1 := (507, [], [], M)) (S2 := (426, [(4, .int (tgf f cp pa s367_0)), (3, .int s367_0), (0, .ref m0), (2, .int x2)], [], M)) rfl rfl rfl (fun c_423 => ?_) (fun c_423 => ?_)
                              · have c_423 : (tgf f cp pa s367_0) = 3 := of_decide_eq_true c_423
                                refine ml_st (S' := (508, [], [.int 1], M)) rfl rfl rfl ?_
                                refine ml_st (S' := (512, [], [.int 1], M)) rfl rfl rfl ?_
                                exact ml_ret rfl (r_z (Or.inr rfl)) (⟨⟨_, rfl, Or.inr rfl⟩, rfl⟩)
                              · have c_423 : ¬ ((tgf f cp pa s367_0) = 3) := of_decide_eq_false c_423
                                refine ml_blk 2 (S' := (429, [(4, .int (tgf f cp pa s367_0)), (3, .int s367_0), (0, .ref m0), (2, .int x2)], [.int 4, .int (tgf f cp pa s367_0)], M)) rfl ?_
                                refine ml_if2 (S1 := (507, [], [], M)) (S2 := (432, [(4, .int (tgf f cp pa s367_0)), (3, .int s367_0), (0, .ref m0), (2, .int x2)], [], M)) rfl rfl rfl (fun c_429 => ?_) (fun c_429 => ?_)
                                · have c_429 : (tgf f cp pa s367_0) = 4 := of_decide_eq_true c_429
                                  refine ml_st (S' := (508, [], [.int 1], M)) rfl rfl rfl ?_
                                  refine ml_st (S' := (512, [], [.int 1], M)) rfl rfl rfl ?_
                                  exact ml_ret rfl (r_z (Or.inr rfl)) (⟨⟨_, rfl, Or.inr rfl⟩, rfl⟩)
                                · have c_429 : ¬ ((tgf f cp pa s367_0) = 4) := of_decide_eq_false c_429
                                  refine ml_blk 2 (S' := (436, [(4, .int (tgf f cp pa s367_0)), (3, .int s367_0), (0, .ref m0), (2, .int x2)], [.int 8, .int (tgf f cp pa s367_0)], M)) rfl ?_
                                  refine ml_if2 (S1 := (507, [], [], M)) (S2 := (439, [(4, .int (tgf f cp pa s367_0)), (3, .int s367_0), (0, .ref m0), (2, .int x2)], [], M)) rfl rfl rfl (fun c_436 => ?_) (fun c_436 => ?_)
                                  · have c_436 : (tgf f cp pa s367_0) = 8 := of_decide_eq_true c_436
                                    refine ml_st (S' := (508, [], [.int 1], M)) rfl rfl rfl ?_
                                    refine ml_st (S' := (512, [], [.int 1], M)) rfl rfl rfl ?_
                                    exact ml_ret rfl (r_z (Or.inr rfl)) (⟨⟨_, rfl, Or.inr rfl⟩, rfl⟩)
                                  · have c_436 : ¬ ((tgf f cp pa s367_0) = 8) := of_decide_eq_false c_436
                                    refine ml_blk 2 (S' := (443, [(4, .int (tgf f cp pa s367_0)), (3, .int s367_0), (0, .ref m0), (2, .int x2)], [.int 7, .int (tgf f cp pa s367_0)], M)) rfl ?_
                                    have J_455 : ml (mT g) d (mb_228 g).2 (455, [(0, .ref m0), (3, .int s367_0), (4, .int (tgf f cp pa s367_0))], [], M) (fun v M' => (∃ x : Int32, v = some (.int x) ∧ (x = 0 ∨ x = 1)) ∧ M' = M) := by
                                      refine ml_blk 2 (S' := (459, [(0, .ref m0), (3, .int s367_0), (4, .int (tgf f cp pa s367_0))], [.int 15, .int (tgf f cp pa s367_0)], M)) rfl ?_
                                      have J_478 : ml (mT g) d (mb_228 g).2 (478, [(0, .ref m0), (3, .int s367_0), (4, .int (tgf f cp pa s367_0))], [], M) (fun v M' => (∃ x : Int32, v = some (.int x) ∧ (x = 0 ∨ x = 1)) ∧ M' = M) := by
                                        refine ml_blk 2 (S' := (482, [(0, .ref m0), (3, .int s367_0), (4, .int (tgf f cp pa s367_0))], [.int 17, .int (tgf f cp pa s367_0)], M)) rfl ?_
                                        refine ml_if2 (S1 := (511, [], [], M)) (S2 := (485, [(0, .ref m0), (3, .int s367_0), (4, .int (tgf f cp pa s367_0))], [], M)) rfl rfl rfl (fun c_482 => ?_) (fun c_482 => ?_)
                                        · have c_482 : ¬ (tgf f cp pa s367_0) = 17 := of_decide_eq_true c_482
                                          refine ml_st (S' := (512, [], [.int 0], M)) rfl rfl rfl ?_
                                          exact ml_ret rfl (r_z (Or.inl rfl)) (⟨⟨_, rfl, Or.inl rfl⟩, rfl⟩)
                                        · have c_482 : ¬ (¬ (tgf f cp pa s367_0) = 17) := of_decide_eq_false c_482
                                          refine ml_st (S' := (486, [(0, .ref m0), (3, .int s367_0), (4, .int (tgf f cp pa s367_0))], [.ref m0], M)) rfl rfl rfl ?_
                                          refine rg_int (S' := (489, [(0, .ref m0), (3, .int s367_0), (4, .int (tgf f cp pa s367_0))], [.int mj], M)) rfl hR rfl (hP.2.2.1) rfl ?_
                                          refine ml_st (S' := (491, [(0, .ref m0), (3, .int s367_0), (4, .int (tgf f cp pa s367_0))], [.int 55, .int mj], M)) rfl rfl rfl ?_
                                          refine ml_if2 (S1 := (511, [], [], M)) (S2 := (494, [(0, .ref m0), (3, .int s367_0), (4, .int (tgf f cp pa s367_0))], [], M)) rfl rfl rfl (fun c_491 => ?_) (fun c_491 => ?_)
                                          · have c_491 : mj < 55 := of_decide_eq_true c_491
                                            refine ml_st (S' := (512, [], [.int 0], M)) rfl rfl rfl ?_
                                            exact ml_ret rfl (r_z (Or.inl rfl)) (⟨⟨_, rfl, Or.inl rfl⟩, rfl⟩)
                                          · have c_491 : ¬ (mj < 55) := of_decide_eq_false c_491
                                            have t17 : tgf f cp pa s367_0 = 17 := Decidable.not_not.mp c_482
                                            have hE7 := hE s367_0 (by rw [t17]; decide)
                                            have hx17 := hE7.1.2.2.2.2 (Or.inl t17)
                                            have hy17 := hP.y hx17.2.2
                                            refine ml_blk 3 (S' := (497, [(0, .ref m0), (3, .int s367_0), (4, .int (tgf f cp pa s367_0))], [.int s367_0, .ref m0, .ref m0], M)) rfl ?_
                                            refine ml_call (a := [.ref m0, .int s367_0]) (rest := [.ref m0]) rfl (hR.okc rfl rfl rfl) rfl rfl (rm_descOf hR hF hP (by rw [t17]; rfl) (by rw [t17]; decide) (hx17) (by omega)) (fun v149 M150 h151 => ?_)
                                            obtain ⟨rfl, h151⟩ := h151
                                            rw [h151]
                                            show ml _ _ _ (500, [(0, .ref m0), (3, .int s367_0), (4, .int (tgf f cp pa s367_0))], [.int (pyf py (ixf f pa (ixf f pa s367_0 3) 3)), .ref m0], M) _
                                            refine ml_st (S' := (501, [(0, .ref m0), (3, .int s367_0), (4, .int (tgf f cp pa s367_0))], [.int 0, .int (pyf py (ixf f pa (ixf f pa s367_0 3) 3)), .ref m0], M)) rfl rfl rfl ?_
                                            refine ml_call (a := [.ref m0, .int (pyf py (ixf f pa (ixf f pa s367_0 3) 3)), .int 0]) (rest := []) rfl (hR.okc rfl rfl rfl) rfl rfl (rm_wide hR hY (hy17.2.2.1) (hy17.2.2.2) (by decide) (by have q := hE7.2.2.2 t17; have : (0 : Int32).toInt = 0 := rfl; omega) (by omega)) (fun v152 M153 h154 => ?_)
                                            obtain ⟨⟨u155, rfl, z156⟩, h154⟩ := h154
                                            rw [h154]
                                            show ml _ _ _ (504, [(0, .ref m0), (3, .int s367_0), (4, .int (tgf f cp pa s367_0))], [.int u155], M) _
                                            refine ml_if (S1 := (511, [], [], M)) (S2 := (507, [], [], M)) rfl rfl rfl (fun c_504 => ?_) (fun c_504 => ?_)
                                            · have c_504 : ¬ u155 = 0 := of_decide_eq_true c_504
                                              refine ml_st (S' := (512, [], [.int 0], M)) rfl rfl rfl ?_
                                              exact ml_ret rfl (r_z (Or.inl rfl)) (⟨⟨_, rfl, Or.inl rfl⟩, rfl⟩)
                                            · have c_504 : ¬ (¬ u155 = 0) := of_decide_eq_false c_504
                                              refine ml_st (S' := (508, [], [.int 1], M)) rfl rfl rfl ?_
                                              refine ml_st (S' := (512, [], [.int 1], M)) rfl rfl rfl ?_
                                              exact ml_ret rfl (r_z (Or.inr rfl)) (⟨⟨_, rfl, Or.inr rfl⟩, rfl⟩)
                                      have J_469 : ml (mT g) d (mb_228 g).2 (469, [(0, .ref m0), (3, .int s367_0), (4, .int (tgf f cp pa s367_0))], [], M) (fun v M' => (∃ x : Int32, v = some (.int x) ∧ (x = 0 ∨ x = 1)) ∧ M' = M) := by
                                        refine ml_st (S' := (470, [(0, .ref m0), (3, .int s367_0), (4, .int (tgf f cp pa s367_0))], [.ref m0], M)) rfl rfl rfl ?_
                                        refine rg_int (S' := (473, [(0, .ref m0), (3, .int s367_0), (4, .int (tgf f cp pa s367_0))], [.int mj], M)) rfl hR rfl (hP.2.2.1) rfl ?_
                                        refine ml_st (S' := (475, [(0, .ref m0), (3, .int s367_0), (4, .int (tgf f cp pa s367_0))], [.int 51, .int mj], M)) rfl rfl rfl ?_
                                        refine ml_if2 (S1 := (507, [], [], M)) (S2 := (478, [(0, .ref m0), (3, .int s367_0), (4, .int (tgf f cp pa s367_0))], [], M)) rfl rfl rfl (fun c_475 => ?_) (fun c_475 => ?_)
                                        · have c_475 : 51 ≤ mj := of_decide_eq_true c_475
                                          refine ml_st (S' := (508, [], [.int 1], M)) rfl rfl rfl ?_
                                          refine ml_st (S' := (512, [], [.int 1], M)) rfl rfl rfl ?_
                                          exact ml_ret rfl (r_z (Or.inr rfl)) (⟨⟨_, rfl, Or.inr rfl⟩, rfl⟩)
                                        · have c_475 : ¬ (51 ≤ mj) := of_decide_eq_false c_475
                                          exact J_478 
                                      refine ml_if2 (S1 := (469, [(0, .ref m0), (3, .int s367_0), (4, .int (tgf f cp pa s367_0))], [], M)) (S2 := (462, [(0, .ref m0), (3, .int s367_0), (4, .int (tgf f cp pa s367_0))], [], M)) rfl rfl rfl (fun c_459 => ?_) (fun c_459 => ?_)
                                      · have c_459 : (tgf f cp pa s367_0) = 15 := of_decide_eq_true c_459
                                        exact J_469 
                                      · have c_459 : ¬ ((tgf f cp pa s367_0) = 15) := of_decide_eq_false c_459
                                        refine ml_blk 2 (S' := (466, [(0, .ref m0), (3, .int s367_0), (4, .int (tgf f cp pa s367_0))], [.int 16, .int (tgf f cp pa s367_0)], M)) rfl ?_
                                        refine ml_if2 (S1 := (478, [(0, .ref m0), (3, .int s367_0), (4, .int (tgf f cp pa s367_0))], [], M)) (S2 := (469, [(0, .ref m0), (3, .int s367_0), (4, .int (tgf f cp pa s367_0))], [], M)) rfl rfl rfl (fun c_466 => ?_) (fun c_466 => ?_)
                                        · have c_466 : ¬ (tgf f cp pa s367_0) = 16 := of_decide_eq_true c_466
                                          exact J_478 
                                        · have c_466 : ¬ (¬ (tgf f cp pa s367_0) = 16) := of_decide_eq_false c_466
                                          exact J_469 
                                    refine ml_if2 (S1 := (455, [(0, .ref m0), (3, .int s367_0), (4, .int (tgf f cp pa s367_0))], [], M)) (S2 := (446, [(4, .int (tgf f cp pa s367_0)), (3, .int s367_0), (0, .ref m0), (2, .int x2)], [], M)) rfl rfl rfl (fun c_443 => ?_) (fun c_443 => ?_)
                                    · have c_443 : ¬ (tgf f cp pa s367_0) = 7 := of_decide_eq_true c_443
                                      exact J_455 
                                    · have c_443 : ¬ (¬ (tgf f cp pa s367_0) = 7) := of_decide_eq_false c_443
                                      refine ml_st (S' := (447, [(4, .int (tgf f cp pa s367_0)), (3, .int s367_0), (0, .ref m0), (2, .int x2)], [.ref m0], M)) rfl rfl rfl ?_
                                      refine rg_int (S' := (450, [(4, .int (tgf f cp pa s367_0)), (3, .int s367_0), (0, .ref m0), (2, .int x2)], [.int mj], M)) rfl hR rfl (hP.2.2.1) rfl ?_
                                      refine ml_st (S' := (452, [(4, .int (tgf f cp pa s367_0)), (3, .int s367_0), (0, .ref m0), (2, .int x2)], [.int 49, .int mj], M)) rfl rfl rfl ?_
                                      refine ml_if2 (S1 := (507, [], [], M)) (S2 := (455, [(0, .ref m0), (3, .int s367_0), (4, .int (tgf f cp pa s367_0))], [], M)) rfl rfl rfl (fun c_452 => ?_) (fun c_452 => ?_)
                                      · have c_452 : 49 ≤ mj := of_decide_eq_true c_452
                                        refine ml_st (S' := (508, [], [.int 1], M)) rfl rfl rfl ?_
                                        refine ml_st (S' := (512, [], [.int 1], M)) rfl rfl rfl ?_
                                        exact ml_ret rfl (r_z (Or.inr rfl)) (⟨⟨_, rfl, Or.inr rfl⟩, rfl⟩)
                                      · have c_452 : ¬ (49 ≤ mj) := of_decide_eq_false c_452
                                        exact J_455 
                            · have c_378 : ¬ (¬ x2 = 20) := of_decide_eq_false c_378
                              refine ml_blk 2 (S' := (384, [(4, .int (tgf f cp pa s367_0)), (3, .int s367_0), (0, .ref m0), (2, .int x2)], [.int 5, .int (tgf f cp pa s367_0)], M)) rfl ?_
                              refine ml_if2 (S1 := (414, [], [], M)) (S2 := (387, [(4, .int (tgf f cp pa s367_0)), (3, .int s367_0), (0, .ref m0), (2, .int x2)], [], M)) rfl rfl rfl (fun c_384 => ?_) (fun c_384 => ?_)
                              · have c_384 : (tgf f cp pa s367_0) = 5 := of_decide_eq_true c_384
                                refine ml_st (S' := (415, [], [.int 1], M)) rfl rfl rfl ?_
                                refine ml_st (S' := (419, [], [.int 1], M)) rfl rfl rfl ?_
                                exact ml_ret rfl (r_z (Or.inr rfl)) (⟨⟨_, rfl, Or.inr rfl⟩, rfl⟩)
                              · have c_384 : ¬ ((tgf f cp pa s367_0) = 5) := of_decide_eq_false c_384
                                refine ml_blk 2 (S' := (391, [(4, .int (tgf f cp pa s367_0)), (3, .int s367_0), (0, .ref m0), (2, .int x2)], [.int 6, .int (tgf f cp pa s367_0)], M)) rfl ?_
                                refine ml_if2 (S1 := (414, [], [], M)) (S2 := (394, [(4, .int (tgf f cp pa s367_0)), (3, .int s367_0), (0, .ref m0), (2, .int x2)], [], M)) rfl rfl rfl (fun c_391 => ?_) (fun c_391 => ?_)
                                · have c_391 : (tgf f cp pa s367_0) = 6 := of_decide_eq_true c_391
                                  refine ml_st (S' := (415, [], [.int 1], M)) rfl rfl rfl ?_
                                  refine ml_st (S' := (419, [], [.int 1], M)) rfl rfl rfl ?_
                                  exact ml_ret rfl (r_z (Or.inr rfl)) (⟨⟨_, rfl, Or.inr rfl⟩, rfl⟩)
                                · have c_391 : ¬ ((tgf f cp pa s367_0) = 6) := of_decide_eq_false c_391
                                  refine ml_blk 2 (S' := (398, [(4, .int (tgf f cp pa s367_0)), (3, .int s367_0), (0, .ref m0), (2, .int x2)], [.int 17, .int (tgf f cp pa s367_0)], M)) rfl ?_
                                  refine ml_if2 (S1 := (418, [], [], M)) (S2 := (401, [(4, .int (tgf f cp pa s367_0)), (3, .int s367_0), (0, .ref m0), (2, .int x2)], [], M)) rfl rfl rfl (fun c_398 => ?_) (fun c_398 => ?_)
                                  · have c_398 : ¬ (tgf f cp pa s367_0) = 17 := of_decide_eq_true c_398
                                    refine ml_st (S' := (419, [], [.int 0], M)) rfl rfl rfl ?_
                                    exact ml_ret rfl (r_z (Or.inl rfl)) (⟨⟨_, rfl, Or.inl rfl⟩, rfl⟩)
                                  · have c_398 : ¬ (¬ (tgf f cp pa s367_0) = 17) := of_decide_eq_false c_398
                                    have t17 : tgf f cp pa s367_0 = 17 := Decidable.not_not.mp c_398
                                    have hE7 := hE s367_0 (by rw [t17]; decide)
                                    have hx17 := hE7.1.2.2.2.2 (Or.inl t17)
                                    have hy17 := hP.y hx17.2.2
                                    refine ml_blk 3 (S' := (404, [(4, .int (tgf f cp pa s367_0)), (3, .int s367_0), (0, .ref m0), (2, .int x2)], [.int s367_0, .ref m0, .ref m0], M)) rfl ?_
                                    refine ml_call (a := [.ref m0, .int s367_0]) (rest := [.ref m0]) rfl (hR.okc rfl rfl rfl) rfl rfl (rm_descOf hR hF hP (by rw [t17]; rfl) (by rw [t17]; decide) (hx17) (by omega)) (fun v157 M158 h159 => ?_)
                                    obtain ⟨rfl, h159⟩ := h159
                                    rw [h159]
                                    show ml _ _ _ (407, [(4, .int (tgf f cp pa s367_0)), (3, .int s367_0), (0, .ref m0), (2, .int x2)], [.int (pyf py (ixf f pa (ixf f pa s367_0 3) 3)), .ref m0], M) _
                                    refine ml_st (S' := (408, [(4, .int (tgf f cp pa s367_0)), (3, .int s367_0), (0, .ref m0), (2, .int x2)], [.int 0, .int (pyf py (ixf f pa (ixf f pa s367_0 3) 3)), .ref m0], M)) rfl rfl rfl ?_
                                    refine ml_call (a := [.ref m0, .int (pyf py (ixf f pa (ixf f pa s367_0 3) 3)), .int 0]) (rest := []) rfl (hR.okc rfl rfl rfl) rfl rfl (rm_wide hR hY (hy17.2.2.1) (hy17.2.2.2) (by decide) (by have q := hE7.2.2.2 t17; have : (0 : Int32).toInt = 0 := rfl; omega) (by omega)) (fun v160 M161 h162 => ?_)
                                    obtain ⟨⟨u163, rfl, z164⟩, h162⟩ := h162
                                    rw [h162]
                                    show ml _ _ _ (411, [(4, .int (tgf f cp pa s367_0)), (3, .int s367_0), (0, .ref m0), (2, .int x2)], [.int u163], M) _
                                    refine ml_if (S1 := (418, [], [], M)) (S2 := (414, [], [], M)) rfl rfl rfl (fun c_411 => ?_) (fun c_411 => ?_)
                                    · have c_411 : u163 = 0 := of_decide_eq_true c_411
                                      refine ml_st (S' := (419, [], [.int 0], M)) rfl rfl rfl ?_
                                      exact ml_ret rfl (r_z (Or.inl rfl)) (⟨⟨_, rfl, Or.inl rfl⟩, rfl⟩)
                                    · have c_411 : ¬ (u163 = 0) := of_decide_eq_false c_411
                                      refine ml_st (S' := (415, [], [.int 1], M)) rfl rfl rfl ?_
                                      refine ml_st (S' := (419, [], [.int 1], M)) rfl rfl rfl ?_
                                      exact ml_ret rfl (r_z (Or.inr rfl)) (⟨⟨_, rfl, Or.inr rfl⟩, rfl⟩)
                          refine ml_if2 (S1 := (360, [(0, .ref m0), (1, .int x1), (2, .int x2)], [], M)) (S2 := (350, [(0, .ref m0), (1, .int x1), (2, .int x2)], [], M)) rfl rfl rfl (fun c_347 => ?_) (fun c_347 => ?_)
                          · have c_347 : ¬ x2 = 18 := of_decide_eq_true c_347
                            have h3 : (3 : Int) ≤ nn := iln 3 hln 19 20 (by have a := i_nlt c_335; have b : x2.toInt ≠ 18 := fun e => c_347 (Int32.toInt_inj.mp e); have : (18 : Int32).toInt = 18 := rfl; have : (19 : Int32).toInt = 19 := rfl; omega) (by have := i_nlt c_341; have : (20 : Int32).toInt = 20 := rfl; omega) mlk_3_19_20
                            refine ml_blk 3 (S' := (363, [(0, .ref m0), (1, .int x1), (2, .int x2)], [.int 1, .int x1, .ref m0], M)) rfl ?_
                            refine ml_st (S' := (364, [(0, .ref m0), (1, .int x1), (2, .int x2)], [.int (x1 + 1), .ref m0], M)) rfl rfl rfl ?_
                            refine ml_call (a := [.ref m0, .int (x1 + 1)]) (rest := []) rfl (hR.okc rfl rfl rfl) rfl rfl (rm_b2 hR hF hC (by omega) (by omega) (by omega)) (fun v165 M166 h167 => ?_)
                            obtain ⟨rfl, h167⟩ := h167
                            rw [h167]
                            show ml _ _ _ (367, [(0, .ref m0), (2, .int x2)], [.int (f2 f (ca + (x1 + 1)))], M) _
                            exact J_367 (f2 f (ca + (x1 + 1)))
                          · have c_347 : ¬ (¬ x2 = 18) := of_decide_eq_false c_347
                            have h2 : (2 : Int) ≤ nn := iln 2 hln 18 18 (by rw [show _ = (18 : Int32) from Decidable.not_not.mp c_347]; decide) (by rw [show _ = (18 : Int32) from Decidable.not_not.mp c_347]; decide) mlk_2_18_18
                            refine ml_blk 3 (S' := (353, [(0, .ref m0), (1, .int x1), (2, .int x2)], [.int 1, .int x1, .ref m0], M)) rfl ?_
                            refine ml_st (S' := (354, [(0, .ref m0), (1, .int x1), (2, .int x2)], [.int (x1 + 1), .ref m0], M)) rfl rfl rfl ?_
                            refine ml_call (a := [.ref m0, .int (x1 + 1)]) (rest := []) rfl (hR.okc rfl rfl rfl) rfl rfl (rm_b1 hR hF hC (by omega) (by omega) (by omega)) (fun v168 M169 h170 => ?_)
                            obtain ⟨rfl, h170⟩ := h170
                            rw [h170]
                            show ml _ _ _ (357, [(0, .ref m0), (1, .int x1), (2, .int x2)], [.int (f1 f (ca + (x1 + 1)))], M) _
                            refine ml_st (S' := (367, [(0, .ref m0), (2, .int x2)], [.int (f1 f (ca + (x1 + 1)))], M)) rfl rfl rfl ?_
                            exact J_367 (f1 f (ca + (x1 + 1)))
                    · have c_300 : ¬ (¬ x2 = 188) := of_decide_eq_false c_300
                      have h2 : (2 : Int) ≤ nn := iln 2 hln 188 188 (by rw [show _ = (188 : Int32) from Decidable.not_not.mp c_300]; decide) (by rw [show _ = (188 : Int32) from Decidable.not_not.mp c_300]; decide) mlk_2_188_188
                      refine ml_blk 3 (S' := (306, [(0, .ref m0), (1, .int x1), (2, .int x2)], [.int 1, .int x1, .ref m0], M)) rfl ?_
                      refine ml_st (S' := (307, [(0, .ref m0), (1, .int x1), (2, .int x2)], [.int (x1 + 1), .ref m0], M)) rfl rfl rfl ?_
                      refine ml_call (a := [.ref m0, .int (x1 + 1)]) (rest := []) rfl (hR.okc rfl rfl rfl) rfl rfl (rm_b1 hR hF hC (by omega) (by omega) (by omega)) (fun v171 M172 h173 => ?_)
                      obtain ⟨rfl, h173⟩ := h173
                      rw [h173]
                      show ml _ _ _ (310, [(0, .ref m0), (1, .int x1), (2, .int x2)], [.int (f1 f (ca + (x1 + 1)))], M) _
                      refine ml_st (S' := (311, [(0, .ref m0), (1, .int x1), (2, .int x2)], [.int 4, .int (f1 f (ca + (x1 + 1)))], M)) rfl rfl rfl ?_
                      refine ml_if2 (S1 := (330, [], [], M)) (S2 := (314, [(0, .ref m0), (1, .int x1), (2, .int x2)], [], M)) rfl rfl rfl (fun c_311 => ?_) (fun c_311 => ?_)
                      · have c_311 : (f1 f (ca + (x1 + 1))) < 4 := of_decide_eq_true c_311
                        refine ml_st (S' := (331, [], [.int 0], M)) rfl rfl rfl ?_
                        exact ml_ret rfl (r_z (Or.inl rfl)) (⟨⟨_, rfl, Or.inl rfl⟩, rfl⟩)
                      · have c_311 : ¬ ((f1 f (ca + (x1 + 1))) < 4) := of_decide_eq_false c_311
                        refine ml_blk 3 (S' := (317, [(0, .ref m0), (1, .int x1), (2, .int x2)], [.int 1, .int x1, .ref m0], M)) rfl ?_
                        refine ml_st (S' := (318, [(0, .ref m0), (1, .int x1), (2, .int x2)], [.int (x1 + 1), .ref m0], M)) rfl rfl rfl ?_
                        refine ml_call (a := [.ref m0, .int (x1 + 1)]) (rest := []) rfl (hR.okc rfl rfl rfl) rfl rfl (rm_b1 hR hF hC (by omega) (by omega) (by omega)) (fun v174 M175 h176 => ?_)
                        obtain ⟨rfl, h176⟩ := h176
                        rw [h176]
                        show ml _ _ _ (321, [(0, .ref m0), (1, .int x1), (2, .int x2)], [.int (f1 f (ca + (x1 + 1)))], M) _
                        refine ml_st (S' := (323, [(0, .ref m0), (1, .int x1), (2, .int x2)], [.int 11, .int (f1 f (ca + (x1 + 1)))], M)) rfl rfl rfl ?_
                        refine ml_if2 (S1 := (330, [], [], M)) (S2 := (326, [(0, .ref m0), (1, .int x1), (2, .int x2)], [], M)) rfl rfl rfl (fun c_323 => ?_) (fun c_323 => ?_)
                        · have c_323 : 11 < (f1 f (ca + (x1 + 1))) := of_decide_eq_true c_323
                          refine ml_st (S' := (331, [], [.int 0], M)) rfl rfl rfl ?_
                          exact ml_ret rfl (r_z (Or.inl rfl)) (⟨⟨_, rfl, Or.inl rfl⟩, rfl⟩)
                        · have c_323 : ¬ (11 < (f1 f (ca + (x1 + 1)))) := of_decide_eq_false c_323
                          refine ml_st (S' := (327, [(0, .ref m0), (1, .int x1), (2, .int x2)], [.int 1], M)) rfl rfl rfl ?_
                          refine ml_st (S' := (331, [], [.int 1], M)) rfl rfl rfl ?_
                          exact ml_ret rfl (r_z (Or.inr rfl)) (⟨⟨_, rfl, Or.inr rfl⟩, rfl⟩)
                  · have c_220 : ¬ (¬ x2 = 196) := of_decide_eq_false c_220
                    have h4 : (4 : Int) ≤ nn := iln 4 hln 196 196 (by rw [show _ = (196 : Int32) from Decidable.not_not.mp c_220]; decide) (by rw [show _ = (196 : Int32) from Decidable.not_not.mp c_220]; decide) mlk_4_196_196
                    refine ml_blk 3 (S' := (226, [(0, .ref m0), (1, .int x1), (2, .int x2)], [.int 1, .int x1, .ref m0], M)) rfl ?_
                    refine ml_st (S' := (227, [(0, .ref m0), (1, .int x1), (2, .int x2)], [.int (x1 + 1), .ref m0], M)) rfl rfl rfl ?_
                    refine ml_call (a := [.ref m0, .int (x1 + 1)]) (rest := []) rfl (hR.okc rfl rfl rfl) rfl rfl (rm_b1 hR hF hC (by omega) (by omega) (by omega)) (fun v177 M178 h179 => ?_)
                    obtain ⟨rfl, h179⟩ := h179
                    rw [h179]
                    show ml _ _ _ (230, [(0, .ref m0), (1, .int x1), (2, .int x2)], [.int (f1 f (ca + (x1 + 1)))], M) _
                    refine ml_st (S' := (231, [(3, .int (f1 f (ca + (x1 + 1)))), (0, .ref m0), (1, .int x1), (2, .int x2)], [], M)) rfl rfl rfl ?_
                    refine ml_blk 2 (S' := (235, [(3, .int (f1 f (ca + (x1 + 1)))), (0, .ref m0), (1, .int x1), (2, .int x2)], [.int 169, .int (f1 f (ca + (x1 + 1)))], M)) rfl ?_
                    have J_247 : ml (mT g) d (mb_228 g).2 (247, [(0, .ref m0), (1, .int x1), (3, .int (f1 f (ca + (x1 + 1))))], [], M) (fun v M' => (∃ x : Int32, v = some (.int x) ∧ (x = 0 ∨ x = 1)) ∧ M' = M) := by
                      refine ml_blk 3 (S' := (250, [(0, .ref m0), (1, .int x1), (3, .int (f1 f (ca + (x1 + 1))))], [.int x1, .ref m0, .ref m0], M)) rfl ?_
                      refine ml_blk 2 (S' := (252, [(0, .ref m0), (1, .int x1), (3, .int (f1 f (ca + (x1 + 1))))], [.int (x1 + 2), .ref m0, .ref m0], M)) rfl ?_
                      refine ml_call (a := [.ref m0, .int (x1 + 2)]) (rest := [.ref m0]) rfl (hR.okc rfl rfl rfl) rfl rfl (rm_b2 hR hF hC (by omega) (by omega) (by omega)) (fun v180 M181 h182 => ?_)
                      obtain ⟨rfl, h182⟩ := h182
                      rw [h182]
                      show ml _ _ _ (255, [(0, .ref m0), (1, .int x1), (3, .int (f1 f (ca + (x1 + 1))))], [.int (f2 f (ca + (x1 + 2))), .ref m0], M) _
                      refine ml_blk 2 (S' := (258, [(0, .ref m0), (1, .int x1), (3, .int (f1 f (ca + (x1 + 1))))], [.int 22, .int (f1 f (ca + (x1 + 1))), .int (f2 f (ca + (x1 + 2))), .ref m0], M)) rfl ?_
                      refine ml_if2 (S1 := (279, [], [.int (f2 f (ca + (x1 + 2))), .ref m0], M)) (S2 := (261, [(0, .ref m0), (1, .int x1), (3, .int (f1 f (ca + (x1 + 1))))], [.int (f2 f (ca + (x1 + 2))), .ref m0], M)) rfl rfl rfl (fun c_258 => ?_) (fun c_258 => ?_)
                      · have c_258 : (f1 f (ca + (x1 + 1))) = 22 := of_decide_eq_true c_258
                        refine ml_st (S' := (280, [], [.int 2, .int (f2 f (ca + (x1 + 2))), .ref m0], M)) rfl rfl rfl ?_
                        refine ml_st (S' := (284, [], [.int 2, .int (f2 f (ca + (x1 + 2))), .ref m0], M)) rfl rfl rfl ?_
                        refine ml_call (a := [.ref m0, .int (f2 f (ca + (x1 + 2))), .int 2]) (rest := []) rfl (hR.okc rfl rfl rfl) rfl rfl (rm_local hR (hk79) (by omega)) (fun v183 M184 h185 => ?_)
                        obtain ⟨⟨u186, rfl, z187⟩, h185⟩ := h185
                        rw [h185]
                        show ml _ _ _ (287, [], [.int u186], M) _
                        refine ml_if (S1 := (294, [], [], M)) (S2 := (290, [], [], M)) rfl rfl rfl (fun c_287 => ?_) (fun c_287 => ?_)
                        · have c_287 : u186 = 0 := of_decide_eq_true c_287
                          refine ml_st (S' := (295, [], [.int 0], M)) rfl rfl rfl ?_
                          exact ml_ret rfl (r_z (Or.inl rfl)) (⟨⟨_, rfl, Or.inl rfl⟩, rfl⟩)
                        · have c_287 : ¬ (u186 = 0) := of_decide_eq_false c_287
                          refine ml_st (S' := (291, [], [.int 1], M)) rfl rfl rfl ?_
                          refine ml_st (S' := (295, [], [.int 1], M)) rfl rfl rfl ?_
                          exact ml_ret rfl (r_z (Or.inr rfl)) (⟨⟨_, rfl, Or.inr rfl⟩, rfl⟩)
                      · have c_258 : ¬ ((f1 f (ca + (x1 + 1))) = 22) := of_decide_eq_false c_258
                        refine ml_blk 2 (S' := (264, [(0, .ref m0), (1, .int x1), (3, .int (f1 f (ca + (x1 + 1))))], [.int 24, .int (f1 f (ca + (x1 + 1))), .int (f2 f (ca + (x1 + 2))), .ref m0], M)) rfl ?_
                        refine ml_if2 (S1 := (279, [], [.int (f2 f (ca + (x1 + 2))), .ref m0], M)) (S2 := (267, [(0, .ref m0), (1, .int x1), (3, .int (f1 f (ca + (x1 + 1))))], [.int (f2 f (ca + (x1 + 2))), .ref m0], M)) rfl rfl rfl (fun c_264 => ?_) (fun c_264 => ?_)
                        · have c_264 : (f1 f (ca + (x1 + 1))) = 24 := of_decide_eq_true c_264
                          refine ml_st (S' := (280, [], [.int 2, .int (f2 f (ca + (x1 + 2))), .ref m0], M)) rfl rfl rfl ?_
                          refine ml_st (S' := (284, [], [.int 2, .int (f2 f (ca + (x1 + 2))), .ref m0], M)) rfl rfl rfl ?_
                          refine ml_call (a := [.ref m0, .int (f2 f (ca + (x1 + 2))), .int 2]) (rest := []) rfl (hR.okc rfl rfl rfl) rfl rfl (rm_local hR (hk79) (by omega)) (fun v188 M189 h190 => ?_)
                          obtain ⟨⟨u191, rfl, z192⟩, h190⟩ := h190
                          rw [h190]
                          show ml _ _ _ (287, [], [.int u191], M) _
                          refine ml_if (S1 := (294, [], [], M)) (S2 := (290, [], [], M)) rfl rfl rfl (fun c_287 => ?_) (fun c_287 => ?_)
                          · have c_287 : u191 = 0 := of_decide_eq_true c_287
                            refine ml_st (S' := (295, [], [.int 0], M)) rfl rfl rfl ?_
                            exact ml_ret rfl (r_z (Or.inl rfl)) (⟨⟨_, rfl, Or.inl rfl⟩, rfl⟩)
                          · have c_287 : ¬ (u191 = 0) := of_decide_eq_false c_287
                            refine ml_st (S' := (291, [], [.int 1], M)) rfl rfl rfl ?_
                            refine ml_st (S' := (295, [], [.int 1], M)) rfl rfl rfl ?_
                            exact ml_ret rfl (r_z (Or.inr rfl)) (⟨⟨_, rfl, Or.inr rfl⟩, rfl⟩)
                        · have c_264 : ¬ ((f1 f (ca + (x1 + 1))) = 24) := of_decide_eq_false c_264
                          refine ml_blk 2 (S' := (270, [(0, .ref m0), (1, .int x1), (3, .int (f1 f (ca + (x1 + 1))))], [.int 55, .int (f1 f (ca + (x1 + 1))), .int (f2 f (ca + (x1 + 2))), .ref m0], M)) rfl ?_
                          refine ml_if2 (S1 := (279, [], [.int (f2 f (ca + (x1 + 2))), .ref m0], M)) (S2 := (273, [(0, .ref m0), (1, .int x1), (3, .int (f1 f (ca + (x1 + 1))))], [.int (f2 f (ca + (x1 + 2))), .ref m0], M)) rfl rfl rfl (fun c_270 => ?_) (fun c_270 => ?_)
                          · have c_270 : (f1 f (ca + (x1 + 1))) = 55 := of_decide_eq_true c_270
                            refine ml_st (S' := (280, [], [.int 2, .int (f2 f (ca + (x1 + 2))), .ref m0], M)) rfl rfl rfl ?_
                            refine ml_st (S' := (284, [], [.int 2, .int (f2 f (ca + (x1 + 2))), .ref m0], M)) rfl rfl rfl ?_
                            refine ml_call (a := [.ref m0, .int (f2 f (ca + (x1 + 2))), .int 2]) (rest := []) rfl (hR.okc rfl rfl rfl) rfl rfl (rm_local hR (hk79) (by omega)) (fun v193 M194 h195 => ?_)
                            obtain ⟨⟨u196, rfl, z197⟩, h195⟩ := h195
                            rw [h195]
                            show ml _ _ _ (287, [], [.int u196], M) _
                            refine ml_if (S1 := (294, [], [], M)) (S2 := (290, [], [], M)) rfl rfl rfl (fun c_287 => ?_) (fun c_287 => ?_)
                            · have c_287 : u196 = 0 := of_decide_eq_true c_287
                              refine ml_st (S' := (295, [], [.int 0], M)) rfl rfl rfl ?_
                              exact ml_ret rfl (r_z (Or.inl rfl)) (⟨⟨_, rfl, Or.inl rfl⟩, rfl⟩)
                            · have c_287 : ¬ (u196 = 0) := of_decide_eq_false c_287
                              refine ml_st (S' := (291, [], [.int 1], M)) rfl rfl rfl ?_
                              refine ml_st (S' := (295, [], [.int 1], M)) rfl rfl rfl ?_
                              exact ml_ret rfl (r_z (Or.inr rfl)) (⟨⟨_, rfl, Or.inr rfl⟩, rfl⟩)
                          · have c_270 : ¬ ((f1 f (ca + (x1 + 1))) = 55) := of_decide_eq_false c_270
                            refine ml_blk 2 (S' := (276, [(0, .ref m0), (1, .int x1), (3, .int (f1 f (ca + (x1 + 1))))], [.int 57, .int (f1 f (ca + (x1 + 1))), .int (f2 f (ca + (x1 + 2))), .ref m0], M)) rfl ?_
                            refine ml_if2 (S1 := (283, [(0, .ref m0), (1, .int x1), (3, .int (f1 f (ca + (x1 + 1))))], [.int (f2 f (ca + (x1 + 2))), .ref m0], M)) (S2 := (279, [], [.int (f2 f (ca + (x1 + 2))), .ref m0], M)) rfl rfl rfl (fun c_276 => ?_) (fun c_276 => ?_)
                            · have c_276 : ¬ (f1 f (ca + (x1 + 1))) = 57 := of_decide_eq_true c_276
                              refine ml_st (S' := (284, [], [.int 1, .int (f2 f (ca + (x1 + 2))), .ref m0], M)) rfl rfl rfl ?_
                              refine ml_call (a := [.ref m0, .int (f2 f (ca + (x1 + 2))), .int 1]) (rest := []) rfl (hR.okc rfl rfl rfl) rfl rfl (rm_local hR (hk79) (by omega)) (fun v198 M199 h200 => ?_)
                              obtain ⟨⟨u201, rfl, z202⟩, h200⟩ := h200
                              rw [h200]
                              show ml _ _ _ (287, [], [.int u201], M) _
                              refine ml_if (S1 := (294, [], [], M)) (S2 := (290, [], [], M)) rfl rfl rfl (fun c_287 => ?_) (fun c_287 => ?_)
                              · have c_287 : u201 = 0 := of_decide_eq_true c_287
                                refine ml_st (S' := (295, [], [.int 0], M)) rfl rfl rfl ?_
                                exact ml_ret rfl (r_z (Or.inl rfl)) (⟨⟨_, rfl, Or.inl rfl⟩, rfl⟩)
                              · have c_287 : ¬ (u201 = 0) := of_decide_eq_false c_287
                                refine ml_st (S' := (291, [], [.int 1], M)) rfl rfl rfl ?_
                                refine ml_st (S' := (295, [], [.int 1], M)) rfl rfl rfl ?_
                                exact ml_ret rfl (r_z (Or.inr rfl)) (⟨⟨_, rfl, Or.inr rfl⟩, rfl⟩)
                            · have c_276 : ¬ (¬ (f1 f (ca + (x1 + 1))) = 57) := of_decide_eq_false c_276
                              refine ml_st (S' := (280, [], [.int 2, .int (f2 f (ca + (x1 + 2))), .ref m0], M)) rfl rfl rfl ?_
                              refine ml_st (S' := (284, [], [.int 2, .int (f2 f (ca + (x1 + 2))), .ref m0], M)) rfl rfl rfl ?_
                              refine ml_call (a := [.ref m0, .int (f2 f (ca + (x1 + 2))), .int 2]) (rest := []) rfl (hR.okc rfl rfl rfl) rfl rfl (rm_local hR (hk79) (by omega)) (fun v203 M204 h205 => ?_)
                              obtain ⟨⟨u206, rfl, z207⟩, h205⟩ := h205
                              rw [h205]
                              show ml _ _ _ (287, [], [.int u206], M) _
                              refine ml_if (S1 := (294, [], [], M)) (S2 := (290, [], [], M)) rfl rfl rfl (fun c_287 => ?_) (fun c_287 => ?_)
                              · have c_287 : u206 = 0 := of_decide_eq_true c_287
                                refine ml_st (S' := (295, [], [.int 0], M)) rfl rfl rfl ?_
                                exact ml_ret rfl (r_z (Or.inl rfl)) (⟨⟨_, rfl, Or.inl rfl⟩, rfl⟩)
                              · have c_287 : ¬ (u206 = 0) := of_decide_eq_false c_287
                                refine ml_st (S' := (291, [], [.int 1], M)) rfl rfl rfl ?_
                                refine ml_st (S' := (295, [], [.int 1], M)) rfl rfl rfl ?_
                                exact ml_ret rfl (r_z (Or.inr rfl)) (⟨⟨_, rfl, Or.inr rfl⟩, rfl⟩)
                    refine ml_if2 (S1 := (247, [(0, .ref m0), (1, .int x1), (3, .int (f1 f (ca + (x1 + 1))))], [], M)) (S2 := (238, [(3, .int (f1 f (ca + (x1 + 1)))), (0, .ref m0), (1, .int x1), (2, .int x2)], [], M)) rfl rfl rfl (fun c_235 => ?_) (fun c_235 => ?_)
                    · have c_235 : ¬ (f1 f (ca + (x1 + 1))) = 169 := of_decide_eq_true c_235
                      exact J_247 
                    · have c_235 : ¬ (¬ (f1 f (ca + (x1 + 1))) = 169) := of_decide_eq_false c_235
                      refine ml_st (S' := (239, [(3, .int (f1 f (ca + (x1 + 1)))), (0, .ref m0), (1, .int x1), (2, .int x2)], [.ref m0], M)) rfl rfl rfl ?_
                      refine rg_int (S' := (242, [(3, .int (f1 f (ca + (x1 + 1)))), (0, .ref m0), (1, .int x1), (2, .int x2)], [.int mj], M)) rfl hR rfl (hP.2.2.1) rfl ?_
                      refine ml_st (S' := (244, [(3, .int (f1 f (ca + (x1 + 1)))), (0, .ref m0), (1, .int x1), (2, .int x2)], [.int 51, .int mj], M)) rfl rfl rfl ?_
                      refine ml_if2 (S1 := (294, [], [], M)) (S2 := (247, [(0, .ref m0), (1, .int x1), (3, .int (f1 f (ca + (x1 + 1))))], [], M)) rfl rfl rfl (fun c_244 => ?_) (fun c_244 => ?_)
                      · have c_244 : 51 ≤ mj := of_decide_eq_true c_244
                        refine ml_st (S' := (295, [], [.int 0], M)) rfl rfl rfl ?_
                        exact ml_ret rfl (r_z (Or.inl rfl)) (⟨⟨_, rfl, Or.inl rfl⟩, rfl⟩)
                      · have c_244 : ¬ (51 ≤ mj) := of_decide_eq_false c_244
                        exact J_247 
                · have c_200 : ¬ (¬ x2 = 132) := of_decide_eq_false c_200
                  have h2 : (2 : Int) ≤ nn := iln 2 hln 132 132 (by rw [show _ = (132 : Int32) from Decidable.not_not.mp c_200]; decide) (by rw [show _ = (132 : Int32) from Decidable.not_not.mp c_200]; decide) mlk_2_132_132
                  refine ml_blk 3 (S' := (206, [(0, .ref m0), (1, .int x1), (2, .int x2)], [.int x1, .ref m0, .ref m0], M)) rfl ?_
                  refine ml_blk 2 (S' := (208, [(0, .ref m0), (1, .int x1), (2, .int x2)], [.int (x1 + 1), .ref m0, .ref m0], M)) rfl ?_
                  refine ml_call (a := [.ref m0, .int (x1 + 1)]) (rest := [.ref m0]) rfl (hR.okc rfl rfl rfl) rfl rfl (rm_b1 hR hF hC (by omega) (by omega) (by omega)) (fun v208 M209 h210 => ?_)
                  obtain ⟨rfl, h210⟩ := h210
                  rw [h210]
                  show ml _ _ _ (211, [(0, .ref m0), (1, .int x1), (2, .int x2)], [.int (f1 f (ca + (x1 + 1))), .ref m0], M) _
                  refine ml_st (S' := (212, [(0, .ref m0), (1, .int x1), (2, .int x2)], [.int 1, .int (f1 f (ca + (x1 + 1))), .ref m0], M)) rfl rfl rfl ?_
                  refine ml_call (a := [.ref m0, .int (f1 f (ca + (x1 + 1))), .int 1]) (rest := []) rfl (hR.okc rfl rfl rfl) rfl rfl (rm_local hR (hk79) (by omega)) (fun v211 M212 h213 => ?_)
                  obtain ⟨⟨u214, rfl, z215⟩, h213⟩ := h213
                  rw [h213]
                  show ml _ _ _ (215, [(0, .ref m0), (1, .int x1), (2, .int x2)], [.int u214], M) _
                  exact ml_ret rfl (r_z (z215)) (⟨⟨_, rfl, z215⟩, rfl⟩)
              refine ml_if2 (S1 := (196, [(0, .ref m0), (1, .int x1), (2, .int x2)], [], M)) (S2 := (145, [(0, .ref m0), (1, .int x1), (2, .int x2)], [], M)) rfl rfl rfl (fun c_142 => ?_) (fun c_142 => ?_)
              · have c_142 : x2 < 59 := of_decide_eq_true c_142
                exact J_196 
              · have c_142 : ¬ (x2 < 59) := of_decide_eq_false c_142
                refine ml_blk 2 (S' := (148, [(0, .ref m0), (1, .int x1), (2, .int x2)], [.int 78, .int x2], M)) rfl ?_
                refine ml_if2 (S1 := (196, [(0, .ref m0), (1, .int x1), (2, .int x2)], [], M)) (S2 := (151, [(0, .ref m0), (2, .int x2)], [], M)) rfl rfl rfl (fun c_148 => ?_) (fun c_148 => ?_)
                · have c_148 : 78 < x2 := of_decide_eq_true c_148
                  exact J_196 
                · have c_148 : ¬ (78 < x2) := of_decide_eq_false c_148
                  exact J_151 
            refine ml_if2 (S1 := (139, [(0, .ref m0), (1, .int x1), (2, .int x2)], [], M)) (S2 := (133, [(0, .ref m0), (1, .int x1), (2, .int x2)], [], M)) rfl rfl rfl (fun c_130 => ?_) (fun c_130 => ?_)
            · have c_130 : x2 < 26 := of_decide_eq_true c_130
              exact J_139 
            · have c_130 : ¬ (x2 < 26) := of_decide_eq_false c_130
              refine ml_blk 2 (S' := (136, [(0, .ref m0), (1, .int x1), (2, .int x2)], [.int 45, .int x2], M)) rfl ?_
              refine ml_if2 (S1 := (151, [(0, .ref m0), (2, .int x2)], [], M)) (S2 := (139, [(0, .ref m0), (1, .int x1), (2, .int x2)], [], M)) rfl rfl rfl (fun c_136 => ?_) (fun c_136 => ?_)
              · have c_136 : x2 ≤ 45 := of_decide_eq_true c_136
                exact J_151 
              · have c_136 : ¬ (x2 ≤ 45) := of_decide_eq_false c_136
                exact J_139 
          refine ml_if2 (S1 := (127, [(0, .ref m0), (1, .int x1), (2, .int x2)], [], M)) (S2 := (76, [(0, .ref m0), (1, .int x1), (2, .int x2)], [], M)) rfl rfl rfl (fun c_73 => ?_) (fun c_73 => ?_)
          · have c_73 : x2 < 54 := of_decide_eq_true c_73
            exact J_127 
          · have c_73 : ¬ (x2 < 54) := of_decide_eq_false c_73
            refine ml_blk 2 (S' := (79, [(0, .ref m0), (1, .int x1), (2, .int x2)], [.int 58, .int x2], M)) rfl ?_
            refine ml_if2 (S1 := (127, [(0, .ref m0), (1, .int x1), (2, .int x2)], [], M)) (S2 := (82, [(0, .ref m0), (1, .int x1), (2, .int x2)], [], M)) rfl rfl rfl (fun c_79 => ?_) (fun c_79 => ?_)
            · have c_79 : 58 < x2 := of_decide_eq_true c_79
              exact J_127 
            · have c_79 : ¬ (58 < x2) := of_decide_eq_false c_79
              exact J_82  (iln 2 hln 54 58 (by have := i_nlt c_73; have : (54 : Int32).toInt = 54 := rfl; omega) (by have := i_nlt c_79; have : (58 : Int32).toInt = 58 := rfl; omega) mlk_2_54_58)
        refine ml_if2 (S1 := (70, [(0, .ref m0), (1, .int x1), (2, .int x2)], [], M)) (S2 := (64, [(0, .ref m0), (1, .int x1), (2, .int x2)], [], M)) rfl rfl rfl (fun c_61 => ?_) (fun c_61 => ?_)
        · have c_61 : x2 < 21 := of_decide_eq_true c_61
          exact J_70 
        · have c_61 : ¬ (x2 < 21) := of_decide_eq_false c_61
          refine ml_blk 2 (S' := (67, [(0, .ref m0), (1, .int x1), (2, .int x2)], [.int 25, .int x2], M)) rfl ?_
          refine ml_if2 (S1 := (82, [(0, .ref m0), (1, .int x1), (2, .int x2)], [], M)) (S2 := (70, [(0, .ref m0), (1, .int x1), (2, .int x2)], [], M)) rfl rfl rfl (fun c_67 => ?_) (fun c_67 => ?_)
          · have c_67 : x2 ≤ 25 := of_decide_eq_true c_67
            exact J_82  (iln 2 hln 21 25 (by have := i_nlt c_61; have : (21 : Int32).toInt = 21 := rfl; omega) (by have := i_le c_67; have : (25 : Int32).toInt = 25 := rfl; omega) mlk_2_21_25)
          · have c_67 : ¬ (x2 ≤ 25) := of_decide_eq_false c_67
            exact J_70 
      · have c_18 : ¬ (¬ x2 = 201) := of_decide_eq_false c_18
        exact J_21 
end
section
/-! the reference: a cut code (my own text) -/
section MIA7
theorem KB.set {k c : Nat} {R R' : rR} {i x : Int32} (h : KB k c R) (h1 : R' k i.toNatClampNeg = some x) (h2 : ∀ b, b ≠ i.toNatClampNeg → R' k b = R k b) : KB k c R' := by
  intro b hb
  by_cases e : b = i.toNatClampNeg
  · exact ⟨x, e ▸ h1⟩
  · rw [h2 b e]
    exact h b hb
def BGN (f : Nat → Int32) (ca cl : Int32) (mn : Nat) (R : rR) : Prop := ∀ k, k < mn → ∃ p, R 80 k = some p ∧ INS f ca cl p
theorem BGN.eq {f : Nat → Int32} {ca cl : Int32} {mn : Nat} {R R' : rR} (h : BGN f ca cl mn R) (e : R' 80 = R 80) : BGN f ca cl mn R' := fun k hk => by rw [e]; exact h k hk
theorem BGN.put {f : Nat → Int32} {ca cl : Int32} {mn : Nat} {R R' : rR} {i p : Int32} (h : BGN f ca cl mn R) (h0 : i.toInt = mn) (h1 : R' 80 i.toNatClampNeg = some p) (h2 : ∀ b, b ≠ i.toNatClampNeg → R' 80 b = R 80 b) (hp : INS f ca cl p) : BGN f ca cl (mn + 1) R' := by
  intro b hb
  by_cases e : b = i.toNatClampNeg
  · exact ⟨p, e ▸ h1, hp⟩
  · rw [h2 b e]
    have : i.toNatClampNeg = i.toInt.toNat := rfl
    exact h b (by omega)
/-- what the length of an instruction says -/
def INP (f : Nat → Int32) (ca cl pc x : Int32) : Prop := 1 ≤ x.toInt ∧ x.toInt ≤ 65540 ∧ ILN (f1 f (ca + pc)) x.toInt ∧ (f1 f (ca + pc) = 196 → f1 f (ca + (pc + 1)) = 132 → 6 ≤ x.toInt) ∧ (f1 f (ca + pc) = 170 ∨ f1 f (ca + pc) = 171 → SWF f ca cl pc)
set_option maxRecDepth 50000 in
theorem ml_170 : mlen 170 = 1 ∧ mlen 171 = 1 ∧ mlen 196 = 4 := by decide
theorem frm_ok {f : Nat → Int32} {ca cl pc x : Int32} (ho : (f1 f (ca + pc) = 170 ∨ f1 f (ca + pc) = 171) ∨ f1 f (ca + pc) = 196) (h : FRM f ca cl pc x) : INP f ca cl pc x := by
  obtain ⟨h1, h2, h3⟩ := h
  have e1 : (170 : Int32).toInt = 170 := rfl
  have e2 : (171 : Int32).toInt = 171 := rfl
  have e3 : (196 : Int32).toInt = 196 := rfl
  refine ⟨?_, h3, ?_, fun e => (h1 e).2, fun e => (h2 e).1⟩
  · rcases ho with e | e
    · exact (h2 e).2
    · have := (h1 e).1
      omega
  · rcases ho with (e | e) | e
    · have q := (h2 (Or.inl e)).2
      rw [e]
      exact ⟨by decide, by decide, by rw [e1]; show ((mlen 170 : Nat) : Int) ≤ _; rw [ml_170.1]; exact q⟩
    · have q := (h2 (Or.inr e)).2
      rw [e]
      exact ⟨by decide, by decide, by rw [e2]; show ((mlen 171 : Nat) : Int) ≤ _; rw [ml_170.2.1]; exact q⟩
    · have q := (h1 e).1
      rw [e]
      exact ⟨by decide, by decide, by rw [e3]; show ((mlen 196 : Nat) : Int) ≤ _; rw [ml_170.2.2]; exact q⟩
set_option maxRecDepth 100000 in
theorem len_tab : ∀ o, o < 202 → o = 170 ∨ o = 171 ∨ o = 196 ∨ ((xe_ch 29 o - 48).toInt = mlen o ∧ 1 ≤ mlen o ∧ mlen o ≤ 5) := by decide +kernel
theorem len_len : (xe_lt 29).2.2.2.length = 202 := by rfl
theorem len_op {f : Nat → Int32} {ca cl pc : Int32} (h : f1 f (ca + pc) ≤ 201) (h1 : ¬ f1 f (ca + pc) = 170) (h2 : ¬ f1 f (ca + pc) = 171) (h3 : ¬ f1 f (ca + pc) = 196) : INP f ca cl pc (xe_ch 29 (Int32.toNatClampNeg (f1 f (ca + pc))) - 48) := by
  have hb := f1_pos (f := f) (x := ca + pc)
  have h' := i_le h
  have e0 : (201 : Int32).toInt = 201 := rfl
  have e1 : (170 : Int32).toInt = 170 := rfl
  have e2 : (171 : Int32).toInt = 171 := rfl
  have e3 : (196 : Int32).toInt = 196 := rfl
  have g1 : (f1 f (ca + pc)).toInt ≠ 170 := fun e => h1 (Int32.toInt_inj.mp (e.trans e1.symm))
  have g2 : (f1 f (ca + pc)).toInt ≠ 171 := fun e => h2 (Int32.toInt_inj.mp (e.trans e2.symm))
  have g3 : (f1 f (ca + pc)).toInt ≠ 196 := fun e => h3 (Int32.toInt_inj.mp (e.trans e3.symm))
  have q := len_tab (f1 f (ca + pc)).toInt.toNat (by omega)
  have q2 := ((q.resolve_left (by omega)).resolve_left (by omega)).resolve_left (by omega)
  obtain ⟨a1, a2, a3⟩ := q2
  have a1' : (xe_ch 29 (Int32.toNatClampNeg (f1 f (ca + pc))) - 48).toInt = mlen (f1 f (ca + pc)).toInt.toNat := a1
  refine ⟨by omega, by omega, ⟨hb.1, by omega, by omega⟩, fun e => absurd e h3, fun e => (e.elim h1 h2).elim⟩
/-- the code of a method, cut up -/
def CUT (f : Nat → Int32) (n : Nat) (I : rI) (R : rR) : Prop := ∃ (ca cl wc mx : Int32) (mn : Nat), CK n ca cl I R ∧ I 75 = some (nI mn) ∧ I 76 = some wc ∧ I 79 = some mx ∧ (mn : Int) ≤ cl.toInt ∧ KB 81 cl.toInt.toNat R ∧ ∀ k, k < mn → ∃ p, R 80 k = some p ∧ INS f ca cl p ∧ (wc < 0 → AIM f ca cl p)
end MIA7
end
section
/-! the reference: a code is cut (laid by wip/p2/c77.py) -/
set_option maxHeartbeats 2000000 in
theorem rm_cuts {g : xe_G}  {m0 : Nat} {q : Nat → Nat} {z : Nat × Nat} {I : rI} {R : rR} {M : mi_H} {x1 co si : Int32} {n : Nat} {f : Nat → Int32} {S cN : Nat} {sa sl ch : Nat → Int32} {cp mj : Int32} {pa py : Nat → Int32} {ca cl mx : Int32}  (hR : RS g m0 q z I R M) (hk74 : I 74 = some co) (hk9 : I 9 = some si) (hF : FK n f I R) (hY : SK S cN sa sl ch I R) (hP : PK n f S cp mj pa py I R) (hE : EK f cp pa py sa sl ch) (hx0 : 0 ≤ x1.toInt) (hx8 : x1.toInt < 8192) (h37 : R 37 x1.toNatClampNeg = some ca) (h38 : R 38 x1.toNatClampNeg = some cl) (h40 : R 40 x1.toNatClampNeg = some mx) (hca : 0 ≤ ca.toInt) (hcl : 0 ≤ cl.toInt) (hcn : ca.toInt + cl.toInt ≤ n) (hCI : co = x1 → CUT f n I R) {d : Nat} (hd : 7 ≤ d) : mt (mT g) d 200 [.ref m0, .int x1] M (fun v M' => ∃ (x : Int32) (I' : rI) (R' : rR), v = some (.int x) ∧ RS g m0 q z I' R' M' ∧ eqI [74, 75, 76, 77, 78, 79] I I' ∧ eqR [80, 81] R R' ∧ (x = 0 ∨ x = 1) ∧ (CUT f n I' R' ∧ I' 74 = some x1 ∧ (x = 0 ∨ ∃ w : Int32, I' 76 = some w ∧ w < 0))) := by
  obtain ⟨d, rfl⟩ : ∃ e, d = e + 1 := ⟨d - 1, by omega⟩
  refine mt_in (b := mb_200 g) rfl rfl ?_
  show ml (mT g) d (mb_200 g).2 (0, [(0, .ref m0), (1, .int x1)], [], M) _
  have hn := hF.1
  refine ml_st (S' := (1, [(0, .ref m0), (1, .int x1)], [.ref m0], M)) rfl rfl rfl ?_
  refine rg_int (S' := (4, [(0, .ref m0), (1, .int x1)], [.int co], M)) rfl hR rfl (hk74) rfl ?_
  refine ml_st (S' := (5, [(0, .ref m0), (1, .int x1)], [.int x1, .int co], M)) rfl rfl rfl ?_
  refine ml_if2 (S1 := (21, [(0, .ref m0), (1, .int x1)], [], M)) (S2 := (8, [(0, .ref m0), (1, .int x1)], [], M)) rfl rfl rfl (fun c_5 => ?_) (fun c_5 => ?_)
  · have c_5 : ¬ co = x1 := of_decide_eq_true c_5
    refine ml_blk 2 (S' := (23, [(0, .ref m0), (1, .int x1)], [.int x1, .ref m0], M)) rfl ?_
    refine rp_int rfl hR rfl (fun M11 I12 hR13 e14 f15 => ?_)
    show ml _ _ _ (26, [(0, .ref m0), (1, .int x1)], [], M11) _
    refine ml_blk 2 (S' := (28, [(0, .ref m0), (1, .int x1)], [.ref m0, .ref m0], M11)) rfl ?_
    refine rg_ref (S' := (31, [(0, .ref m0), (1, .int x1)], [.ref (q 37), .ref m0], M11)) rfl hR13 rfl rfl ?_
    refine ml_st (S' := (32, [(0, .ref m0), (1, .int x1)], [.int x1, .ref (q 37), .ref m0], M11)) rfl rfl rfl ?_
    refine ra_ld (k := 37) (S' := (33, [(0, .ref m0), (1, .int x1)], [.int ca, .ref m0], M11)) rfl hR13 rfl (vin_lt hx0 (by omega)) (h37) rfl ?_
    refine rp_int rfl hR13 rfl (fun M16 I17 hR18 e19 f20 => ?_)
    show ml _ _ _ (36, [(0, .ref m0), (1, .int x1)], [], M16) _
    refine ml_blk 2 (S' := (38, [(0, .ref m0), (1, .int x1)], [.ref m0, .ref m0], M16)) rfl ?_
    refine rg_ref (S' := (41, [(0, .ref m0), (1, .int x1)], [.ref (q 38), .ref m0], M16)) rfl hR18 rfl rfl ?_
    refine ml_st (S' := (42, [(0, .ref m0), (1, .int x1)], [.int x1, .ref (q 38), .ref m0], M16)) rfl rfl rfl ?_
    refine ra_ld (k := 38) (S' := (43, [(0, .ref m0), (1, .int x1)], [.int cl, .ref m0], M16)) rfl hR18 rfl (vin_lt hx0 (by omega)) (h38) rfl ?_
    refine rp_int rfl hR18 rfl (fun M21 I22 hR23 e24 f25 => ?_)
    show ml _ _ _ (46, [(0, .ref m0), (1, .int x1)], [], M21) _
    refine ml_blk 2 (S' := (48, [(0, .ref m0), (1, .int x1)], [.ref m0, .ref m0], M21)) rfl ?_
    refine rg_ref (S' := (51, [(0, .ref m0), (1, .int x1)], [.ref (q 40), .ref m0], M21)) rfl hR23 rfl rfl ?_
    refine ml_st (S' := (52, [(0, .ref m0), (1, .int x1)], [.int x1, .ref (q 40), .ref m0], M21)) rfl rfl rfl ?_
    refine ra_ld (k := 40) (S' := (53, [(0, .ref m0), (1, .int x1)], [.int mx, .ref m0], M21)) rfl hR23 rfl (vin_lt hx0 (by omega)) (h40) rfl ?_
    refine rp_int rfl hR23 rfl (fun M26 I27 hR28 e29 f30 => ?_)
    show ml _ _ _ (56, [(0, .ref m0), (1, .int x1)], [], M26) _
    refine ml_blk 2 (S' := (58, [(0, .ref m0), (1, .int x1)], [.int 0, .ref m0], M26)) rfl ?_
    refine rp_int rfl hR28 rfl (fun M31 I32 hR33 e34 f35 => ?_)
    show ml _ _ _ (61, [(0, .ref m0), (1, .int x1)], [], M31) _
    refine ml_blk 2 (S' := (63, [(0, .ref m0), (1, .int x1)], [.int (-1), .ref m0], M31)) rfl ?_
    refine rp_int rfl hR33 rfl (fun M36 I37 hR38 e39 f40 => ?_)
    show ml _ _ _ (66, [(0, .ref m0), (1, .int x1)], [], M36) _
    have hCK : CK n ca cl I37 R := ⟨(f40 77 (by decide)).trans ((f35 77 (by decide)).trans ((f30 77 (by decide)).trans ((f25 77 (by decide)).trans (e19)))), (f40 78 (by decide)).trans ((f35 78 (by decide)).trans ((f30 78 (by decide)).trans (e24))), hca, hcl, hcn⟩
    refine ml_st (S' := (67, [(0, .ref m0), (1, .int x1)], [.int 0], M36)) rfl rfl rfl ?_
    refine ml_st (S' := (68, [(0, .ref m0), (2, .int 0)], [], M36)) rfl rfl rfl ?_
    have L_68 : ∀ (n_68 : Nat) (i68_2 : Int32) (M_68 : mi_H) (I_68 : rI) (R_68 : rR), (2147483648 - i68_2.toInt).toNat ≤ n_68 → RS g m0 q z I_68 R_68 M_68 → eqI [] I37 I_68 → eqR [81] R R_68 → (0 ≤ i68_2.toInt ∧ i68_2.toInt ≤ cl.toInt ∧ KB 81 i68_2.toInt.toNat R_68) → ml (mT g) d (mb_200 g).2 (68, [(0, .ref m0), (2, .int i68_2)], [], M_68) (fun v M' => ∃ (x : Int32) (I' : rI) (R' : rR), v = some (.int x) ∧ RS g m0 q z I' R' M' ∧ eqI [74, 75, 76, 77, 78, 79] I I' ∧ eqR [80, 81] R R' ∧ (x = 0 ∨ x = 1) ∧ (CUT f n I' R' ∧ I' 74 = some x1 ∧ (x = 0 ∨ ∃ w : Int32, I' 76 = some w ∧ w < 0))) := by
      intro n_68
      induction n_68 with
      | zero => intro i68_2 M_68 I_68 R_68 hn; exact (loop_zero hn).elim
      | succ n_68 ih_68 =>
        intro i68_2 M_68 I_68 R_68 hn_68 hR_68 hI_68 hV_68 hi_68
        obtain ⟨hk0, hk1, hk81⟩ := hi_68
        refine ml_blk 2 (S' := (70, [(0, .ref m0), (2, .int i68_2)], [.ref m0, .int i68_2], M_68)) rfl ?_
        refine rg_int (S' := (73, [(0, .ref m0), (2, .int i68_2)], [.int cl, .int i68_2], M_68)) rfl hR_68 rfl ((hI_68 78 (by decide)).trans ((f40 78 (by decide)).trans ((f35 78 (by decide)).trans ((f30 78 (by decide)).trans (e24))))) rfl ?_
        refine ml_if2 (S1 := (89, [(0, .ref m0), (2, .int i68_2)], [], M_68)) (S2 := (76, [(0, .ref m0), (2, .int i68_2)], [], M_68)) rfl rfl rfl (fun c_73 => ?_) (fun c_73 => ?_)
        · have c_73 : cl ≤ i68_2 := of_decide_eq_true c_73
          have hkb0 : KB 81 cl.toInt.toNat R_68 := by have q := i_le c_73; rw [show cl.toInt.toNat = i68_2.toInt.toNat by omega]; exact hk81
          refine ml_st (S' := (90, [(0, .ref m0), (2, .int i68_2)], [.int 0], M_68)) rfl rfl rfl ?_
          refine ml_st (S' := (91, [(0, .ref m0), (2, .int 0)], [], M_68)) rfl rfl rfl ?_
          have L_91 : ∀ (n_91 : Nat) (i91_2 : Int32) (mn : Nat) (w9 : Int32) (M_91 : mi_H) (I_91 : rI) (R_91 : rR), ((cl.toInt - i91_2.toInt).toNat + (if w9 < 0 then 2 else 1)) ≤ n_91 → RS g m0 q z I_91 R_91 M_91 → eqI [75, 76] I_68 I_91 → eqR [80, 81] R_68 R_91 → (0 ≤ i91_2.toInt ∧ i91_2.toInt ≤ cl.toInt ∧ (mn : Int) ≤ i91_2.toInt ∧ I_91 75 = some (nI mn) ∧ I_91 76 = some w9 ∧ KB 81 cl.toInt.toNat R_91 ∧ BGN f ca cl mn R_91) → ml (mT g) d (mb_200 g).2 (91, [(0, .ref m0), (2, .int i91_2)], [], M_91) (fun v M' => ∃ (x : Int32) (I' : rI) (R' : rR), v = some (.int x) ∧ RS g m0 q z I' R' M' ∧ eqI [74, 75, 76, 77, 78, 79] I I' ∧ eqR [80, 81] R R' ∧ (x = 0 ∨ x = 1) ∧ (CUT f n I' R' ∧ I' 74 = some x1 ∧ (x = 0 ∨ ∃ w : Int32, I' 76 = some w ∧ w < 0))) := by
            intro n_91
            induction n_91 with
            | zero => intro i91_2 mn w9 M_91 I_91 R_91 hn hR_91 hI_91 hV_91 hi; exact absurd hn (by split <;> omega)
            | succ n_91 ih_91 =>
              intro i91_2 mn w9 M_91 I_91 R_91 hn_91 hR_91 hI_91 hV_91 hi_91
              obtain ⟨hp0, hp1, hmn, h75, h76, hkb, hbg⟩ := hi_91
              refine ml_blk 2 (S' := (93, [(0, .ref m0), (2, .int i91_2)], [.ref m0, .int i91_2], M_91)) rfl ?_
              refine rg_int (S' := (96, [(0, .ref m0), (2, .int i91_2)], [.int cl, .int i91_2], M_91)) rfl hR_91 rfl ((hI_91 78 (by decide)).trans ((hI_68 78 (by decide)).trans ((f40 78 (by decide)).trans ((f35 78 (by decide)).trans ((f30 78 (by decide)).trans (e24)))))) rfl ?_
              refine ml_if2 (S1 := (233, [(0, .ref m0)], [], M_91)) (S2 := (99, [(0, .ref m0), (2, .int i91_2)], [], M_91)) rfl rfl rfl (fun c_96 => ?_) (fun c_96 => ?_)
              · have c_96 : cl ≤ i91_2 := of_decide_eq_true c_96
                refine ml_st (S' := (234, [(0, .ref m0)], [.int 0], M_91)) rfl rfl rfl ?_
                refine ml_st (S' := (235, [(0, .ref m0), (3, .int 0)], [], M_91)) rfl rfl rfl ?_
                have L_235 : ∀ (n_235 : Nat) (i235_3 : Int32) (w8 : Int32) (M_235 : mi_H) (I_235 : rI) (R_235 : rR), (2147483648 - i235_3.toInt).toNat ≤ n_235 → RS g m0 q z I_235 R_235 M_235 → eqI [76] I_91 I_235 → eqR [] R_91 R_235 → (0 ≤ i235_3.toInt ∧ i235_3.toInt ≤ mn ∧ I_235 76 = some w8 ∧ (w8 < 0 → ∀ j, j < i235_3.toInt.toNat → ∀ p, R_91 80 j = some p → AIM f ca cl p)) → ml (mT g) d (mb_200 g).2 (235, [(0, .ref m0), (3, .int i235_3)], [], M_235) (fun v M' => ∃ (x : Int32) (I' : rI) (R' : rR), v = some (.int x) ∧ RS g m0 q z I' R' M' ∧ eqI [74, 75, 76, 77, 78, 79] I I' ∧ eqR [80, 81] R R' ∧ (x = 0 ∨ x = 1) ∧ (CUT f n I' R' ∧ I' 74 = some x1 ∧ (x = 0 ∨ ∃ w : Int32, I' 76 = some w ∧ w < 0))) := by
                  intro n_235
                  induction n_235 with
                  | zero => intro i235_3 w8 M_235 I_235 R_235 hn; exact (loop_zero hn).elim
                  | succ n_235 ih_235 =>
                    intro i235_3 w8 M_235 I_235 R_235 hn_235 hR_235 hI_235 hV_235 hi_235
                    obtain ⟨hk0, hkm, h76b, hal⟩ := hi_235
                    refine ml_blk 2 (S' := (237, [(0, .ref m0), (3, .int i235_3)], [.ref m0, .int i235_3], M_235)) rfl ?_
                    refine rg_int (S' := (240, [(0, .ref m0), (3, .int i235_3)], [.int (nI mn), .int i235_3], M_235)) rfl hR_235 rfl ((hI_235 75 (by decide)).trans (h75)) rfl ?_
                    refine ml_if2 (S1 := (279, [(0, .ref m0)], [], M_235)) (S2 := (243, [(0, .ref m0), (3, .int i235_3)], [], M_235)) rfl rfl rfl (fun c_240 => ?_) (fun c_240 => ?_)
                    · have c_240 : (nI mn) ≤ i235_3 := of_decide_eq_true c_240
                      refine ml_st (S' := (280, [(0, .ref m0)], [.ref m0], M_235)) rfl rfl rfl ?_
                      refine rg_int (S' := (283, [(0, .ref m0)], [.int w8], M_235)) rfl hR_235 rfl (h76b) rfl ?_
                      refine ml_if (S1 := (290, [(0, .ref m0)], [], M_235)) (S2 := (286, [(0, .ref m0)], [], M_235)) rfl rfl rfl (fun c_283 => ?_) (fun c_283 => ?_)
                      · have c_283 : 0 ≤ w8 := of_decide_eq_true c_283
                        refine ml_st (S' := (291, [], [.int 0], M_235)) rfl rfl rfl ?_
                        have hC41 : CK n ca cl I_235 R_235 := (((hCK.mono (cIx hI_68 (by decide)) (cRx hV_68 (by decide))).mono (cIx hI_91 (by decide)) (cRx hV_91 (by decide))).mono (cIx hI_235 (by decide)) (cRx hV_235 (by decide)))
                        exact ml_ret rfl (r_z (Or.inl rfl)) (⟨_, _, _, rfl, hR_235, (((((((((eqI.rf.put f15 (by decide)).put f20 (by decide)).put f25 (by decide)).put f30 (by decide)).put f35 (by decide)).put f40 (by decide)).tr hI_68 (by decide)).tr hI_91 (by decide)).tr hI_235 (by decide)), (((eqR.rf.tr hV_68 (by decide)).tr hV_91 (by decide)).tr hV_235 (by decide)), Or.inl rfl, ⟨⟨ca, cl, w8, mx, mn, hC41, (hI_235 75 (by decide)).trans (h75), h76b, (hI_235 79 (by decide)).trans ((hI_91 79 (by decide)).trans ((hI_68 79 (by decide)).trans ((f40 79 (by decide)).trans ((f35 79 (by decide)).trans (e29))))), by omega, hkb.eq (hV_235 81 (by decide)), fun k hk => by obtain ⟨p, hp, hi⟩ := hbg k hk; exact ⟨p, (congrFun (hV_235 80 (by decide)) _).trans hp, hi, fun hw => by first | exact hal hw k (by have q := i_le c_240; rw [nI_val (by omega)] at q; omega) p hp | exact absurd hw (Int32.not_lt.mpr c_247)⟩⟩, (hI_235 74 (by decide)).trans ((hI_91 74 (by decide)).trans ((hI_68 74 (by decide)).trans ((f40 74 (by decide)).trans ((f35 74 (by decide)).trans ((f30 74 (by decide)).trans ((f25 74 (by decide)).trans ((f20 74 (by decide)).trans (e14)))))))), Or.inl rfl⟩⟩)
                      · have c_283 : ¬ (0 ≤ w8) := of_decide_eq_false c_283
                        refine ml_st (S' := (287, [(0, .ref m0)], [.int 1], M_235)) rfl rfl rfl ?_
                        refine ml_st (S' := (291, [], [.int 1], M_235)) rfl rfl rfl ?_
                        have hC42 : CK n ca cl I_235 R_235 := (((hCK.mono (cIx hI_68 (by decide)) (cRx hV_68 (by decide))).mono (cIx hI_91 (by decide)) (cRx hV_91 (by decide))).mono (cIx hI_235 (by decide)) (cRx hV_235 (by decide)))
                        exact ml_ret rfl (r_z (Or.inr rfl)) (⟨_, _, _, rfl, hR_235, (((((((((eqI.rf.put f15 (by decide)).put f20 (by decide)).put f25 (by decide)).put f30 (by decide)).put f35 (by decide)).put f40 (by decide)).tr hI_68 (by decide)).tr hI_91 (by decide)).tr hI_235 (by decide)), (((eqR.rf.tr hV_68 (by decide)).tr hV_91 (by decide)).tr hV_235 (by decide)), Or.inr rfl, ⟨⟨ca, cl, w8, mx, mn, hC42, (hI_235 75 (by decide)).trans (h75), h76b, (hI_235 79 (by decide)).trans ((hI_91 79 (by decide)).trans ((hI_68 79 (by decide)).trans ((f40 79 (by decide)).trans ((f35 79 (by decide)).trans (e29))))), by omega, hkb.eq (hV_235 81 (by decide)), fun k hk => by obtain ⟨p, hp, hi⟩ := hbg k hk; exact ⟨p, (congrFun (hV_235 80 (by decide)) _).trans hp, hi, fun hw => by first | exact hal hw k (by have q := i_le c_240; rw [nI_val (by omega)] at q; omega) p hp | exact absurd hw (Int32.not_lt.mpr c_247)⟩⟩, (hI_235 74 (by decide)).trans ((hI_91 74 (by decide)).trans ((hI_68 74 (by decide)).trans ((f40 74 (by decide)).trans ((f35 74 (by decide)).trans ((f30 74 (by decide)).trans ((f25 74 (by decide)).trans ((f20 74 (by decide)).trans (e14)))))))), Or.inr ⟨w8, h76b, Int32.not_le.mp c_283⟩⟩⟩)
                    · have c_240 : ¬ ((nI mn) ≤ i235_3) := of_decide_eq_false c_240
                      refine ml_st (S' := (244, [(0, .ref m0), (3, .int i235_3)], [.ref m0], M_235)) rfl rfl rfl ?_
                      refine rg_int (S' := (247, [(0, .ref m0), (3, .int i235_3)], [.int w8], M_235)) rfl hR_235 rfl (h76b) rfl ?_
                      refine ml_if (S1 := (279, [(0, .ref m0)], [], M_235)) (S2 := (250, [(0, .ref m0), (3, .int i235_3)], [], M_235)) rfl rfl rfl (fun c_247 => ?_) (fun c_247 => ?_)
                      · have c_247 : 0 ≤ w8 := of_decide_eq_true c_247
                        refine ml_st (S' := (280, [(0, .ref m0)], [.ref m0], M_235)) rfl rfl rfl ?_
                        refine rg_int (S' := (283, [(0, .ref m0)], [.int w8], M_235)) rfl hR_235 rfl (h76b) rfl ?_
                        refine ml_if (S1 := (290, [(0, .ref m0)], [], M_235)) (S2 := (286, [(0, .ref m0)], [], M_235)) rfl rfl rfl (fun c_283 => ?_) (fun c_283 => ?_)
                        · have c_283 : 0 ≤ w8 := of_decide_eq_true c_283
                          refine ml_st (S' := (291, [], [.int 0], M_235)) rfl rfl rfl ?_
                          have hC43 : CK n ca cl I_235 R_235 := (((hCK.mono (cIx hI_68 (by decide)) (cRx hV_68 (by decide))).mono (cIx hI_91 (by decide)) (cRx hV_91 (by decide))).mono (cIx hI_235 (by decide)) (cRx hV_235 (by decide)))
                          exact ml_ret rfl (r_z (Or.inl rfl)) (⟨_, _, _, rfl, hR_235, (((((((((eqI.rf.put f15 (by decide)).put f20 (by decide)).put f25 (by decide)).put f30 (by decide)).put f35 (by decide)).put f40 (by decide)).tr hI_68 (by decide)).tr hI_91 (by decide)).tr hI_235 (by decide)), (((eqR.rf.tr hV_68 (by decide)).tr hV_91 (by decide)).tr hV_235 (by decide)), Or.inl rfl, ⟨⟨ca, cl, w8, mx, mn, hC43, (hI_235 75 (by decide)).trans (h75), h76b, (hI_235 79 (by decide)).trans ((hI_91 79 (by decide)).trans ((hI_68 79 (by decide)).trans ((f40 79 (by decide)).trans ((f35 79 (by decide)).trans (e29))))), by omega, hkb.eq (hV_235 81 (by decide)), fun k hk => by obtain ⟨p, hp, hi⟩ := hbg k hk; exact ⟨p, (congrFun (hV_235 80 (by decide)) _).trans hp, hi, fun hw => by first | exact hal hw k (by have q := i_le c_240; rw [nI_val (by omega)] at q; omega) p hp | exact absurd hw (Int32.not_lt.mpr c_247)⟩⟩, (hI_235 74 (by decide)).trans ((hI_91 74 (by decide)).trans ((hI_68 74 (by decide)).trans ((f40 74 (by decide)).trans ((f35 74 (by decide)).trans ((f30 74 (by decide)).trans ((f25 74 (by decide)).trans ((f20 74 (by decide)).trans (e14)))))))), Or.inl rfl⟩⟩)
                        · have c_283 : ¬ (0 ≤ w8) := of_decide_eq_false c_283
                          refine ml_st (S' := (287, [(0, .ref m0)], [.int 1], M_235)) rfl rfl rfl ?_
                          refine ml_st (S' := (291, [], [.int 1], M_235)) rfl rfl rfl ?_
                          have hC44 : CK n ca cl I_235 R_235 := (((hCK.mono (cIx hI_68 (by decide)) (cRx hV_68 (by decide))).mono (cIx hI_91 (by decide)) (cRx hV_91 (by decide))).mono (cIx hI_235 (by decide)) (cRx hV_235 (by decide)))
                          exact ml_ret rfl (r_z (Or.inr rfl)) (⟨_, _, _, rfl, hR_235, (((((((((eqI.rf.put f15 (by decide)).put f20 (by decide)).put f25 (by decide)).put f30 (by decide)).put f35 (by decide)).put f40 (by decide)).tr hI_68 (by decide)).tr hI_91 (by decide)).tr hI_235 (by decide)), (((eqR.rf.tr hV_68 (by decide)).tr hV_91 (by decide)).tr hV_235 (by decide)), Or.inr rfl, ⟨⟨ca, cl, w8, mx, mn, hC44, (hI_235 75 (by decide)).trans (h75), h76b, (hI_235 79 (by decide)).trans ((hI_91 79 (by decide)).trans ((hI_68 79 (by decide)).trans ((f40 79 (by decide)).trans ((f35 79 (by decide)).trans (e29))))), by omega, hkb.eq (hV_235 81 (by decide)), fun k hk => by obtain ⟨p, hp, hi⟩ := hbg k hk; exact ⟨p, (congrFun (hV_235 80 (by decide)) _).trans hp, hi, fun hw => by first | exact hal hw k (by have q := i_le c_240; rw [nI_val (by omega)] at q; omega) p hp | exact absurd hw (Int32.not_lt.mpr c_247)⟩⟩, (hI_235 74 (by decide)).trans ((hI_91 74 (by decide)).trans ((hI_68 74 (by decide)).trans ((f40 74 (by decide)).trans ((f35 74 (by decide)).trans ((f30 74 (by decide)).trans ((f25 74 (by decide)).trans ((f20 74 (by decide)).trans (e14)))))))), Or.inr ⟨w8, h76b, Int32.not_le.mp c_283⟩⟩⟩)
                      · have c_247 : ¬ (0 ≤ w8) := of_decide_eq_false c_247
                        have hkl : i235_3.toInt < mn := by have q := i_nle c_240; rw [nI_val (by omega)] at q; exact q
                        obtain ⟨p9, hp9, hi9⟩ := hbg i235_3.toNatClampNeg (by show i235_3.toInt.toNat < mn; omega)
                        have hkb9 : KB 81 cl.toInt.toNat R_235 := hkb.eq (hV_235 81 (by decide))
                        refine ml_blk 2 (S' := (252, [(0, .ref m0), (3, .int i235_3)], [.ref m0, .ref m0], M_235)) rfl ?_
                        refine rg_ref (S' := (255, [(0, .ref m0), (3, .int i235_3)], [.ref (q 80), .ref m0], M_235)) rfl hR_235 rfl rfl ?_
                        refine ml_st (S' := (256, [(0, .ref m0), (3, .int i235_3)], [.int i235_3, .ref (q 80), .ref m0], M_235)) rfl rfl rfl ?_
                        refine ra_ld (k := 80) (S' := (257, [(0, .ref m0), (3, .int i235_3)], [.int p9, .ref m0], M_235)) rfl hR_235 rfl (vin_lt hk0 (by omega)) ((congrFun (hV_235 80 (by decide)) _).trans hp9) rfl ?_
                        have hF45 : FK n f I_235 R_235 := (((((((((hF.mono (pIx f15 (by decide)) (fun _ _ => rfl)).mono (pIx f20 (by decide)) (fun _ _ => rfl)).mono (pIx f25 (by decide)) (fun _ _ => rfl)).mono (pIx f30 (by decide)) (fun _ _ => rfl)).mono (pIx f35 (by decide)) (fun _ _ => rfl)).mono (pIx f40 (by decide)) (fun _ _ => rfl)).mono (cIx hI_68 (by decide)) (cRx hV_68 (by decide))).mono (cIx hI_91 (by decide)) (cRx hV_91 (by decide))).mono (cIx hI_235 (by decide)) (cRx hV_235 (by decide)))
                        have hC46 : CK n ca cl I_235 R_235 := (((hCK.mono (cIx hI_68 (by decide)) (cRx hV_68 (by decide))).mono (cIx hI_91 (by decide)) (cRx hV_91 (by decide))).mono (cIx hI_235 (by decide)) (cRx hV_235 (by decide)))
                        refine ml_call (a := [.ref m0, .int p9]) (rest := []) rfl (hR_235.okc rfl rfl rfl) rfl rfl (rm_aims hR_235 hF45 hC46 (hi9) (hkb9) (by omega)) (fun v47 M48 h49 => ?_)
                        obtain ⟨⟨u50, rfl, z51, w52⟩, h49⟩ := h49
                        rw [h49]
                        show ml _ _ _ (260, [(0, .ref m0), (3, .int i235_3)], [.int u50], M_235) _
                        have haimx := w52
                        refine ml_if (S1 := (273, [(0, .ref m0), (3, .int i235_3)], [], M_235)) (S2 := (263, [(0, .ref m0), (3, .int i235_3)], [], M_235)) rfl rfl rfl (fun c_260 => ?_) (fun c_260 => ?_)
                        · have c_260 : ¬ u50 = 0 := of_decide_eq_true c_260
                          have haim := haimx.resolve_left c_260
                          refine ml_st (S' := (276, [(3, .int (i235_3 + 1)), (0, .ref m0)], [], M_235)) rfl rfl rfl ?_
                          refine ml_st (S' := (235, [(0, .ref m0), (3, .int (i235_3 + 1))], [], M_235)) rfl rfl rfl ?_
                          exact ih_235 (i235_3 + 1) w8 _ _ _ (loop_inc (Int32.not_le.mp c_240) hn_235) hR_235 (eqI.rf.tr hI_235 (by decide)) (eqR.rf.tr hV_235 (by decide)) (⟨by rw [inc_lt (Int32.not_le.mp c_240)]; omega, by rw [inc_lt (Int32.not_le.mp c_240)]; omega, h76b, fun hw j hj p hp => by rw [inc_lt (Int32.not_le.mp c_240)] at hj; have e9 : i235_3.toNatClampNeg = i235_3.toInt.toNat := rfl; by_cases e : j = i235_3.toNatClampNeg; (have e2 : some p9 = some p := hp9.symm.trans (e ▸ hp); cases e2; exact haim); exact hal hw j (by omega) p hp⟩)
                        · have c_260 : ¬ (¬ u50 = 0) := of_decide_eq_false c_260
                          refine ml_blk 2 (S' := (265, [(0, .ref m0), (3, .int i235_3)], [.ref m0, .ref m0], M_235)) rfl ?_
                          refine rg_ref (S' := (268, [(0, .ref m0), (3, .int i235_3)], [.ref (q 80), .ref m0], M_235)) rfl hR_235 rfl rfl ?_
                          refine ml_st (S' := (269, [(0, .ref m0), (3, .int i235_3)], [.int i235_3, .ref (q 80), .ref m0], M_235)) rfl rfl rfl ?_
                          refine ra_ld (k := 80) (S' := (270, [(0, .ref m0), (3, .int i235_3)], [.int p9, .ref m0], M_235)) rfl hR_235 rfl (vin_lt hk0 (by omega)) ((congrFun (hV_235 80 (by decide)) _).trans hp9) rfl ?_
                          refine rp_int rfl hR_235 rfl (fun M53 I54 hR55 e56 f57 => ?_)
                          show ml _ _ _ (273, [(0, .ref m0), (3, .int i235_3)], [], M53) _
                          refine ml_st (S' := (276, [(3, .int (i235_3 + 1)), (0, .ref m0)], [], M53)) rfl rfl rfl ?_
                          refine ml_st (S' := (235, [(0, .ref m0), (3, .int (i235_3 + 1))], [], M53)) rfl rfl rfl ?_
                          exact ih_235 (i235_3 + 1) p9 _ _ _ (loop_inc (Int32.not_le.mp c_240) hn_235) hR55 ((eqI.rf.tr hI_235 (by decide)).put f57 (by decide)) (eqR.rf.tr hV_235 (by decide)) (⟨by rw [inc_lt (Int32.not_le.mp c_240)]; omega, by rw [inc_lt (Int32.not_le.mp c_240)]; omega, e56, fun hw => absurd hw (nlt0 hi9.1)⟩)
                exact L_235 _ 0 w9 _ _ _ (Nat.le_refl _) hR_91 eqI.rf eqR.rf (⟨by decide, by have : (0 : Int32).toInt = 0 := rfl; omega, h76, fun _ j hj => absurd hj (Nat.not_lt_zero j)⟩)
              · have c_96 : ¬ (cl ≤ i91_2) := of_decide_eq_false c_96
                refine ml_st (S' := (100, [(0, .ref m0), (2, .int i91_2)], [.ref m0], M_91)) rfl rfl rfl ?_
                refine rg_int (S' := (103, [(0, .ref m0), (2, .int i91_2)], [.int w9], M_91)) rfl hR_91 rfl (h76) rfl ?_
                refine ml_if (S1 := (233, [(0, .ref m0)], [], M_91)) (S2 := (106, [(0, .ref m0), (2, .int i91_2)], [], M_91)) rfl rfl rfl (fun c_103 => ?_) (fun c_103 => ?_)
                · have c_103 : 0 ≤ w9 := of_decide_eq_true c_103
                  refine ml_st (S' := (234, [(0, .ref m0)], [.int 0], M_91)) rfl rfl rfl ?_
                  refine ml_st (S' := (235, [(0, .ref m0), (3, .int 0)], [], M_91)) rfl rfl rfl ?_
                  have L_235 : ∀ (n_235 : Nat) (i235_3 : Int32) (w8 : Int32) (M_235 : mi_H) (I_235 : rI) (R_235 : rR), (2147483648 - i235_3.toInt).toNat ≤ n_235 → RS g m0 q z I_235 R_235 M_235 → eqI [76] I_91 I_235 → eqR [] R_91 R_235 → (0 ≤ i235_3.toInt ∧ i235_3.toInt ≤ mn ∧ I_235 76 = some w8 ∧ (w8 < 0 → ∀ j, j < i235_3.toInt.toNat → ∀ p, R_91 80 j = some p → AIM f ca cl p)) → ml (mT g) d (mb_200 g).2 (235, [(0, .ref m0), (3, .int i235_3)], [], M_235) (fun v M' => ∃ (x : Int32) (I' : rI) (R' : rR), v = some (.int x) ∧ RS g m0 q z I' R' M' ∧ eqI [74, 75, 76, 77, 78, 79] I I' ∧ eqR [80, 81] R R' ∧ (x = 0 ∨ x = 1) ∧ (CUT f n I' R' ∧ I' 74 = some x1 ∧ (x = 0 ∨ ∃ w : Int32, I' 76 = some w ∧ w < 0))) := by
                    intro n_235
                    induction n_235 with
                    | zero => intro i235_3 w8 M_235 I_235 R_235 hn; exact (loop_zero hn).elim
                    | succ n_235 ih_235 =>
                      intro i235_3 w8 M_235 I_235 R_235 hn_235 hR_235 hI_235 hV_235 hi_235
                      obtain ⟨hk0, hkm, h76b, hal⟩ := hi_235
                      refine ml_blk 2 (S' := (237, [(0, .ref m0), (3, .int i235_3)], [.ref m0, .int i235_3], M_235)) rfl ?_
                      refine rg_int (S' := (240, [(0, .ref m0), (3, .int i235_3)], [.int (nI mn), .int i235_3], M_235)) rfl hR_235 rfl ((hI_235 75 (by decide)).trans (h75)) rfl ?_
                      refine ml_if2 (S1 := (279, [(0, .ref m0)], [], M_235)) (S2 := (243, [(0, .ref m0), (3, .int i235_3)], [], M_235)) rfl rfl rfl (fun c_240 => ?_) (fun c_240 => ?_)
                      · have c_240 : (nI mn) ≤ i235_3 := of_decide_eq_true c_240
                        refine ml_st (S' := (280, [(0, .ref m0)], [.ref m0], M_235)) rfl rfl rfl ?_
                        refine rg_int (S' := (283, [(0, .ref m0)], [.int w8], M_235)) rfl hR_235 rfl (h76b) rfl ?_
                        refine ml_if (S1 := (290, [(0, .ref m0)], [], M_235)) (S2 := (286, [(0, .ref m0)], [], M_235)) rfl rfl rfl (fun c_283 => ?_) (fun c_283 => ?_)
                        · have c_283 : 0 ≤ w8 := of_decide_eq_true c_283
                          refine ml_st (S' := (291, [], [.int 0], M_235)) rfl rfl rfl ?_
                          have hC58 : CK n ca cl I_235 R_235 := (((hCK.mono (cIx hI_68 (by decide)) (cRx hV_68 (by decide))).mono (cIx hI_91 (by decide)) (cRx hV_91 (by decide))).mono (cIx hI_235 (by decide)) (cRx hV_235 (by decide)))
                          exact ml_ret rfl (r_z (Or.inl rfl)) (⟨_, _, _, rfl, hR_235, (((((((((eqI.rf.put f15 (by decide)).put f20 (by decide)).put f25 (by decide)).put f30 (by decide)).put f35 (by decide)).put f40 (by decide)).tr hI_68 (by decide)).tr hI_91 (by decide)).tr hI_235 (by decide)), (((eqR.rf.tr hV_68 (by decide)).tr hV_91 (by decide)).tr hV_235 (by decide)), Or.inl rfl, ⟨⟨ca, cl, w8, mx, mn, hC58, (hI_235 75 (by decide)).trans (h75), h76b, (hI_235 79 (by decide)).trans ((hI_91 79 (by decide)).trans ((hI_68 79 (by decide)).trans ((f40 79 (by decide)).trans ((f35 79 (by decide)).trans (e29))))), by omega, hkb.eq (hV_235 81 (by decide)), fun k hk => by obtain ⟨p, hp, hi⟩ := hbg k hk; exact ⟨p, (congrFun (hV_235 80 (by decide)) _).trans hp, hi, fun hw => by first | exact hal hw k (by have q := i_le c_240; rw [nI_val (by omega)] at q; omega) p hp | exact absurd hw (Int32.not_lt.mpr c_247)⟩⟩, (hI_235 74 (by decide)).trans ((hI_91 74 (by decide)).trans ((hI_68 74 (by decide)).trans ((f40 74 (by decide)).trans ((f35 74 (by decide)).trans ((f30 74 (by decide)).trans ((f25 74 (by decide)).trans ((f20 74 (by decide)).trans (e14)))))))), Or.inl rfl⟩⟩)
                        · have c_283 : ¬ (0 ≤ w8) := of_decide_eq_false c_283
                          refine ml_st (S' := (287, [(0, .ref m0)], [.int 1], M_235)) rfl rfl rfl ?_
                          refine ml_st (S' := (291, [], [.int 1], M_235)) rfl rfl rfl ?_
                          have hC59 : CK n ca cl I_235 R_235 := (((hCK.mono (cIx hI_68 (by decide)) (cRx hV_68 (by decide))).mono (cIx hI_91 (by decide)) (cRx hV_91 (by decide))).mono (cIx hI_235 (by decide)) (cRx hV_235 (by decide)))
                          exact ml_ret rfl (r_z (Or.inr rfl)) (⟨_, _, _, rfl, hR_235, (((((((((eqI.rf.put f15 (by decide)).put f20 (by decide)).put f25 (by decide)).put f30 (by decide)).put f35 (by decide)).put f40 (by decide)).tr hI_68 (by decide)).tr hI_91 (by decide)).tr hI_235 (by decide)), (((eqR.rf.tr hV_68 (by decide)).tr hV_91 (by decide)).tr hV_235 (by decide)), Or.inr rfl, ⟨⟨ca, cl, w8, mx, mn, hC59, (hI_235 75 (by decide)).trans (h75), h76b, (hI_235 79 (by decide)).trans ((hI_91 79 (by decide)).trans ((hI_68 79 (by decide)).trans ((f40 79 (by decide)).trans ((f35 79 (by decide)).trans (e29))))), by omega, hkb.eq (hV_235 81 (by decide)), fun k hk => by obtain ⟨p, hp, hi⟩ := hbg k hk; exact ⟨p, (congrFun (hV_235 80 (by decide)) _).trans hp, hi, fun hw => by first | exact hal hw k (by have q := i_le c_240; rw [nI_val (by omega)] at q; omega) p hp | exact absurd hw (Int32.not_lt.mpr c_247)⟩⟩, (hI_235 74 (by decide)).trans ((hI_91 74 (by decide)).trans ((hI_68 74 (by decide)).trans ((f40 74 (by decide)).trans ((f35 74 (by decide)).trans ((f30 74 (by decide)).trans ((f25 74 (by decide)).trans ((f20 74 (by decide)).trans (e14)))))))), Or.inr ⟨w8, h76b, Int32.not_le.mp c_283⟩⟩⟩)
                      · have c_240 : ¬ ((nI mn) ≤ i235_3) := of_decide_eq_false c_240
                        refine ml_st (S' := (244, [(0, .ref m0), (3, .int i235_3)], [.ref m0], M_235)) rfl rfl rfl ?_
                        refine rg_int (S' := (247, [(0, .ref m0), (3, .int i235_3)], [.int w8], M_235)) rfl hR_235 rfl (h76b) rfl ?_
                        refine ml_if (S1 := (279, [(0, .ref m0)], [], M_235)) (S2 := (250, [(0, .ref m0), (3, .int i235_3)], [], M_235)) rfl rfl rfl (fun c_247 => ?_) (fun c_247 => ?_)
                        · have c_247 : 0 ≤ w8 := of_decide_eq_true c_247
                          refine ml_st (S' := (280, [(0, .ref m0)], [.ref m0], M_235)) rfl rfl rfl ?_
                          refine rg_int (S' := (283, [(0, .ref m0)], [.int w8], M_235)) rfl hR_235 rfl (h76b) rfl ?_
                          refine ml_if (S1 := (290, [(0, .ref m0)], [], M_235)) (S2 := (286, [(0, .ref m0)], [], M_235)) rfl rfl rfl (fun c_283 => ?_) (fun c_283 => ?_)
                          · have c_283 : 0 ≤ w8 := of_decide_eq_true c_283
                            refine ml_st (S' := (291, [], [.int 0], M_235)) rfl rfl rfl ?_
                            have hC60 : CK n ca cl I_235 R_235 := (((hCK.mono (cIx hI_68 (by decide)) (cRx hV_68 (by decide))).mono (cIx hI_91 (by decide)) (cRx hV_91 (by decide))).mono (cIx hI_235 (by decide)) (cRx hV_235 (by decide)))
                            exact ml_ret rfl (r_z (Or.inl rfl)) (⟨_, _, _, rfl, hR_235, (((((((((eqI.rf.put f15 (by decide)).put f20 (by decide)).put f25 (by decide)).put f30 (by decide)).put f35 (by decide)).put f40 (by decide)).tr hI_68 (by decide)).tr hI_91 (by decide)).tr hI_235 (by decide)), (((eqR.rf.tr hV_68 (by decide)).tr hV_91 (by decide)).tr hV_235 (by decide)), Or.inl rfl, ⟨⟨ca, cl, w8, mx, mn, hC60, (hI_235 75 (by decide)).trans (h75), h76b, (hI_235 79 (by decide)).trans ((hI_91 79 (by decide)).trans ((hI_68 79 (by decide)).trans ((f40 79 (by decide)).trans ((f35 79 (by decide)).trans (e29))))), by omega, hkb.eq (hV_235 81 (by decide)), fun k hk => by obtain ⟨p, hp, hi⟩ := hbg k hk; exact ⟨p, (congrFun (hV_235 80 (by decide)) _).trans hp, hi, fun hw => by first | exact hal hw k (by have q := i_le c_240; rw [nI_val (by omega)] at q; omega) p hp | exact absurd hw (Int32.not_lt.mpr c_247)⟩⟩, (hI_235 74 (by decide)).trans ((hI_91 74 (by decide)).trans ((hI_68 74 (by decide)).trans ((f40 74 (by decide)).trans ((f35 74 (by decide)).trans ((f30 74 (by decide)).trans ((f25 74 (by decide)).trans ((f20 74 (by decide)).trans (e14)))))))), Or.inl rfl⟩⟩)
                          · have c_283 : ¬ (0 ≤ w8) := of_decide_eq_false c_283
                            refine ml_st (S' := (287, [(0, .ref m0)], [.int 1], M_235)) rfl rfl rfl ?_
                            refine ml_st (S' := (291, [], [.int 1], M_235)) rfl rfl rfl ?_
                            have hC61 : CK n ca cl I_235 R_235 := (((hCK.mono (cIx hI_68 (by decide)) (cRx hV_68 (by decide))).mono (cIx hI_91 (by decide)) (cRx hV_91 (by decide))).mono (cIx hI_235 (by decide)) (cRx hV_235 (by decide)))
                            exact ml_ret rfl (r_z (Or.inr rfl)) (⟨_, _, _, rfl, hR_235, (((((((((eqI.rf.put f15 (by decide)).put f20 (by decide)).put f25 (by decide)).put f30 (by decide)).put f35 (by decide)).put f40 (by decide)).tr hI_68 (by decide)).tr hI_91 (by decide)).tr hI_235 (by decide)), (((eqR.rf.tr hV_68 (by decide)).tr hV_91 (by decide)).tr hV_235 (by decide)), Or.inr rfl, ⟨⟨ca, cl, w8, mx, mn, hC61, (hI_235 75 (by decide)).trans (h75), h76b, (hI_235 79 (by decide)).trans ((hI_91 79 (by decide)).trans ((hI_68 79 (by decide)).trans ((f40 79 (by decide)).trans ((f35 79 (by decide)).trans (e29))))), by omega, hkb.eq (hV_235 81 (by decide)), fun k hk => by obtain ⟨p, hp, hi⟩ := hbg k hk; exact ⟨p, (congrFun (hV_235 80 (by decide)) _).trans hp, hi, fun hw => by first | exact hal hw k (by have q := i_le c_240; rw [nI_val (by omega)] at q; omega) p hp | exact absurd hw (Int32.not_lt.mpr c_247)⟩⟩, (hI_235 74 (by decide)).trans ((hI_91 74 (by decide)).trans ((hI_68 74 (by decide)).trans ((f40 74 (by decide)).trans ((f35 74 (by decide)).trans ((f30 74 (by decide)).trans ((f25 74 (by decide)).trans ((f20 74 (by decide)).trans (e14)))))))), Or.inr ⟨w8, h76b, Int32.not_le.mp c_283⟩⟩⟩)
                        · have c_247 : ¬ (0 ≤ w8) := of_decide_eq_false c_247
                          have hkl : i235_3.toInt < mn := by have q := i_nle c_240; rw [nI_val (by omega)] at q; exact q
                          obtain ⟨p9, hp9, hi9⟩ := hbg i235_3.toNatClampNeg (by show i235_3.toInt.toNat < mn; omega)
                          have hkb9 : KB 81 cl.toInt.toNat R_235 := hkb.eq (hV_235 81 (by decide))
                          refine ml_blk 2 (S' := (252, [(0, .ref m0), (3, .int i235_3)], [.ref m0, .ref m0], M_235)) rfl ?_
                          refine rg_ref (S' := (255, [(0, .ref m0), (3, .int i235_3)], [.ref (q 80), .ref m0], M_235)) rfl hR_235 rfl rfl ?_
                          refine ml_st (S' := (256, [(0, .ref m0), (3, .int i235_3)], [.int i235_3, .ref (q 80), .ref m0], M_235)) rfl rfl rfl ?_
                          refine ra_ld (k := 80) (S' := (257, [(0, .ref m0), (3, .int i235_3)], [.int p9, .ref m0], M_235)) rfl hR_235 rfl (vin_lt hk0 (by omega)) ((congrFun (hV_235 80 (by decide)) _).trans hp9) rfl ?_
                          have hF62 : FK n f I_235 R_235 := (((((((((hF.mono (pIx f15 (by decide)) (fun _ _ => rfl)).mono (pIx f20 (by decide)) (fun _ _ => rfl)).mono (pIx f25 (by decide)) (fun _ _ => rfl)).mono (pIx f30 (by decide)) (fun _ _ => rfl)).mono (pIx f35 (by decide)) (fun _ _ => rfl)).mono (pIx f40 (by decide)) (fun _ _ => rfl)).mono (cIx hI_68 (by decide)) (cRx hV_68 (by decide))).mono (cIx hI_91 (by decide)) (cRx hV_91 (by decide))).mono (cIx hI_235 (by decide)) (cRx hV_235 (by decide)))
                          have hC63 : CK n ca cl I_235 R_235 := (((hCK.mono (cIx hI_68 (by decide)) (cRx hV_68 (by decide))).mono (cIx hI_91 (by decide)) (cRx hV_91 (by decide))).mono (cIx hI_235 (by decide)) (cRx hV_235 (by decide)))
                          refine ml_call (a := [.ref m0, .int p9]) (rest := []) rfl (hR_235.okc rfl rfl rfl) rfl rfl (rm_aims hR_235 hF62 hC63 (hi9) (hkb9) (by omega)) (fun v64 M65 h66 => ?_)
                          obtain ⟨⟨u67, rfl, z68, w69⟩, h66⟩ := h66
                          rw [h66]
                          show ml _ _ _ (260, [(0, .ref m0), (3, .int i235_3)], [.int u67], M_235) _
                          have haimx := w69
                          refine ml_if (S1 := (273, [(0, .ref m0), (3, .int i235_3)], [], M_235)) (S2 := (263, [(0, .ref m0), (3, .int i235_3)], [], M_235)) rfl rfl rfl (fun c_260 => ?_) (fun c_260 => ?_)
                          · have c_260 : ¬ u67 = 0 := of_decide_eq_true c_260
                            have haim := haimx.resolve_left c_260
                            refine ml_st (S' := (276, [(3, .int (i235_3 + 1)), (0, .ref m0)], [], M_235)) rfl rfl rfl ?_
                            refine ml_st (S' := (235, [(0, .ref m0), (3, .int (i235_3 + 1))], [], M_235)) rfl rfl rfl ?_
                            exact ih_235 (i235_3 + 1) w8 _ _ _ (loop_inc (Int32.not_le.mp c_240) hn_235) hR_235 (eqI.rf.tr hI_235 (by decide)) (eqR.rf.tr hV_235 (by decide)) (⟨by rw [inc_lt (Int32.not_le.mp c_240)]; omega, by rw [inc_lt (Int32.not_le.mp c_240)]; omega, h76b, fun hw j hj p hp => by rw [inc_lt (Int32.not_le.mp c_240)] at hj; have e9 : i235_3.toNatClampNeg = i235_3.toInt.toNat := rfl; by_cases e : j = i235_3.toNatClampNeg; (have e2 : some p9 = some p := hp9.symm.trans (e ▸ hp); cases e2; exact haim); exact hal hw j (by omega) p hp⟩)
                          · have c_260 : ¬ (¬ u67 = 0) := of_decide_eq_false c_260
                            refine ml_blk 2 (S' := (265, [(0, .ref m0), (3, .int i235_3)], [.ref m0, .ref m0], M_235)) rfl ?_
                            refine rg_ref (S' := (268, [(0, .ref m0), (3, .int i235_3)], [.ref (q 80), .ref m0], M_235)) rfl hR_235 rfl rfl ?_
                            refine ml_st (S' := (269, [(0, .ref m0), (3, .int i235_3)], [.int i235_3, .ref (q 80), .ref m0], M_235)) rfl rfl rfl ?_
                            refine ra_ld (k := 80) (S' := (270, [(0, .ref m0), (3, .int i235_3)], [.int p9, .ref m0], M_235)) rfl hR_235 rfl (vin_lt hk0 (by omega)) ((congrFun (hV_235 80 (by decide)) _).trans hp9) rfl ?_
                            refine rp_int rfl hR_235 rfl (fun M70 I71 hR72 e73 f74 => ?_)
                            show ml _ _ _ (273, [(0, .ref m0), (3, .int i235_3)], [], M70) _
                            refine ml_st (S' := (276, [(3, .int (i235_3 + 1)), (0, .ref m0)], [], M70)) rfl rfl rfl ?_
                            refine ml_st (S' := (235, [(0, .ref m0), (3, .int (i235_3 + 1))], [], M70)) rfl rfl rfl ?_
                            exact ih_235 (i235_3 + 1) p9 _ _ _ (loop_inc (Int32.not_le.mp c_240) hn_235) hR72 ((eqI.rf.tr hI_235 (by decide)).put f74 (by decide)) (eqR.rf.tr hV_235 (by decide)) (⟨by rw [inc_lt (Int32.not_le.mp c_240)]; omega, by rw [inc_lt (Int32.not_le.mp c_240)]; omega, e73, fun hw => absurd hw (nlt0 hi9.1)⟩)
                  exact L_235 _ 0 w9 _ _ _ (Nat.le_refl _) hR_91 eqI.rf eqR.rf (⟨by decide, by have : (0 : Int32).toInt = 0 := rfl; omega, h76, fun _ j hj => absurd hj (Nat.not_lt_zero j)⟩)
                · have c_103 : ¬ (0 ≤ w9) := of_decide_eq_false c_103
                  have hlt := i_nle c_96
                  refine ml_blk 2 (S' := (108, [(0, .ref m0), (2, .int i91_2)], [.int i91_2, .ref m0], M_91)) rfl ?_
                  have hF75 : FK n f I_91 R_91 := ((((((((hF.mono (pIx f15 (by decide)) (fun _ _ => rfl)).mono (pIx f20 (by decide)) (fun _ _ => rfl)).mono (pIx f25 (by decide)) (fun _ _ => rfl)).mono (pIx f30 (by decide)) (fun _ _ => rfl)).mono (pIx f35 (by decide)) (fun _ _ => rfl)).mono (pIx f40 (by decide)) (fun _ _ => rfl)).mono (cIx hI_68 (by decide)) (cRx hV_68 (by decide))).mono (cIx hI_91 (by decide)) (cRx hV_91 (by decide)))
                  have hC76 : CK n ca cl I_91 R_91 := ((hCK.mono (cIx hI_68 (by decide)) (cRx hV_68 (by decide))).mono (cIx hI_91 (by decide)) (cRx hV_91 (by decide)))
                  refine ml_call (a := [.ref m0, .int i91_2]) (rest := []) rfl (hR_91.okc rfl rfl rfl) rfl rfl (rm_b1 hR_91 hF75 hC76 (hp0) (by omega) (by omega)) (fun v77 M78 h79 => ?_)
                  obtain ⟨rfl, h79⟩ := h79
                  rw [h79]
                  show ml _ _ _ (111, [(0, .ref m0), (2, .int i91_2)], [.int (f1 f (ca + i91_2))], M_91) _
                  refine ml_st (S' := (112, [(3, .int (f1 f (ca + i91_2))), (0, .ref m0), (2, .int i91_2)], [], M_91)) rfl rfl rfl ?_
                  refine ml_blk 2 (S' := (116, [(3, .int (f1 f (ca + i91_2))), (0, .ref m0), (2, .int i91_2)], [.int 201, .int (f1 f (ca + i91_2))], M_91)) rfl ?_
                  have J_163 : ∀ (s163_0 : Int32), (s163_0 < 0 ∨ INP f ca cl i91_2 s163_0) → ml (mT g) d (mb_200 g).2 (163, [(0, .ref m0), (2, .int i91_2), (3, .int (f1 f (ca + i91_2)))], [.int s163_0], M_91) (fun v M' => ∃ (x : Int32) (I' : rI) (R' : rR), v = some (.int x) ∧ RS g m0 q z I' R' M' ∧ eqI [74, 75, 76, 77, 78, 79] I I' ∧ eqR [80, 81] R R' ∧ (x = 0 ∨ x = 1) ∧ (CUT f n I' R' ∧ I' 74 = some x1 ∧ (x = 0 ∨ ∃ w : Int32, I' 76 = some w ∧ w < 0))) := by
                    intro s163_0 hj_163
                    refine ml_st (S' := (165, [(4, .int s163_0), (0, .ref m0), (2, .int i91_2), (3, .int (f1 f (ca + i91_2)))], [], M_91)) rfl rfl rfl ?_
                    refine ml_st (S' := (167, [(4, .int s163_0), (0, .ref m0), (2, .int i91_2), (3, .int (f1 f (ca + i91_2)))], [.int s163_0], M_91)) rfl rfl rfl ?_
                    refine ml_if (S1 := (190, [(0, .ref m0), (2, .int i91_2)], [], M_91)) (S2 := (170, [(4, .int s163_0), (0, .ref m0), (2, .int i91_2), (3, .int (f1 f (ca + i91_2)))], [], M_91)) rfl rfl rfl (fun c_167 => ?_) (fun c_167 => ?_)
                    · have c_167 : s163_0 < 0 := of_decide_eq_true c_167
                      refine ml_blk 2 (S' := (192, [(0, .ref m0), (2, .int i91_2)], [.int i91_2, .ref m0], M_91)) rfl ?_
                      refine rp_int rfl hR_91 rfl (fun M80 I81 hR82 e83 f84 => ?_)
                      show ml _ _ _ (195, [(0, .ref m0), (2, .int i91_2)], [], M80) _
                      refine ml_st (S' := (230, [(0, .ref m0), (2, .int i91_2)], [], M80)) rfl rfl rfl ?_
                      refine ml_st (S' := (91, [(0, .ref m0), (2, .int i91_2)], [], M80)) rfl rfl rfl ?_
                      exact ih_91 i91_2 mn i91_2 _ _ _ (by rw [if_pos (Int32.not_le.mp c_103)] at hn_91; rw [if_neg (nlt0 hp0)]; omega) hR82 ((eqI.rf.tr hI_91 (by decide)).put f84 (by decide)) (eqR.rf.tr hV_91 (by decide)) (⟨hp0, hp1, hmn, (f84 75 (by decide)).trans (h75), e83, hkb, hbg⟩)
                    · have c_167 : ¬ (s163_0 < 0) := of_decide_eq_false c_167
                      have hip := hj_163.resolve_left c_167
                      have hsum : (i91_2 + s163_0).toInt = i91_2.toInt + s163_0.toInt := i_add (by have := hip.1; omega) (by have := hip.2.1; omega)
                      refine ml_blk 3 (S' := (174, [(4, .int s163_0), (0, .ref m0), (2, .int i91_2), (3, .int (f1 f (ca + i91_2)))], [.int (i91_2 + s163_0)], M_91)) rfl ?_
                      refine ml_st (S' := (175, [(4, .int s163_0), (0, .ref m0), (2, .int i91_2), (3, .int (f1 f (ca + i91_2)))], [.ref m0, .int (i91_2 + s163_0)], M_91)) rfl rfl rfl ?_
                      refine rg_int (S' := (178, [(4, .int s163_0), (0, .ref m0), (2, .int i91_2), (3, .int (f1 f (ca + i91_2)))], [.int cl, .int (i91_2 + s163_0)], M_91)) rfl hR_91 rfl ((hI_91 78 (by decide)).trans ((hI_68 78 (by decide)).trans ((f40 78 (by decide)).trans ((f35 78 (by decide)).trans ((f30 78 (by decide)).trans (e24)))))) rfl ?_
                      refine ml_if2 (S1 := (190, [(0, .ref m0), (2, .int i91_2)], [], M_91)) (S2 := (181, [(4, .int s163_0), (0, .ref m0), (2, .int i91_2), (3, .int (f1 f (ca + i91_2)))], [], M_91)) rfl rfl rfl (fun c_178 => ?_) (fun c_178 => ?_)
                      · have c_178 : cl < (i91_2 + s163_0) := of_decide_eq_true c_178
                        refine ml_blk 2 (S' := (192, [(0, .ref m0), (2, .int i91_2)], [.int i91_2, .ref m0], M_91)) rfl ?_
                        refine rp_int rfl hR_91 rfl (fun M85 I86 hR87 e88 f89 => ?_)
                        show ml _ _ _ (195, [(0, .ref m0), (2, .int i91_2)], [], M85) _
                        refine ml_st (S' := (230, [(0, .ref m0), (2, .int i91_2)], [], M85)) rfl rfl rfl ?_
                        refine ml_st (S' := (91, [(0, .ref m0), (2, .int i91_2)], [], M85)) rfl rfl rfl ?_
                        exact ih_91 i91_2 mn i91_2 _ _ _ (by rw [if_pos (Int32.not_le.mp c_103)] at hn_91; rw [if_neg (nlt0 hp0)]; omega) hR87 ((eqI.rf.tr hI_91 (by decide)).put f89 (by decide)) (eqR.rf.tr hV_91 (by decide)) (⟨hp0, hp1, hmn, (f89 75 (by decide)).trans (h75), e88, hkb, hbg⟩)
                      · have c_178 : ¬ (cl < (i91_2 + s163_0)) := of_decide_eq_false c_178
                        have hle : i91_2.toInt + s163_0.toInt ≤ cl.toInt := by have q := i_nlt c_178; omega
                        refine ml_blk 3 (S' := (184, [(4, .int s163_0), (0, .ref m0), (2, .int i91_2), (3, .int (f1 f (ca + i91_2)))], [.int (f1 f (ca + i91_2)), .int i91_2, .ref m0], M_91)) rfl ?_
                        have hY90 : SK S cN sa sl ch I_91 R_91 := ((((((((hY.mono (pIx f15 (by decide)) (fun _ _ => rfl)).mono (pIx f20 (by decide)) (fun _ _ => rfl)).mono (pIx f25 (by decide)) (fun _ _ => rfl)).mono (pIx f30 (by decide)) (fun _ _ => rfl)).mono (pIx f35 (by decide)) (fun _ _ => rfl)).mono (pIx f40 (by decide)) (fun _ _ => rfl)).mono (cIx hI_68 (by decide)) (cRx hV_68 (by decide))).mono (cIx hI_91 (by decide)) (cRx hV_91 (by decide)))
                        have hP91 : PK n f S cp mj pa py I_91 R_91 := ((((((((hP.mono (pIx f15 (by decide)) (fun _ _ => rfl)).mono (pIx f20 (by decide)) (fun _ _ => rfl)).mono (pIx f25 (by decide)) (fun _ _ => rfl)).mono (pIx f30 (by decide)) (fun _ _ => rfl)).mono (pIx f35 (by decide)) (fun _ _ => rfl)).mono (pIx f40 (by decide)) (fun _ _ => rfl)).mono (cIx hI_68 (by decide)) (cRx hV_68 (by decide))).mono (cIx hI_91 (by decide)) (cRx hV_91 (by decide)))
                        refine ml_call (a := [.ref m0, .int i91_2, .int (f1 f (ca + i91_2))]) (rest := []) rfl (hR_91.okc rfl rfl rfl) rfl rfl (rm_operands hR_91 ((hI_91 9 (by decide)).trans ((hI_68 9 (by decide)).trans ((f40 9 (by decide)).trans ((f35 9 (by decide)).trans ((f30 9 (by decide)).trans ((f25 9 (by decide)).trans ((f20 9 (by decide)).trans ((f15 9 (by decide)).trans (hk9))))))))) ((hI_91 79 (by decide)).trans ((hI_68 79 (by decide)).trans ((f40 79 (by decide)).trans ((f35 79 (by decide)).trans (e29))))) hF75 hY90 hP91 hE hC76 (hp0) (hip.2.2.1) (hle) (by omega)) (fun v92 M93 h94 => ?_)
                        obtain ⟨⟨u95, rfl, z96⟩, h94⟩ := h94
                        rw [h94]
                        show ml _ _ _ (187, [(4, .int s163_0), (0, .ref m0), (2, .int i91_2), (3, .int (f1 f (ca + i91_2)))], [.int u95], M_91) _
                        refine ml_if (S1 := (198, [(4, .int s163_0), (0, .ref m0), (2, .int i91_2), (3, .int (f1 f (ca + i91_2)))], [], M_91)) (S2 := (190, [(0, .ref m0), (2, .int i91_2)], [], M_91)) rfl rfl rfl (fun c_187 => ?_) (fun c_187 => ?_)
                        · have c_187 : ¬ u95 = 0 := of_decide_eq_true c_187
                          have hins : INS f ca cl i91_2 := ⟨hp0, s163_0.toInt, hip.1, hle, hip.2.2.1, hip.2.2.2.1, hip.2.2.2.2⟩
                          have hN1 := nI_s1 (c := mn) (by omega)
                          have hNv : (nI mn).toInt = mn := nI_val (by omega)
                          have hip1 := hip.1
                          refine ml_st (S' := (199, [(4, .int s163_0), (0, .ref m0), (2, .int i91_2), (3, .int (f1 f (ca + i91_2)))], [.ref m0], M_91)) rfl rfl rfl ?_
                          refine rg_ref (S' := (202, [(4, .int s163_0), (0, .ref m0), (2, .int i91_2), (3, .int (f1 f (ca + i91_2)))], [.ref (q 81)], M_91)) rfl hR_91 rfl rfl ?_
                          refine ml_blk 2 (S' := (204, [(4, .int s163_0), (0, .ref m0), (2, .int i91_2), (3, .int (f1 f (ca + i91_2)))], [.ref m0, .int i91_2, .ref (q 81)], M_91)) rfl ?_
                          refine rg_int (S' := (207, [(4, .int s163_0), (0, .ref m0), (2, .int i91_2), (3, .int (f1 f (ca + i91_2)))], [.int (nI mn), .int i91_2, .ref (q 81)], M_91)) rfl hR_91 rfl (h75) rfl ?_
                          refine ra_st (k := 81) rfl hR_91 rfl (vin_lt hp0 (by omega)) (fun M97 R98 hR99 e100 g101 f102 => ?_)
                          show ml _ _ _ (208, [(4, .int s163_0), (0, .ref m0), (2, .int i91_2), (3, .int (f1 f (ca + i91_2)))], [], M97) _
                          refine ml_st (S' := (209, [(4, .int s163_0), (0, .ref m0), (2, .int i91_2), (3, .int (f1 f (ca + i91_2)))], [.ref m0], M97)) rfl rfl rfl ?_
                          refine rg_ref (S' := (212, [(4, .int s163_0), (0, .ref m0), (2, .int i91_2), (3, .int (f1 f (ca + i91_2)))], [.ref (q 80)], M97)) rfl hR99 rfl rfl ?_
                          refine ml_blk 2 (S' := (214, [(4, .int s163_0), (0, .ref m0), (2, .int i91_2), (3, .int (f1 f (ca + i91_2)))], [.ref m0, .ref m0, .ref (q 80)], M97)) rfl ?_
                          refine rg_int (S' := (217, [(4, .int s163_0), (0, .ref m0), (2, .int i91_2), (3, .int (f1 f (ca + i91_2)))], [.int (nI mn), .ref m0, .ref (q 80)], M97)) rfl hR99 rfl (h75) rfl ?_
                          refine ml_blk 3 (S' := (220, [(4, .int s163_0), (0, .ref m0), (2, .int i91_2), (3, .int (f1 f (ca + i91_2)))], [.int ((nI mn) + 1), .ref m0, .int (nI mn), .ref (q 80)], M97)) rfl ?_
                          refine rp_int rfl hR99 rfl (fun M103 I104 hR105 e106 f107 => ?_)
                          show ml _ _ _ (223, [(4, .int s163_0), (0, .ref m0), (2, .int i91_2), (3, .int (f1 f (ca + i91_2)))], [.int (nI mn), .ref (q 80)], M103) _
                          refine ml_st (S' := (224, [(4, .int s163_0), (0, .ref m0), (2, .int i91_2), (3, .int (f1 f (ca + i91_2)))], [.int i91_2, .int (nI mn), .ref (q 80)], M103)) rfl rfl rfl ?_
                          refine ra_st (k := 80) rfl hR105 rfl (vin_lt (by omega) (by omega)) (fun M108 R109 hR110 e111 g112 f113 => ?_)
                          show ml _ _ _ (225, [(4, .int s163_0), (0, .ref m0), (2, .int i91_2), (3, .int (f1 f (ca + i91_2)))], [], M108) _
                          refine ml_blk 3 (S' := (229, [(4, .int s163_0), (0, .ref m0), (2, .int i91_2), (3, .int (f1 f (ca + i91_2)))], [.int (i91_2 + s163_0)], M108)) rfl ?_
                          refine ml_st (S' := (230, [(0, .ref m0), (2, .int (i91_2 + s163_0))], [], M108)) rfl rfl rfl ?_
                          refine ml_st (S' := (91, [(0, .ref m0), (2, .int (i91_2 + s163_0))], [], M108)) rfl rfl rfl ?_
                          exact ih_91 (i91_2 + s163_0) (mn + 1) w9 _ _ _ (by rw [if_pos (Int32.not_le.mp c_103)] at hn_91; rw [if_pos (Int32.not_le.mp c_103)]; omega) hR110 ((eqI.rf.tr hI_91 (by decide)).put f107 (by decide)) (((eqR.rf.tr hV_91 (by decide)).put f102 (by decide)).put f113 (by decide)) (⟨by omega, by omega, by omega, by rw [← hN1]; exact e106, (f107 76 (by decide)).trans (h76), (hkb.set e100 g101).eq (f113 81 (by decide)), (hbg.eq (f102 80 (by decide))).put hNv e111 g112 hins⟩)
                        · have c_187 : ¬ (¬ u95 = 0) := of_decide_eq_false c_187
                          refine ml_blk 2 (S' := (192, [(0, .ref m0), (2, .int i91_2)], [.int i91_2, .ref m0], M_91)) rfl ?_
                          refine rp_int rfl hR_91 rfl (fun M114 I115 hR116 e117 f118 => ?_)
                          show ml _ _ _ (195, [(0, .ref m0), (2, .int i91_2)], [], M114) _
                          refine ml_st (S' := (230, [(0, .ref m0), (2, .int i91_2)], [], M114)) rfl rfl rfl ?_
                          refine ml_st (S' := (91, [(0, .ref m0), (2, .int i91_2)], [], M114)) rfl rfl rfl ?_
                          exact ih_91 i91_2 mn i91_2 _ _ _ (by rw [if_pos (Int32.not_le.mp c_103)] at hn_91; rw [if_neg (nlt0 hp0)]; omega) hR116 ((eqI.rf.tr hI_91 (by decide)).put f118 (by decide)) (eqR.rf.tr hV_91 (by decide)) (⟨hp0, hp1, hmn, (f118 75 (by decide)).trans (h75), e117, hkb, hbg⟩)
                  refine ml_if2 (S1 := (123, [(3, .int (f1 f (ca + i91_2))), (0, .ref m0), (2, .int i91_2)], [], M_91)) (S2 := (119, [(3, .int (f1 f (ca + i91_2))), (0, .ref m0), (2, .int i91_2)], [], M_91)) rfl rfl rfl (fun c_116 => ?_) (fun c_116 => ?_)
                  · have c_116 : (f1 f (ca + i91_2)) ≤ 201 := of_decide_eq_true c_116
                    refine ml_blk 2 (S' := (127, [(3, .int (f1 f (ca + i91_2))), (0, .ref m0), (2, .int i91_2)], [.int 170, .int (f1 f (ca + i91_2))], M_91)) rfl ?_
                    have J_144 : ((f1 f (ca + i91_2) = 170 ∨ f1 f (ca + i91_2) = 171) ∨ f1 f (ca + i91_2) = 196) → ml (mT g) d (mb_200 g).2 (144, [(0, .ref m0), (2, .int i91_2), (3, .int (f1 f (ca + i91_2)))], [], M_91) (fun v M' => ∃ (x : Int32) (I' : rI) (R' : rR), v = some (.int x) ∧ RS g m0 q z I' R' M' ∧ eqI [74, 75, 76, 77, 78, 79] I I' ∧ eqR [80, 81] R R' ∧ (x = 0 ∨ x = 1) ∧ (CUT f n I' R' ∧ I' 74 = some x1 ∧ (x = 0 ∨ ∃ w : Int32, I' 76 = some w ∧ w < 0))) := by
                      intro hj_144
                      refine ml_blk 3 (S' := (147, [(0, .ref m0), (2, .int i91_2), (3, .int (f1 f (ca + i91_2)))], [.int (f1 f (ca + i91_2)), .int i91_2, .ref m0], M_91)) rfl ?_
                      refine ml_call (a := [.ref m0, .int i91_2, .int (f1 f (ca + i91_2))]) (rest := []) rfl (hR_91.okc rfl rfl rfl) rfl rfl (rm_formed hR_91 hF75 hC76 (hp0) (hlt) (rfl) (hj_144) (by omega)) (fun v119 M120 h121 => ?_)
                      obtain ⟨⟨u122, rfl, w123⟩, h121⟩ := h121
                      rw [h121]
                      show ml _ _ _ (150, [(0, .ref m0), (2, .int i91_2), (3, .int (f1 f (ca + i91_2)))], [.int u122], M_91) _
                      refine ml_st (S' := (163, [(0, .ref m0), (2, .int i91_2), (3, .int (f1 f (ca + i91_2)))], [.int u122], M_91)) rfl rfl rfl ?_
                      exact J_163 u122 (w123.imp id (fun h => frm_ok hj_144 h))
                    refine ml_if2 (S1 := (144, [(0, .ref m0), (2, .int i91_2), (3, .int (f1 f (ca + i91_2)))], [], M_91)) (S2 := (130, [(3, .int (f1 f (ca + i91_2))), (0, .ref m0), (2, .int i91_2)], [], M_91)) rfl rfl rfl (fun c_127 => ?_) (fun c_127 => ?_)
                    · have c_127 : (f1 f (ca + i91_2)) = 170 := of_decide_eq_true c_127
                      exact J_144  (Or.inl (Or.inl c_127))
                    · have c_127 : ¬ ((f1 f (ca + i91_2)) = 170) := of_decide_eq_false c_127
                      refine ml_blk 2 (S' := (134, [(3, .int (f1 f (ca + i91_2))), (0, .ref m0), (2, .int i91_2)], [.int 171, .int (f1 f (ca + i91_2))], M_91)) rfl ?_
                      refine ml_if2 (S1 := (144, [(0, .ref m0), (2, .int i91_2), (3, .int (f1 f (ca + i91_2)))], [], M_91)) (S2 := (137, [(3, .int (f1 f (ca + i91_2))), (0, .ref m0), (2, .int i91_2)], [], M_91)) rfl rfl rfl (fun c_134 => ?_) (fun c_134 => ?_)
                      · have c_134 : (f1 f (ca + i91_2)) = 171 := of_decide_eq_true c_134
                        exact J_144  (Or.inl (Or.inr c_134))
                      · have c_134 : ¬ ((f1 f (ca + i91_2)) = 171) := of_decide_eq_false c_134
                        refine ml_blk 2 (S' := (141, [(3, .int (f1 f (ca + i91_2))), (0, .ref m0), (2, .int i91_2)], [.int 196, .int (f1 f (ca + i91_2))], M_91)) rfl ?_
                        refine ml_if2 (S1 := (153, [(3, .int (f1 f (ca + i91_2))), (0, .ref m0), (2, .int i91_2)], [], M_91)) (S2 := (144, [(0, .ref m0), (2, .int i91_2), (3, .int (f1 f (ca + i91_2)))], [], M_91)) rfl rfl rfl (fun c_141 => ?_) (fun c_141 => ?_)
                        · have c_141 : ¬ (f1 f (ca + i91_2)) = 196 := of_decide_eq_true c_141
                          refine ml_blk 2 (S' := (157, [(3, .int (f1 f (ca + i91_2))), (0, .ref m0), (2, .int i91_2)], [.int (f1 f (ca + i91_2)), .ref (g.2.1 29)], M_91)) rfl ?_
                          obtain ⟨fl124, hl125⟩ := hR_91.2.2.2.2.2 29 (by decide)
                          refine ml_scat (lk := 29) (S' := (160, [(3, .int (f1 f (ca + i91_2))), (0, .ref m0), (2, .int i91_2)], [.int (xe_ch 29 (Int32.toNatClampNeg (f1 f (ca + i91_2))))], M_91)) rfl hl125 (by decide) rfl (nlt0 f1_pos.1) (by rw [len_len]; show (f1 f (ca + i91_2)).toInt.toNat < 202; have q := i_le c_116; have : (201 : Int32).toInt = 201 := rfl; omega) rfl ?_
                          refine ml_blk 2 (S' := (163, [(0, .ref m0), (2, .int i91_2), (3, .int (f1 f (ca + i91_2)))], [.int ((xe_ch 29 (Int32.toNatClampNeg (f1 f (ca + i91_2)))) - 48)], M_91)) rfl ?_
                          exact J_163 ((xe_ch 29 (Int32.toNatClampNeg (f1 f (ca + i91_2)))) - 48) (Or.inr (len_op c_116 c_127 c_134 c_141))
                        · have c_141 : ¬ (¬ (f1 f (ca + i91_2)) = 196) := of_decide_eq_false c_141
                          exact J_144  (Or.inr (Decidable.not_not.mp c_141))
                  · have c_116 : ¬ ((f1 f (ca + i91_2)) ≤ 201) := of_decide_eq_false c_116
                    refine ml_st (S' := (120, [(3, .int (f1 f (ca + i91_2))), (0, .ref m0), (2, .int i91_2)], [.int (-1)], M_91)) rfl rfl rfl ?_
                    refine ml_st (S' := (163, [(0, .ref m0), (2, .int i91_2), (3, .int (f1 f (ca + i91_2)))], [.int (-1)], M_91)) rfl rfl rfl ?_
                    exact J_163 (-1) (Or.inl (by decide))
          exact L_91 _ 0 0 (-1) _ _ _ (Nat.le_refl _) hR_68 eqI.rf eqR.rf (⟨by decide, hcl, by decide, (hI_68 75 (by decide)).trans ((f40 75 (by decide)).trans (e34)), (hI_68 76 (by decide)).trans (e39), hkb0, fun k hk => absurd hk (Nat.not_lt_zero k)⟩)
        · have c_73 : ¬ (cl ≤ i68_2) := of_decide_eq_false c_73
          refine ml_st (S' := (77, [(0, .ref m0), (2, .int i68_2)], [.ref m0], M_68)) rfl rfl rfl ?_
          refine rg_ref (S' := (80, [(0, .ref m0), (2, .int i68_2)], [.ref (q 81)], M_68)) rfl hR_68 rfl rfl ?_
          refine ml_blk 2 (S' := (82, [(0, .ref m0), (2, .int i68_2)], [.int (-1), .int i68_2, .ref (q 81)], M_68)) rfl ?_
          refine ra_st (k := 81) rfl hR_68 rfl (vin_lt hk0 (by have := i_nle c_73; omega)) (fun M126 R127 hR128 e129 g130 f131 => ?_)
          show ml _ _ _ (83, [(0, .ref m0), (2, .int i68_2)], [], M126) _
          refine ml_st (S' := (86, [(2, .int (i68_2 + 1)), (0, .ref m0)], [], M126)) rfl rfl rfl ?_
          refine ml_st (S' := (68, [(0, .ref m0), (2, .int (i68_2 + 1))], [], M126)) rfl rfl rfl ?_
          exact ih_68 (i68_2 + 1) _ _ _ (loop_inc (Int32.not_le.mp c_73) hn_68) hR128 (eqI.rf.tr hI_68 (by decide)) ((eqR.rf.tr hV_68 (by decide)).put f131 (by decide)) (⟨by rw [inc_lt (Int32.not_le.mp c_73)]; omega, by rw [inc_lt (Int32.not_le.mp c_73)]; have := i_nle c_73; omega, by rw [show (i68_2 + 1).toInt.toNat = i68_2.toInt.toNat + 1 by rw [inc_lt (Int32.not_le.mp c_73)]; omega]; exact hk81.put (by omega) e129 g130⟩)
    exact L_68 _ 0 _ _ _ (Nat.le_refl _) hR38 eqI.rf eqR.rf (⟨by decide, hcl, fun i hi => absurd hi (Nat.not_lt_zero i)⟩)
  · have c_5 : ¬ (¬ co = x1) := of_decide_eq_false c_5
    have hc8 := hCI (Decidable.not_not.mp c_5)
    obtain ⟨ca2, cl2, wc2, mx2, mn2, hC2, h75, hw76, h79, hr2⟩ := hc8
    refine ml_st (S' := (9, [(0, .ref m0), (1, .int x1)], [.ref m0], M)) rfl rfl rfl ?_
    refine rg_int (S' := (12, [(0, .ref m0), (1, .int x1)], [.int wc2], M)) rfl hR rfl (hw76) rfl ?_
    refine ml_if (S1 := (19, [(0, .ref m0), (1, .int x1)], [], M)) (S2 := (15, [(0, .ref m0), (1, .int x1)], [], M)) rfl rfl rfl (fun c_12 => ?_) (fun c_12 => ?_)
    · have c_12 : 0 ≤ wc2 := of_decide_eq_true c_12
      refine ml_st (S' := (20, [], [.int 0], M)) rfl rfl rfl ?_
      exact ml_ret rfl (r_z (Or.inl rfl)) (⟨_, _, _, rfl, hR, eqI.rf, eqR.rf, Or.inl rfl, ⟨hCI (Decidable.not_not.mp c_5), (Decidable.not_not.mp c_5) ▸ hk74, Or.inl rfl⟩⟩)
    · have c_12 : ¬ (0 ≤ wc2) := of_decide_eq_false c_12
      refine ml_st (S' := (16, [(0, .ref m0), (1, .int x1)], [.int 1], M)) rfl rfl rfl ?_
      refine ml_st (S' := (20, [], [.int 1], M)) rfl rfl rfl ?_
      exact ml_ret rfl (r_z (Or.inr rfl)) (⟨_, _, _, rfl, hR, eqI.rf, eqR.rf, Or.inr rfl, ⟨hCI (Decidable.not_not.mp c_5), (Decidable.not_not.mp c_5) ▸ hk74, Or.inr ⟨wc2, hw76, Int32.not_le.mp c_12⟩⟩⟩)
end
section
/-! the reference: questions about a cut code (my own text) -/
section MIA8
theorem CUT.mono {f : Nat → Int32} {n : Nat} {I I' : rI} {R R' : rR} (h : CUT f n I R) (hI : ∀ k, k ∈ [75, 76, 77, 78, 79] → I' k = I k) (hR : ∀ k, k ∈ [80, 81] → R' k = R k) : CUT f n I' R' := by
  obtain ⟨ca, cl, wc, mx, mn, h1, h2, h3, h4, h5, h6, h7⟩ := h
  refine ⟨ca, cl, wc, mx, mn, ⟨(hI 77 (by decide)).trans h1.1, (hI 78 (by decide)).trans h1.2.1, h1.2.2⟩, (hI 75 (by decide)).trans h2, (hI 76 (by decide)).trans h3, (hI 79 (by decide)).trans h4, h5, h6.eq (hR 81 (by decide)), fun k hk => ?_⟩
  rw [hR 80 (by decide)]
  exact h7 k hk
def CUO (f : Nat → Int32) (n : Nat) (co : Int32) (I : rI) (R : rR) : Prop := co = -1 ∨ CUT f n I R
theorem CUO.mono {f : Nat → Int32} {n : Nat} {co : Int32} {I I' : rI} {R R' : rR} (h : CUO f n co I R) (hI : ∀ k, k ∈ [75, 76, 77, 78, 79] → I' k = I k) (hR : ∀ k, k ∈ [80, 81] → R' k = R k) : CUO f n co I' R' := h.imp id (fun h => h.mono hI hR)
theorem CUO.of {f : Nat → Int32} {n : Nat} {co x : Int32} {I : rI} {R : rR} (h : CUO f n co I R) (hx : 0 ≤ x.toInt) (e : co = x) : CUT f n I R := h.resolve_left (fun q => by rw [← e, q] at hx; exact absurd hx (by decide))
theorem INS.lt {f : Nat → Int32} {ca cl p : Int32} (h : INS f ca cl p) : p.toInt + 1 ≤ cl.toInt := by
  obtain ⟨h0, nn, h1, h2, -⟩ := h
  omega
theorem INS.sw {f : Nat → Int32} {ca cl p : Int32} (h : INS f ca cl p) (ho : f1 f (ca + p) = 170 ∨ f1 f (ca + p) = 171) : SWF f ca cl p := by
  obtain ⟨h0, nn, h1, h2, h3, h4, h5⟩ := h
  exact h5 ho
theorem SWF.p8 {f : Nat → Int32} {ca cl p : Int32} (h : SWF f ca cl p) (ho : f1 f (ca + p) = 170 ∨ f1 f (ca + p) = 171) : (pd p).toInt + 8 ≤ cl.toInt := by
  rcases ho with e | e
  · have := (h.1 e).1
    omega
  · exact (h.2 e).1
def GDI : List Nat := [3, 8, 16, 25, 26, 49, 51, 52, 53, 54, 58, 61, 65, 66, 67, 68, 69, 70, 71, 72]
def GDR : List Nat := [1, 4, 5, 12, 21, 22, 27, 28, 29, 30, 31, 32, 33, 34, 35, 36, 37, 38, 39, 40, 41, 42, 43, 44, 45, 46]
theorem GD.mono {n : Nat} {f : Nat → Int32} {I I' : rI} {R R' : rR} (h : GD n f I R) (hI : ∀ k, k ∈ GDI → I' k = I k) (hR : ∀ k, k ∈ GDR → R' k = R k) : GD n f I' R' := by
  obtain ⟨S, cN, sa, sl, ch, cp, mj, pa, py, hA, fA, mA, aA, nf, ni, kf, km, hF0, hY0, hP0, hE0, hFO, k54, k58, k61, hkf, k25, hfk, hkm, k26, hmk, hNk, b, c, k70, k71, hc⟩ := h
  refine ⟨S, cN, sa, sl, ch, cp, mj, pa, py, hA, fA, mA, aA, nf, ni, kf, km, hF0.mono (fun k hk => hI k ?_) (fun k hk => hR k ?_), hY0.mono (fun k hk => hI k ?_) (fun k hk => hR k ?_), hP0.mono (fun k hk => hI k ?_) (fun k hk => hR k ?_), hE0, hFO, (hI 54 (by decide)).trans k54, (hI 58 (by decide)).trans k58, (hI 61 (by decide)).trans k61, hkf, (hI 25 (by decide)).trans k25, fun x hx k hk => ?_, hkm, (hI 26 (by decide)).trans k26, fun x hx => ?_, fun k hk => ?_, b, c, (hI 70 (by decide)).trans k70, (hI 71 (by decide)).trans k71, hc⟩
  · revert k; decide
  · revert k; decide
  · revert k; decide
  · revert k; decide
  · revert k; decide
  · revert k; decide
  · rw [hR k (by revert k; decide)]
    exact hfk x hx k hk
  · obtain ⟨h1, h2, ds, h3, h4⟩ := hmk x hx
    refine ⟨fun k hk => ?_, h2.fr (fun k hk => congrFun (hR k (by revert k; decide)) x), ds, by rw [hR 36 (by decide)]; exact h3, h4⟩
    rw [hR k (by revert k; decide)]
    exact h1 k hk
  · rw [hI k (by revert k; decide)]
    exact hNk k hk
end MIA8
end
section
/-! the reference: questions about a cut code (laid by wip/p2/c78.py) -/
set_option maxHeartbeats 2000000 in
theorem rm_plain {g : xe_G}  {m0 : Nat} {q : Nat → Nat} {z : Nat × Nat} {I : rI} {R : rR} {M : mi_H} {x1 x2 : Int32} {n : Nat} {f : Nat → Int32} {ca cl : Int32}  (hR : RS g m0 q z I R M) (hF : FK n f I R) (hC : CK n ca cl I R) (hI : INS f ca cl x1) (hop : f1 f (ca + x1) = x2) {d : Nat} (hd : 2 ≤ d) : mt (mT g) d 234 [.ref m0, .int x1, .int x2] M (fun v M' => (∃ x : Int32, v = some (.int x)) ∧ M' = M) := by
  obtain ⟨d, rfl⟩ : ∃ e, d = e + 1 := ⟨d - 1, by omega⟩
  refine mt_in (b := mb_234 g) rfl rfl ?_
  show ml (mT g) d (mb_234 g).2 (0, [(0, .ref m0), (1, .int x1), (2, .int x2)], [], M) _
  have hn := hF.1
  obtain ⟨hca, hcl, hcn⟩ := hC.2.2
  have hI2 := hI
  obtain ⟨h0, nn, hn1, hnn, hln, h196, hsw⟩ := hI2
  rw [hop] at hln
  have d1 : (x1 + 1).toInt = x1.toInt + 1 := by have e9 : (1 : Int32).toInt = 1 := rfl; rw [i_add (by omega) (by omega), e9]
  refine ml_blk 2 (S' := (4, [(0, .ref m0), (1, .int x1), (2, .int x2)], [.int 196, .int x2], M)) rfl ?_
  refine ml_if2 (S1 := (15, [(0, .ref m0), (1, .int x1), (2, .int x2)], [], M)) (S2 := (7, [(0, .ref m0), (1, .int x1), (2, .int x2)], [], M)) rfl rfl rfl (fun c_4 => ?_) (fun c_4 => ?_)
  · have c_4 : ¬ x2 = 196 := of_decide_eq_true c_4
    refine ml_blk 2 (S' := (18, [(0, .ref m0), (1, .int x1), (2, .int x2)], [.int 19, .int x2], M)) rfl ?_
    refine ml_if2 (S1 := (24, [(0, .ref m0), (1, .int x1), (2, .int x2)], [], M)) (S2 := (21, [(0, .ref m0), (1, .int x1), (2, .int x2)], [], M)) rfl rfl rfl (fun c_18 => ?_) (fun c_18 => ?_)
    · have c_18 : ¬ x2 = 19 := of_decide_eq_true c_18
      refine ml_blk 2 (S' := (27, [(0, .ref m0), (1, .int x1), (2, .int x2)], [.int 26, .int x2], M)) rfl ?_
      have J_46 : ml (mT g) d (mb_234 g).2 (46, [(2, .int x2)], [], M) (fun v M' => (∃ x : Int32, v = some (.int x)) ∧ M' = M) := by
        refine ml_blk 2 (S' := (49, [(2, .int x2)], [.int 59, .int x2], M)) rfl ?_
        refine ml_if2 (S1 := (68, [(2, .int x2)], [], M)) (S2 := (52, [(2, .int x2)], [], M)) rfl rfl rfl (fun c_49 => ?_) (fun c_49 => ?_)
        · have c_49 : x2 < 59 := of_decide_eq_true c_49
          refine ml_blk 2 (S' := (72, [(2, .int x2)], [.int 200, .int x2], M)) rfl ?_
          refine ml_if2 (S1 := (81, [(2, .int x2)], [], M)) (S2 := (75, [(2, .int x2)], [], M)) rfl rfl rfl (fun c_72 => ?_) (fun c_72 => ?_)
          · have c_72 : ¬ x2 = 200 := of_decide_eq_true c_72
            refine ml_blk 2 (S' := (85, [(2, .int x2)], [.int 201, .int x2], M)) rfl ?_
            refine ml_if2 (S1 := (94, [(2, .int x2)], [], M)) (S2 := (88, [(2, .int x2)], [], M)) rfl rfl rfl (fun c_85 => ?_) (fun c_85 => ?_)
            · have c_85 : ¬ x2 = 201 := of_decide_eq_true c_85
              refine ml_st (S' := (95, [], [.int x2], M)) rfl rfl rfl ?_
              exact ml_ret rfl (rfl) (⟨⟨_, rfl⟩, rfl⟩)
            · have c_85 : ¬ (¬ x2 = 201) := of_decide_eq_false c_85
              refine ml_st (S' := (91, [(2, .int x2)], [.int 168], M)) rfl rfl rfl ?_
              refine ml_st (S' := (95, [], [.int 168], M)) rfl rfl rfl ?_
              exact ml_ret rfl (rfl) (⟨⟨_, rfl⟩, rfl⟩)
          · have c_72 : ¬ (¬ x2 = 200) := of_decide_eq_false c_72
            refine ml_st (S' := (78, [(2, .int x2)], [.int 167], M)) rfl rfl rfl ?_
            refine ml_st (S' := (95, [], [.int 167], M)) rfl rfl rfl ?_
            exact ml_ret rfl (rfl) (⟨⟨_, rfl⟩, rfl⟩)
        · have c_49 : ¬ (x2 < 59) := of_decide_eq_false c_49
          refine ml_blk 2 (S' := (55, [(2, .int x2)], [.int 78, .int x2], M)) rfl ?_
          refine ml_if2 (S1 := (68, [(2, .int x2)], [], M)) (S2 := (58, [(2, .int x2)], [], M)) rfl rfl rfl (fun c_55 => ?_) (fun c_55 => ?_)
          · have c_55 : 78 < x2 := of_decide_eq_true c_55
            refine ml_blk 2 (S' := (72, [(2, .int x2)], [.int 200, .int x2], M)) rfl ?_
            refine ml_if2 (S1 := (81, [(2, .int x2)], [], M)) (S2 := (75, [(2, .int x2)], [], M)) rfl rfl rfl (fun c_72 => ?_) (fun c_72 => ?_)
            · have c_72 : ¬ x2 = 200 := of_decide_eq_true c_72
              refine ml_blk 2 (S' := (85, [(2, .int x2)], [.int 201, .int x2], M)) rfl ?_
              refine ml_if2 (S1 := (94, [(2, .int x2)], [], M)) (S2 := (88, [(2, .int x2)], [], M)) rfl rfl rfl (fun c_85 => ?_) (fun c_85 => ?_)
              · have c_85 : ¬ x2 = 201 := of_decide_eq_true c_85
                refine ml_st (S' := (95, [], [.int x2], M)) rfl rfl rfl ?_
                exact ml_ret rfl (rfl) (⟨⟨_, rfl⟩, rfl⟩)
              · have c_85 : ¬ (¬ x2 = 201) := of_decide_eq_false c_85
                refine ml_st (S' := (91, [(2, .int x2)], [.int 168], M)) rfl rfl rfl ?_
                refine ml_st (S' := (95, [], [.int 168], M)) rfl rfl rfl ?_
                exact ml_ret rfl (rfl) (⟨⟨_, rfl⟩, rfl⟩)
            · have c_72 : ¬ (¬ x2 = 200) := of_decide_eq_false c_72
              refine ml_st (S' := (78, [(2, .int x2)], [.int 167], M)) rfl rfl rfl ?_
              refine ml_st (S' := (95, [], [.int 167], M)) rfl rfl rfl ?_
              exact ml_ret rfl (rfl) (⟨⟨_, rfl⟩, rfl⟩)
          · have c_55 : ¬ (78 < x2) := of_decide_eq_false c_55
            refine ml_blk 3 (S' := (63, [(2, .int x2)], [.int 59, .int x2, .int 54], M)) rfl ?_
            refine ml_blk 2 (S' := (65, [(2, .int x2)], [.int 4, .int (x2 - 59), .int 54], M)) rfl ?_
            refine ml_blk 2 (S' := (67, [(2, .int x2)], [.int (54 + ((x2 - 59) / 4))], M)) rfl ?_
            exact ml_ret rfl (rfl) (⟨⟨_, rfl⟩, rfl⟩)
      refine ml_if2 (S1 := (46, [(2, .int x2)], [], M)) (S2 := (30, [(0, .ref m0), (1, .int x1), (2, .int x2)], [], M)) rfl rfl rfl (fun c_27 => ?_) (fun c_27 => ?_)
      · have c_27 : x2 < 26 := of_decide_eq_true c_27
        exact J_46 
      · have c_27 : ¬ (x2 < 26) := of_decide_eq_false c_27
        refine ml_blk 2 (S' := (33, [(0, .ref m0), (1, .int x1), (2, .int x2)], [.int 45, .int x2], M)) rfl ?_
        refine ml_if2 (S1 := (46, [(2, .int x2)], [], M)) (S2 := (36, [(0, .ref m0), (1, .int x1), (2, .int x2)], [], M)) rfl rfl rfl (fun c_33 => ?_) (fun c_33 => ?_)
        · have c_33 : 45 < x2 := of_decide_eq_true c_33
          exact J_46 
        · have c_33 : ¬ (45 < x2) := of_decide_eq_false c_33
          refine ml_blk 3 (S' := (41, [(0, .ref m0), (1, .int x1), (2, .int x2)], [.int 26, .int x2, .int 21], M)) rfl ?_
          refine ml_blk 2 (S' := (43, [(0, .ref m0), (1, .int x1), (2, .int x2)], [.int 4, .int (x2 - 26), .int 21], M)) rfl ?_
          refine ml_blk 2 (S' := (45, [(0, .ref m0), (1, .int x1), (2, .int x2)], [.int (21 + ((x2 - 26) / 4))], M)) rfl ?_
          exact ml_ret rfl (rfl) (⟨⟨_, rfl⟩, rfl⟩)
    · have c_18 : ¬ (¬ x2 = 19) := of_decide_eq_false c_18
      refine ml_st (S' := (23, [(0, .ref m0), (1, .int x1), (2, .int x2)], [.int 18], M)) rfl rfl rfl ?_
      exact ml_ret rfl (rfl) (⟨⟨_, rfl⟩, rfl⟩)
  · have c_4 : ¬ (¬ x2 = 196) := of_decide_eq_false c_4
    have h4 : (4 : Int) ≤ nn := iln 4 hln 196 196 (by rw [show _ = (196 : Int32) from Decidable.not_not.mp c_4]; decide) (by rw [show _ = (196 : Int32) from Decidable.not_not.mp c_4]; decide) mlk_4_196_196
    refine ml_blk 3 (S' := (10, [(0, .ref m0), (1, .int x1), (2, .int x2)], [.int 1, .int x1, .ref m0], M)) rfl ?_
    refine ml_st (S' := (11, [(0, .ref m0), (1, .int x1), (2, .int x2)], [.int (x1 + 1), .ref m0], M)) rfl rfl rfl ?_
    refine ml_call (a := [.ref m0, .int (x1 + 1)]) (rest := []) rfl (hR.okc rfl rfl rfl) rfl rfl (rm_b1 hR hF hC (by omega) (by omega) (by omega)) (fun v11 M12 h13 => ?_)
    obtain ⟨rfl, h13⟩ := h13
    rw [h13]
    show ml _ _ _ (14, [(0, .ref m0), (1, .int x1), (2, .int x2)], [.int (f1 f (ca + (x1 + 1)))], M) _
    exact ml_ret rfl (rfl) (⟨⟨_, rfl⟩, rfl⟩)
set_option maxHeartbeats 2000000 in
theorem rm_first {g : xe_G}  {m0 : Nat} {q : Nat → Nat} {z : Nat × Nat} {I : rI} {R : rR} {M : mi_H} {x1 x2 : Int32} {n : Nat} {f : Nat → Int32} {ca cl : Int32}  (hR : RS g m0 q z I R M) (hF : FK n f I R) (hC : CK n ca cl I R) (hI : INS f ca cl x1) (hop : f1 f (ca + x1) = x2) (hW : KB 81 cl.toInt.toNat R) (hA : AIM f ca cl x1) {d : Nat} (hd : 5 ≤ d) : mt (mT g) d 208 [.ref m0, .int x1, .int x2] M (fun v M' => (∃ x : Int32, v = some (.int x)) ∧ M' = M) := by
  obtain ⟨d, rfl⟩ : ∃ e, d = e + 1 := ⟨d - 1, by omega⟩
  refine mt_in (b := mb_208 g) rfl rfl ?_
  show ml (mT g) d (mb_208 g).2 (0, [(0, .ref m0), (1, .int x1), (2, .int x2)], [], M) _
  have hn := hF.1
  obtain ⟨hca, hcl, hcn⟩ := hC.2.2
  have hI2 := hI
  obtain ⟨h0, nn, hn1, hnn, hln, h196, hsw⟩ := hI2
  rw [hop] at hln
  have d1 : (x1 + 1).toInt = x1.toInt + 1 := by have e9 : (1 : Int32).toInt = 1 := rfl; rw [i_add (by omega) (by omega), e9]
  have d2 : (x1 + 2).toInt = x1.toInt + 2 := by have e9 : (2 : Int32).toInt = 2 := rfl; rw [i_add (by omega) (by omega), e9]
  have hp := pd_b h0 (by omega)
  have p4 : ((pd x1) + 4).toInt = (pd x1).toInt + 4 := by have e9 : (4 : Int32).toInt = 4 := rfl; rw [i_add (by omega) (by omega), e9]
  refine ml_blk 2 (S' := (4, [(0, .ref m0), (1, .int x1), (2, .int x2)], [.int 196, .int x2], M)) rfl ?_
  refine ml_if2 (S1 := (15, [(0, .ref m0), (1, .int x1), (2, .int x2)], [], M)) (S2 := (7, [(0, .ref m0), (1, .int x1), (2, .int x2)], [], M)) rfl rfl rfl (fun c_4 => ?_) (fun c_4 => ?_)
  · have c_4 : ¬ x2 = 196 := of_decide_eq_true c_4
    refine ml_blk 2 (S' := (18, [(0, .ref m0), (1, .int x1), (2, .int x2)], [.int 26, .int x2], M)) rfl ?_
    have J_34 : ml (mT g) d (mb_208 g).2 (34, [(0, .ref m0), (1, .int x1), (2, .int x2)], [], M) (fun v M' => (∃ x : Int32, v = some (.int x)) ∧ M' = M) := by
      refine ml_blk 2 (S' := (37, [(0, .ref m0), (1, .int x1), (2, .int x2)], [.int 59, .int x2], M)) rfl ?_
      have J_53 : ml (mT g) d (mb_208 g).2 (53, [(0, .ref m0), (1, .int x1), (2, .int x2)], [], M) (fun v M' => (∃ x : Int32, v = some (.int x)) ∧ M' = M) := by
        refine ml_blk 2 (S' := (56, [(0, .ref m0), (1, .int x1), (2, .int x2)], [.int 16, .int x2], M)) rfl ?_
        refine ml_if2 (S1 := (68, [(0, .ref m0), (1, .int x1), (2, .int x2)], [], M)) (S2 := (59, [(0, .ref m0), (1, .int x1), (2, .int x2)], [], M)) rfl rfl rfl (fun c_56 => ?_) (fun c_56 => ?_)
        · have c_56 : ¬ x2 = 16 := of_decide_eq_true c_56
          refine ml_blk 2 (S' := (71, [(0, .ref m0), (1, .int x1), (2, .int x2)], [.int 17, .int x2], M)) rfl ?_
          refine ml_if2 (S1 := (82, [(0, .ref m0), (1, .int x1), (2, .int x2)], [], M)) (S2 := (74, [(0, .ref m0), (1, .int x1), (2, .int x2)], [], M)) rfl rfl rfl (fun c_71 => ?_) (fun c_71 => ?_)
          · have c_71 : ¬ x2 = 17 := of_decide_eq_true c_71
            refine ml_blk 2 (S' := (85, [(0, .ref m0), (1, .int x1), (2, .int x2)], [.int 18, .int x2], M)) rfl ?_
            have J_133 : ((2 : Int) ≤ nn) → ml (mT g) d (mb_208 g).2 (133, [(0, .ref m0), (1, .int x1)], [], M) (fun v M' => (∃ x : Int32, v = some (.int x)) ∧ M' = M) := by
              intro hj_133
              refine ml_blk 3 (S' := (136, [(0, .ref m0), (1, .int x1)], [.int 1, .int x1, .ref m0], M)) rfl ?_
              refine ml_st (S' := (137, [(0, .ref m0), (1, .int x1)], [.int (x1 + 1), .ref m0], M)) rfl rfl rfl ?_
              refine ml_call (a := [.ref m0, .int (x1 + 1)]) (rest := []) rfl (hR.okc rfl rfl rfl) rfl rfl (rm_b1 hR hF hC (by omega) (by omega) (by omega)) (fun v11 M12 h13 => ?_)
              obtain ⟨rfl, h13⟩ := h13
              rw [h13]
              show ml _ _ _ (140, [(0, .ref m0), (1, .int x1)], [.int (f1 f (ca + (x1 + 1)))], M) _
              exact ml_ret rfl (rfl) (⟨⟨_, rfl⟩, rfl⟩)
            refine ml_if2 (S1 := (133, [(0, .ref m0), (1, .int x1)], [], M)) (S2 := (88, [(0, .ref m0), (1, .int x1), (2, .int x2)], [], M)) rfl rfl rfl (fun c_85 => ?_) (fun c_85 => ?_)
            · have c_85 : x2 = 18 := of_decide_eq_true c_85
              exact J_133  (iln 2 hln 18 18 (by rw [show _ = (18 : Int32) from c_85]; decide) (by rw [show _ = (18 : Int32) from c_85]; decide) mlk_2_18_18)
            · have c_85 : ¬ (x2 = 18) := of_decide_eq_false c_85
              refine ml_blk 2 (S' := (91, [(0, .ref m0), (1, .int x1), (2, .int x2)], [.int 21, .int x2], M)) rfl ?_
              have J_100 : ml (mT g) d (mb_208 g).2 (100, [(0, .ref m0), (1, .int x1), (2, .int x2)], [], M) (fun v M' => (∃ x : Int32, v = some (.int x)) ∧ M' = M) := by
                refine ml_blk 2 (S' := (103, [(0, .ref m0), (1, .int x1), (2, .int x2)], [.int 54, .int x2], M)) rfl ?_
                have J_112 : ml (mT g) d (mb_208 g).2 (112, [(0, .ref m0), (1, .int x1), (2, .int x2)], [], M) (fun v M' => (∃ x : Int32, v = some (.int x)) ∧ M' = M) := by
                  refine ml_blk 2 (S' := (116, [(0, .ref m0), (1, .int x1), (2, .int x2)], [.int 132, .int x2], M)) rfl ?_
                  refine ml_if2 (S1 := (133, [(0, .ref m0), (1, .int x1)], [], M)) (S2 := (119, [(0, .ref m0), (1, .int x1), (2, .int x2)], [], M)) rfl rfl rfl (fun c_116 => ?_) (fun c_116 => ?_)
                  · have c_116 : x2 = 132 := of_decide_eq_true c_116
                    exact J_133  (iln 2 hln 132 132 (by rw [show _ = (132 : Int32) from c_116]; decide) (by rw [show _ = (132 : Int32) from c_116]; decide) mlk_2_132_132)
                  · have c_116 : ¬ (x2 = 132) := of_decide_eq_false c_116
                    refine ml_blk 2 (S' := (123, [(0, .ref m0), (1, .int x1), (2, .int x2)], [.int 169, .int x2], M)) rfl ?_
                    refine ml_if2 (S1 := (133, [(0, .ref m0), (1, .int x1)], [], M)) (S2 := (126, [(0, .ref m0), (1, .int x1), (2, .int x2)], [], M)) rfl rfl rfl (fun c_123 => ?_) (fun c_123 => ?_)
                    · have c_123 : x2 = 169 := of_decide_eq_true c_123
                      exact J_133  (iln 2 hln 169 169 (by rw [show _ = (169 : Int32) from c_123]; decide) (by rw [show _ = (169 : Int32) from c_123]; decide) mlk_2_169_169)
                    · have c_123 : ¬ (x2 = 169) := of_decide_eq_false c_123
                      refine ml_blk 2 (S' := (130, [(0, .ref m0), (1, .int x1), (2, .int x2)], [.int 188, .int x2], M)) rfl ?_
                      refine ml_if2 (S1 := (141, [(0, .ref m0), (1, .int x1), (2, .int x2)], [], M)) (S2 := (133, [(0, .ref m0), (1, .int x1)], [], M)) rfl rfl rfl (fun c_130 => ?_) (fun c_130 => ?_)
                      · have c_130 : ¬ x2 = 188 := of_decide_eq_true c_130
                        refine ml_blk 2 (S' := (145, [(0, .ref m0), (1, .int x1), (2, .int x2)], [.int 153, .int x2], M)) rfl ?_
                        have J_169 : BRO x2 → ml (mT g) d (mb_208 g).2 (169, [(0, .ref m0), (1, .int x1)], [], M) (fun v M' => (∃ x : Int32, v = some (.int x)) ∧ M' = M) := by
                          intro hj_169
                          have h3 : (3 : Int) ≤ nn := by rcases hj_169 with h | h | h; exact iln 3 hln 153 168 h.1 h.2 mlk_3_153_168; exact iln 3 hln 198 198 (by rw [show _ = (198 : Int32) from h]; decide) (by rw [show _ = (198 : Int32) from h]; decide) mlk_3_198_198; exact iln 3 hln 199 199 (by rw [show _ = (199 : Int32) from h]; decide) (by rw [show _ = (199 : Int32) from h]; decide) mlk_3_199_199
                          refine ml_st (S' := (170, [(0, .ref m0), (1, .int x1)], [.ref m0], M)) rfl rfl rfl ?_
                          refine rg_ref (S' := (173, [(0, .ref m0), (1, .int x1)], [.ref (q 81)], M)) rfl hR rfl rfl ?_
                          refine ml_blk 3 (S' := (176, [(0, .ref m0), (1, .int x1)], [.int x1, .ref m0, .int x1, .ref (q 81)], M)) rfl ?_
                          refine ml_blk 2 (S' := (178, [(0, .ref m0), (1, .int x1)], [.int (x1 + 1), .ref m0, .int x1, .ref (q 81)], M)) rfl ?_
                          refine ml_call (a := [.ref m0, .int (x1 + 1)]) (rest := [.int x1, .ref (q 81)]) rfl (hR.okc rfl rfl rfl) rfl rfl (rm_s2 hR hF hC (by omega) (by omega) (by omega)) (fun v14 M15 h16 => ?_)
                          obtain ⟨rfl, h16⟩ := h16
                          rw [h16]
                          show ml _ _ _ (181, [(0, .ref m0), (1, .int x1)], [.int (S2 f ca (x1 + 1)), .int x1, .ref (q 81)], M) _
                          refine ml_st (S' := (182, [(0, .ref m0), (1, .int x1)], [.int (x1 + (S2 f ca (x1 + 1))), .ref (q 81)], M)) rfl rfl rfl ?_
                          have hq := hA.1 (by rw [hop]; exact hj_169)
                          obtain ⟨v9, hv9⟩ := hW (x1 + S2 f ca (x1 + 1)).toNatClampNeg (by show (x1 + S2 f ca (x1 + 1)).toInt.toNat < _; omega)
                          refine ra_ld (k := 81) (S' := (183, [(0, .ref m0), (1, .int x1)], [.int v9], M)) rfl hR rfl (vin_lt hq.1 (by omega)) (hv9) rfl ?_
                          exact ml_ret rfl (rfl) (⟨⟨_, rfl⟩, rfl⟩)
                        have J_155 : ml (mT g) d (mb_208 g).2 (155, [(0, .ref m0), (1, .int x1), (2, .int x2)], [], M) (fun v M' => (∃ x : Int32, v = some (.int x)) ∧ M' = M) := by
                          refine ml_blk 2 (S' := (159, [(0, .ref m0), (1, .int x1), (2, .int x2)], [.int 198, .int x2], M)) rfl ?_
                          refine ml_if2 (S1 := (169, [(0, .ref m0), (1, .int x1)], [], M)) (S2 := (162, [(0, .ref m0), (1, .int x1), (2, .int x2)], [], M)) rfl rfl rfl (fun c_159 => ?_) (fun c_159 => ?_)
                          · have c_159 : x2 = 198 := of_decide_eq_true c_159
                            exact J_169  (Or.inr (Or.inl c_159))
                          · have c_159 : ¬ (x2 = 198) := of_decide_eq_false c_159
                            refine ml_blk 2 (S' := (166, [(0, .ref m0), (1, .int x1), (2, .int x2)], [.int 199, .int x2], M)) rfl ?_
                            refine ml_if2 (S1 := (184, [(0, .ref m0), (1, .int x1), (2, .int x2)], [], M)) (S2 := (169, [(0, .ref m0), (1, .int x1)], [], M)) rfl rfl rfl (fun c_166 => ?_) (fun c_166 => ?_)
                            · have c_166 : ¬ x2 = 199 := of_decide_eq_true c_166
                              refine ml_blk 2 (S' := (188, [(0, .ref m0), (1, .int x1), (2, .int x2)], [.int 200, .int x2], M)) rfl ?_
                              have J_198 : (x2 = 200 ∨ x2 = 201) → ml (mT g) d (mb_208 g).2 (198, [(0, .ref m0), (1, .int x1)], [], M) (fun v M' => (∃ x : Int32, v = some (.int x)) ∧ M' = M) := by
                                intro hj_198
                                have h5 : (5 : Int) ≤ nn := by rcases hj_198 with h | h; exact iln 5 hln 200 200 (by rw [show _ = (200 : Int32) from h]; decide) (by rw [show _ = (200 : Int32) from h]; decide) mlk_5_200_200; exact iln 5 hln 201 201 (by rw [show _ = (201 : Int32) from h]; decide) (by rw [show _ = (201 : Int32) from h]; decide) mlk_5_201_201
                                refine ml_st (S' := (199, [(0, .ref m0), (1, .int x1)], [.ref m0], M)) rfl rfl rfl ?_
                                refine rg_ref (S' := (202, [(0, .ref m0), (1, .int x1)], [.ref (q 81)], M)) rfl hR rfl rfl ?_
                                refine ml_blk 3 (S' := (205, [(0, .ref m0), (1, .int x1)], [.int x1, .ref m0, .int x1, .ref (q 81)], M)) rfl ?_
                                refine ml_blk 2 (S' := (207, [(0, .ref m0), (1, .int x1)], [.int (x1 + 1), .ref m0, .int x1, .ref (q 81)], M)) rfl ?_
                                refine ml_call (a := [.ref m0, .int (x1 + 1)]) (rest := [.int x1, .ref (q 81)]) rfl (hR.okc rfl rfl rfl) rfl rfl (rm_b4 hR hF hC (by omega) (by omega) (by omega)) (fun v17 M18 h19 => ?_)
                                obtain ⟨rfl, h19⟩ := h19
                                rw [h19]
                                show ml _ _ _ (210, [(0, .ref m0), (1, .int x1)], [.int (B4 f ca (x1 + 1)), .int x1, .ref (q 81)], M) _
                                refine ml_st (S' := (211, [(0, .ref m0), (1, .int x1)], [.int (x1 + (B4 f ca (x1 + 1))), .ref (q 81)], M)) rfl rfl rfl ?_
                                have hq := hA.2.1 (by rw [hop]; exact hj_198)
                                obtain ⟨v9, hv9⟩ := hW (x1 + B4 f ca (x1 + 1)).toNatClampNeg (by show (x1 + B4 f ca (x1 + 1)).toInt.toNat < _; omega)
                                refine ra_ld (k := 81) (S' := (212, [(0, .ref m0), (1, .int x1)], [.int v9], M)) rfl hR rfl (vin_lt hq.1 (by omega)) (hv9) rfl ?_
                                exact ml_ret rfl (rfl) (⟨⟨_, rfl⟩, rfl⟩)
                              refine ml_if2 (S1 := (198, [(0, .ref m0), (1, .int x1)], [], M)) (S2 := (191, [(0, .ref m0), (1, .int x1), (2, .int x2)], [], M)) rfl rfl rfl (fun c_188 => ?_) (fun c_188 => ?_)
                              · have c_188 : x2 = 200 := of_decide_eq_true c_188
                                exact J_198  (Or.inl c_188)
                              · have c_188 : ¬ (x2 = 200) := of_decide_eq_false c_188
                                refine ml_blk 2 (S' := (195, [(0, .ref m0), (1, .int x1), (2, .int x2)], [.int 201, .int x2], M)) rfl ?_
                                refine ml_if2 (S1 := (213, [(0, .ref m0), (1, .int x1), (2, .int x2)], [], M)) (S2 := (198, [(0, .ref m0), (1, .int x1)], [], M)) rfl rfl rfl (fun c_195 => ?_) (fun c_195 => ?_)
                                · have c_195 : ¬ x2 = 201 := of_decide_eq_true c_195
                                  refine ml_blk 2 (S' := (217, [(0, .ref m0), (1, .int x1), (2, .int x2)], [.int 170, .int x2], M)) rfl ?_
                                  have J_227 : (x2 = 170 ∨ x2 = 171) → ml (mT g) d (mb_208 g).2 (227, [(0, .ref m0), (1, .int x1)], [], M) (fun v M' => (∃ x : Int32, v = some (.int x)) ∧ M' = M) := by
                                    intro hj_227
                                    have ho : f1 f (ca + x1) = 170 ∨ f1 f (ca + x1) = 171 := by rw [hop]; exact hj_227
                                    have h8 := (hI.sw ho).p8 ho
                                    refine ml_blk 2 (S' := (229, [(0, .ref m0), (1, .int x1)], [.int x1, .ref m0], M)) rfl ?_
                                    refine ml_call (a := [.int x1]) (rest := [.ref m0]) rfl (rfl) rfl rfl (rm_pad hR (by omega)) (fun v20 M21 h22 => ?_)
                                    obtain ⟨rfl, h22⟩ := h22
                                    rw [h22]
                                    show ml _ _ _ (232, [(0, .ref m0), (1, .int x1)], [.int (pd x1), .ref m0], M) _
                                    refine ml_blk 2 (S' := (234, [(0, .ref m0), (1, .int x1)], [.int ((pd x1) + 4), .ref m0], M)) rfl ?_
                                    refine ml_call (a := [.ref m0, .int ((pd x1) + 4)]) (rest := []) rfl (hR.okc rfl rfl rfl) rfl rfl (rm_b4 hR hF hC (by omega) (by omega) (by omega)) (fun v23 M24 h25 => ?_)
                                    obtain ⟨rfl, h25⟩ := h25
                                    rw [h25]
                                    show ml _ _ _ (237, [(0, .ref m0), (1, .int x1)], [.int (B4 f ca ((pd x1) + 4))], M) _
                                    exact ml_ret rfl (rfl) (⟨⟨_, rfl⟩, rfl⟩)
                                  refine ml_if2 (S1 := (227, [(0, .ref m0), (1, .int x1)], [], M)) (S2 := (220, [(0, .ref m0), (1, .int x1), (2, .int x2)], [], M)) rfl rfl rfl (fun c_217 => ?_) (fun c_217 => ?_)
                                  · have c_217 : x2 = 170 := of_decide_eq_true c_217
                                    exact J_227  (Or.inl c_217)
                                  · have c_217 : ¬ (x2 = 170) := of_decide_eq_false c_217
                                    refine ml_blk 2 (S' := (224, [(0, .ref m0), (1, .int x1), (2, .int x2)], [.int 171, .int x2], M)) rfl ?_
                                    refine ml_if2 (S1 := (238, [(0, .ref m0), (1, .int x1), (2, .int x2)], [], M)) (S2 := (227, [(0, .ref m0), (1, .int x1)], [], M)) rfl rfl rfl (fun c_224 => ?_) (fun c_224 => ?_)
                                    · have c_224 : ¬ x2 = 171 := of_decide_eq_true c_224
                                      refine ml_blk 2 (S' := (241, [(0, .ref m0), (1, .int x1), (2, .int x2)], [.int 19, .int x2], M)) rfl ?_
                                      have J_292 : ((3 : Int) ≤ nn) → ml (mT g) d (mb_208 g).2 (292, [(0, .ref m0), (1, .int x1)], [], M) (fun v M' => (∃ x : Int32, v = some (.int x)) ∧ M' = M) := by
                                        intro hj_292
                                        refine ml_blk 3 (S' := (295, [(0, .ref m0), (1, .int x1)], [.int 1, .int x1, .ref m0], M)) rfl ?_
                                        refine ml_st (S' := (296, [(0, .ref m0), (1, .int x1)], [.int (x1 + 1), .ref m0], M)) rfl rfl rfl ?_
                                        refine ml_call (a := [.ref m0, .int (x1 + 1)]) (rest := []) rfl (hR.okc rfl rfl rfl) rfl rfl (rm_b2 hR hF hC (by omega) (by omega) (by omega)) (fun v26 M27 h28 => ?_)
                                        obtain ⟨rfl, h28⟩ := h28
                                        rw [h28]
                                        show ml _ _ _ (299, [(0, .ref m0), (1, .int x1)], [.int (f2 f (ca + (x1 + 1)))], M) _
                                        exact ml_ret rfl (rfl) (⟨⟨_, rfl⟩, rfl⟩)
                                      refine ml_if2 (S1 := (292, [(0, .ref m0), (1, .int x1)], [], M)) (S2 := (244, [(0, .ref m0), (1, .int x1), (2, .int x2)], [], M)) rfl rfl rfl (fun c_241 => ?_) (fun c_241 => ?_)
                                      · have c_241 : x2 = 19 := of_decide_eq_true c_241
                                        exact J_292  (iln 3 hln 19 19 (by rw [show _ = (19 : Int32) from c_241]; decide) (by rw [show _ = (19 : Int32) from c_241]; decide) mlk_3_19_19)
                                      · have c_241 : ¬ (x2 = 19) := of_decide_eq_false c_241
                                        refine ml_blk 2 (S' := (247, [(0, .ref m0), (1, .int x1), (2, .int x2)], [.int 20, .int x2], M)) rfl ?_
                                        refine ml_if2 (S1 := (292, [(0, .ref m0), (1, .int x1)], [], M)) (S2 := (250, [(0, .ref m0), (1, .int x1), (2, .int x2)], [], M)) rfl rfl rfl (fun c_247 => ?_) (fun c_247 => ?_)
                                        · have c_247 : x2 = 20 := of_decide_eq_true c_247
                                          exact J_292  (iln 3 hln 20 20 (by rw [show _ = (20 : Int32) from c_247]; decide) (by rw [show _ = (20 : Int32) from c_247]; decide) mlk_3_20_20)
                                        · have c_247 : ¬ (x2 = 20) := of_decide_eq_false c_247
                                          refine ml_blk 2 (S' := (254, [(0, .ref m0), (1, .int x1), (2, .int x2)], [.int 178, .int x2], M)) rfl ?_
                                          have J_264 : ml (mT g) d (mb_208 g).2 (264, [(0, .ref m0), (1, .int x1), (2, .int x2)], [], M) (fun v M' => (∃ x : Int32, v = some (.int x)) ∧ M' = M) := by
                                            refine ml_blk 2 (S' := (268, [(0, .ref m0), (1, .int x1), (2, .int x2)], [.int 189, .int x2], M)) rfl ?_
                                            refine ml_if2 (S1 := (292, [(0, .ref m0), (1, .int x1)], [], M)) (S2 := (271, [(0, .ref m0), (1, .int x1), (2, .int x2)], [], M)) rfl rfl rfl (fun c_268 => ?_) (fun c_268 => ?_)
                                            · have c_268 : x2 = 189 := of_decide_eq_true c_268
                                              exact J_292  (iln 3 hln 189 189 (by rw [show _ = (189 : Int32) from c_268]; decide) (by rw [show _ = (189 : Int32) from c_268]; decide) mlk_3_189_189)
                                            · have c_268 : ¬ (x2 = 189) := of_decide_eq_false c_268
                                              refine ml_blk 2 (S' := (275, [(0, .ref m0), (1, .int x1), (2, .int x2)], [.int 192, .int x2], M)) rfl ?_
                                              refine ml_if2 (S1 := (292, [(0, .ref m0), (1, .int x1)], [], M)) (S2 := (278, [(0, .ref m0), (1, .int x1), (2, .int x2)], [], M)) rfl rfl rfl (fun c_275 => ?_) (fun c_275 => ?_)
                                              · have c_275 : x2 = 192 := of_decide_eq_true c_275
                                                exact J_292  (iln 3 hln 192 192 (by rw [show _ = (192 : Int32) from c_275]; decide) (by rw [show _ = (192 : Int32) from c_275]; decide) mlk_3_192_192)
                                              · have c_275 : ¬ (x2 = 192) := of_decide_eq_false c_275
                                                refine ml_blk 2 (S' := (282, [(0, .ref m0), (1, .int x1), (2, .int x2)], [.int 193, .int x2], M)) rfl ?_
                                                refine ml_if2 (S1 := (292, [(0, .ref m0), (1, .int x1)], [], M)) (S2 := (285, [(0, .ref m0), (1, .int x1), (2, .int x2)], [], M)) rfl rfl rfl (fun c_282 => ?_) (fun c_282 => ?_)
                                                · have c_282 : x2 = 193 := of_decide_eq_true c_282
                                                  exact J_292  (iln 3 hln 193 193 (by rw [show _ = (193 : Int32) from c_282]; decide) (by rw [show _ = (193 : Int32) from c_282]; decide) mlk_3_193_193)
                                                · have c_282 : ¬ (x2 = 193) := of_decide_eq_false c_282
                                                  refine ml_blk 2 (S' := (289, [(0, .ref m0), (1, .int x1), (2, .int x2)], [.int 197, .int x2], M)) rfl ?_
                                                  refine ml_if2 (S1 := (300, [(0, .ref m0), (1, .int x1), (2, .int x2)], [], M)) (S2 := (292, [(0, .ref m0), (1, .int x1)], [], M)) rfl rfl rfl (fun c_289 => ?_) (fun c_289 => ?_)
                                                  · have c_289 : ¬ x2 = 197 := of_decide_eq_true c_289
                                                    refine ml_st (S' := (301, [(0, .ref m0), (1, .int x1), (2, .int x2)], [.int 0], M)) rfl rfl rfl ?_
                                                    exact ml_ret rfl (rfl) (⟨⟨_, rfl⟩, rfl⟩)
                                                  · have c_289 : ¬ (¬ x2 = 197) := of_decide_eq_false c_289
                                                    exact J_292  (Int.le_trans (by decide) (iln 4 hln 197 197 (by rw [show _ = (197 : Int32) from Decidable.not_not.mp c_289]; decide) (by rw [show _ = (197 : Int32) from Decidable.not_not.mp c_289]; decide) mlk_4_197_197))
                                          refine ml_if2 (S1 := (264, [(0, .ref m0), (1, .int x1), (2, .int x2)], [], M)) (S2 := (257, [(0, .ref m0), (1, .int x1), (2, .int x2)], [], M)) rfl rfl rfl (fun c_254 => ?_) (fun c_254 => ?_)
                                          · have c_254 : x2 < 178 := of_decide_eq_true c_254
                                            exact J_264 
                                          · have c_254 : ¬ (x2 < 178) := of_decide_eq_false c_254
                                            refine ml_blk 2 (S' := (261, [(0, .ref m0), (1, .int x1), (2, .int x2)], [.int 187, .int x2], M)) rfl ?_
                                            refine ml_if2 (S1 := (292, [(0, .ref m0), (1, .int x1)], [], M)) (S2 := (264, [(0, .ref m0), (1, .int x1), (2, .int x2)], [], M)) rfl rfl rfl (fun c_261 => ?_) (fun c_261 => ?_)
                                            · have c_261 : x2 ≤ 187 := of_decide_eq_true c_261
                                              exact J_292  (iln 3 hln 178 187 (by have := i_nlt c_254; have : (178 : Int32).toInt = 178 := rfl; omega) (by have := i_le c_261; have : (187 : Int32).toInt = 187 := rfl; omega) mlk_3_178_187)
                                            · have c_261 : ¬ (x2 ≤ 187) := of_decide_eq_false c_261
                                              exact J_264 
                                    · have c_224 : ¬ (¬ x2 = 171) := of_decide_eq_false c_224
                                      exact J_227  (Or.inr (Decidable.not_not.mp c_224))
                                · have c_195 : ¬ (¬ x2 = 201) := of_decide_eq_false c_195
                                  exact J_198  (Or.inr (Decidable.not_not.mp c_195))
                            · have c_166 : ¬ (¬ x2 = 199) := of_decide_eq_false c_166
                              exact J_169  (Or.inr (Or.inr (Decidable.not_not.mp c_166)))
                        refine ml_if2 (S1 := (155, [(0, .ref m0), (1, .int x1), (2, .int x2)], [], M)) (S2 := (148, [(0, .ref m0), (1, .int x1), (2, .int x2)], [], M)) rfl rfl rfl (fun c_145 => ?_) (fun c_145 => ?_)
                        · have c_145 : x2 < 153 := of_decide_eq_true c_145
                          exact J_155 
                        · have c_145 : ¬ (x2 < 153) := of_decide_eq_false c_145
                          refine ml_blk 2 (S' := (152, [(0, .ref m0), (1, .int x1), (2, .int x2)], [.int 168, .int x2], M)) rfl ?_
                          refine ml_if2 (S1 := (169, [(0, .ref m0), (1, .int x1)], [], M)) (S2 := (155, [(0, .ref m0), (1, .int x1), (2, .int x2)], [], M)) rfl rfl rfl (fun c_152 => ?_) (fun c_152 => ?_)
                          · have c_152 : x2 ≤ 168 := of_decide_eq_true c_152
                            exact J_169  (Or.inl ⟨by have := i_nlt c_145; have : (153 : Int32).toInt = 153 := rfl; omega, by have := i_le c_152; have : (168 : Int32).toInt = 168 := rfl; omega⟩)
                          · have c_152 : ¬ (x2 ≤ 168) := of_decide_eq_false c_152
                            exact J_155 
                      · have c_130 : ¬ (¬ x2 = 188) := of_decide_eq_false c_130
                        exact J_133  (iln 2 hln 188 188 (by rw [show _ = (188 : Int32) from Decidable.not_not.mp c_130]; decide) (by rw [show _ = (188 : Int32) from Decidable.not_not.mp c_130]; decide) mlk_2_188_188)
                refine ml_if2 (S1 := (112, [(0, .ref m0), (1, .int x1), (2, .int x2)], [], M)) (S2 := (106, [(0, .ref m0), (1, .int x1), (2, .int x2)], [], M)) rfl rfl rfl (fun c_103 => ?_) (fun c_103 => ?_)
                · have c_103 : x2 < 54 := of_decide_eq_true c_103
                  exact J_112 
                · have c_103 : ¬ (x2 < 54) := of_decide_eq_false c_103
                  refine ml_blk 2 (S' := (109, [(0, .ref m0), (1, .int x1), (2, .int x2)], [.int 58, .int x2], M)) rfl ?_
                  refine ml_if2 (S1 := (133, [(0, .ref m0), (1, .int x1)], [], M)) (S2 := (112, [(0, .ref m0), (1, .int x1), (2, .int x2)], [], M)) rfl rfl rfl (fun c_109 => ?_) (fun c_109 => ?_)
                  · have c_109 : x2 ≤ 58 := of_decide_eq_true c_109
                    exact J_133  (iln 2 hln 54 58 (by have := i_nlt c_103; have : (54 : Int32).toInt = 54 := rfl; omega) (by have := i_le c_109; have : (58 : Int32).toInt = 58 := rfl; omega) mlk_2_54_58)
                  · have c_109 : ¬ (x2 ≤ 58) := of_decide_eq_false c_109
                    exact J_112 
              refine ml_if2 (S1 := (100, [(0, .ref m0), (1, .int x1), (2, .int x2)], [], M)) (S2 := (94, [(0, .ref m0), (1, .int x1), (2, .int x2)], [], M)) rfl rfl rfl (fun c_91 => ?_) (fun c_91 => ?_)
              · have c_91 : x2 < 21 := of_decide_eq_true c_91
                exact J_100 
              · have c_91 : ¬ (x2 < 21) := of_decide_eq_false c_91
                refine ml_blk 2 (S' := (97, [(0, .ref m0), (1, .int x1), (2, .int x2)], [.int 25, .int x2], M)) rfl ?_
                refine ml_if2 (S1 := (133, [(0, .ref m0), (1, .int x1)], [], M)) (S2 := (100, [(0, .ref m0), (1, .int x1), (2, .int x2)], [], M)) rfl rfl rfl (fun c_97 => ?_) (fun c_97 => ?_)
                · have c_97 : x2 ≤ 25 := of_decide_eq_true c_97
                  exact J_133  (iln 2 hln 21 25 (by have := i_nlt c_91; have : (21 : Int32).toInt = 21 := rfl; omega) (by have := i_le c_97; have : (25 : Int32).toInt = 25 := rfl; omega) mlk_2_21_25)
                · have c_97 : ¬ (x2 ≤ 25) := of_decide_eq_false c_97
                  exact J_100 
          · have c_71 : ¬ (¬ x2 = 17) := of_decide_eq_false c_71
            have h3 : (3 : Int) ≤ nn := iln 3 hln 17 17 (by rw [show _ = (17 : Int32) from Decidable.not_not.mp c_71]; decide) (by rw [show _ = (17 : Int32) from Decidable.not_not.mp c_71]; decide) mlk_3_17_17
            refine ml_blk 3 (S' := (77, [(0, .ref m0), (1, .int x1), (2, .int x2)], [.int 1, .int x1, .ref m0], M)) rfl ?_
            refine ml_st (S' := (78, [(0, .ref m0), (1, .int x1), (2, .int x2)], [.int (x1 + 1), .ref m0], M)) rfl rfl rfl ?_
            refine ml_call (a := [.ref m0, .int (x1 + 1)]) (rest := []) rfl (hR.okc rfl rfl rfl) rfl rfl (rm_s2 hR hF hC (by omega) (by omega) (by omega)) (fun v29 M30 h31 => ?_)
            obtain ⟨rfl, h31⟩ := h31
            rw [h31]
            show ml _ _ _ (81, [(0, .ref m0), (1, .int x1), (2, .int x2)], [.int (S2 f ca (x1 + 1))], M) _
            exact ml_ret rfl (rfl) (⟨⟨_, rfl⟩, rfl⟩)
        · have c_56 : ¬ (¬ x2 = 16) := of_decide_eq_false c_56
          have h2 : (2 : Int) ≤ nn := iln 2 hln 16 16 (by rw [show _ = (16 : Int32) from Decidable.not_not.mp c_56]; decide) (by rw [show _ = (16 : Int32) from Decidable.not_not.mp c_56]; decide) mlk_2_16_16
          refine ml_blk 3 (S' := (62, [(0, .ref m0), (1, .int x1), (2, .int x2)], [.int 1, .int x1, .ref m0], M)) rfl ?_
          refine ml_st (S' := (63, [(0, .ref m0), (1, .int x1), (2, .int x2)], [.int (x1 + 1), .ref m0], M)) rfl rfl rfl ?_
          refine ml_call (a := [.ref m0, .int (x1 + 1)]) (rest := []) rfl (hR.okc rfl rfl rfl) rfl rfl (rm_b1 hR hF hC (by omega) (by omega) (by omega)) (fun v32 M33 h34 => ?_)
          obtain ⟨rfl, h34⟩ := h34
          rw [h34]
          show ml _ _ _ (66, [(0, .ref m0), (1, .int x1), (2, .int x2)], [.int (f1 f (ca + (x1 + 1)))], M) _
          refine ml_st (S' := (67, [(0, .ref m0), (1, .int x1), (2, .int x2)], [.int ((f1 f (ca + (x1 + 1))).toInt8.toInt32)], M)) rfl rfl rfl ?_
          exact ml_ret rfl (rfl) (⟨⟨_, rfl⟩, rfl⟩)
      refine ml_if2 (S1 := (53, [(0, .ref m0), (1, .int x1), (2, .int x2)], [], M)) (S2 := (40, [(0, .ref m0), (1, .int x1), (2, .int x2)], [], M)) rfl rfl rfl (fun c_37 => ?_) (fun c_37 => ?_)
      · have c_37 : x2 < 59 := of_decide_eq_true c_37
        exact J_53 
      · have c_37 : ¬ (x2 < 59) := of_decide_eq_false c_37
        refine ml_blk 2 (S' := (43, [(0, .ref m0), (1, .int x1), (2, .int x2)], [.int 78, .int x2], M)) rfl ?_
        refine ml_if2 (S1 := (53, [(0, .ref m0), (1, .int x1), (2, .int x2)], [], M)) (S2 := (46, [(0, .ref m0), (1, .int x1), (2, .int x2)], [], M)) rfl rfl rfl (fun c_43 => ?_) (fun c_43 => ?_)
        · have c_43 : 78 < x2 := of_decide_eq_true c_43
          exact J_53 
        · have c_43 : ¬ (78 < x2) := of_decide_eq_false c_43
          refine ml_blk 3 (S' := (50, [(0, .ref m0), (1, .int x1), (2, .int x2)], [.int (x2 - 59)], M)) rfl ?_
          refine ml_st (S' := (51, [(0, .ref m0), (1, .int x1), (2, .int x2)], [.int 4, .int (x2 - 59)], M)) rfl rfl rfl ?_
          refine ml_st (S' := (52, [(0, .ref m0), (1, .int x1), (2, .int x2)], [.int ((x2 - 59) - (x2 - 59) / 4 * 4)], M)) rfl rfl rfl ?_
          exact ml_ret rfl (rfl) (⟨⟨_, rfl⟩, rfl⟩)
    refine ml_if2 (S1 := (34, [(0, .ref m0), (1, .int x1), (2, .int x2)], [], M)) (S2 := (21, [(0, .ref m0), (1, .int x1), (2, .int x2)], [], M)) rfl rfl rfl (fun c_18 => ?_) (fun c_18 => ?_)
    · have c_18 : x2 < 26 := of_decide_eq_true c_18
      exact J_34 
    · have c_18 : ¬ (x2 < 26) := of_decide_eq_false c_18
      refine ml_blk 2 (S' := (24, [(0, .ref m0), (1, .int x1), (2, .int x2)], [.int 45, .int x2], M)) rfl ?_
      refine ml_if2 (S1 := (34, [(0, .ref m0), (1, .int x1), (2, .int x2)], [], M)) (S2 := (27, [(0, .ref m0), (1, .int x1), (2, .int x2)], [], M)) rfl rfl rfl (fun c_24 => ?_) (fun c_24 => ?_)
      · have c_24 : 45 < x2 := of_decide_eq_true c_24
        exact J_34 
      · have c_24 : ¬ (45 < x2) := of_decide_eq_false c_24
        refine ml_blk 3 (S' := (31, [(0, .ref m0), (1, .int x1), (2, .int x2)], [.int (x2 - 26)], M)) rfl ?_
        refine ml_st (S' := (32, [(0, .ref m0), (1, .int x1), (2, .int x2)], [.int 4, .int (x2 - 26)], M)) rfl rfl rfl ?_
        refine ml_st (S' := (33, [(0, .ref m0), (1, .int x1), (2, .int x2)], [.int ((x2 - 26) - (x2 - 26) / 4 * 4)], M)) rfl rfl rfl ?_
        exact ml_ret rfl (rfl) (⟨⟨_, rfl⟩, rfl⟩)
  · have c_4 : ¬ (¬ x2 = 196) := of_decide_eq_false c_4
    have h4 : (4 : Int) ≤ nn := iln 4 hln 196 196 (by rw [show _ = (196 : Int32) from Decidable.not_not.mp c_4]; decide) (by rw [show _ = (196 : Int32) from Decidable.not_not.mp c_4]; decide) mlk_4_196_196
    refine ml_blk 3 (S' := (10, [(0, .ref m0), (1, .int x1), (2, .int x2)], [.int 2, .int x1, .ref m0], M)) rfl ?_
    refine ml_st (S' := (11, [(0, .ref m0), (1, .int x1), (2, .int x2)], [.int (x1 + 2), .ref m0], M)) rfl rfl rfl ?_
    refine ml_call (a := [.ref m0, .int (x1 + 2)]) (rest := []) rfl (hR.okc rfl rfl rfl) rfl rfl (rm_b2 hR hF hC (by omega) (by omega) (by omega)) (fun v35 M36 h37 => ?_)
    obtain ⟨rfl, h37⟩ := h37
    rw [h37]
    show ml _ _ _ (14, [(0, .ref m0), (1, .int x1), (2, .int x2)], [.int (f2 f (ca + (x1 + 2)))], M) _
    exact ml_ret rfl (rfl) (⟨⟨_, rfl⟩, rfl⟩)
set_option maxHeartbeats 2000000 in
theorem rm_second {g : xe_G}  {m0 : Nat} {q : Nat → Nat} {z : Nat × Nat} {I : rI} {R : rR} {M : mi_H} {x1 x2 : Int32} {n : Nat} {f : Nat → Int32} {ca cl : Int32}  (hR : RS g m0 q z I R M) (hF : FK n f I R) (hC : CK n ca cl I R) (hI : INS f ca cl x1) (hop : f1 f (ca + x1) = x2) {d : Nat} (hd : 5 ≤ d) : mt (mT g) d 241 [.ref m0, .int x1, .int x2] M (fun v M' => (∃ x : Int32, v = some (.int x)) ∧ M' = M) := by
  obtain ⟨d, rfl⟩ : ∃ e, d = e + 1 := ⟨d - 1, by omega⟩
  refine mt_in (b := mb_241 g) rfl rfl ?_
  show ml (mT g) d (mb_241 g).2 (0, [(0, .ref m0), (1, .int x1), (2, .int x2)], [], M) _
  have hn := hF.1
  obtain ⟨hca, hcl, hcn⟩ := hC.2.2
  have hI2 := hI
  obtain ⟨h0, nn, hn1, hnn, hln, h196, hsw⟩ := hI2
  rw [hop] at hln
  have d1 : (x1 + 1).toInt = x1.toInt + 1 := by have e9 : (1 : Int32).toInt = 1 := rfl; rw [i_add (by omega) (by omega), e9]
  have d2 : (x1 + 2).toInt = x1.toInt + 2 := by have e9 : (2 : Int32).toInt = 2 := rfl; rw [i_add (by omega) (by omega), e9]
  have d3 : (x1 + 3).toInt = x1.toInt + 3 := by have e9 : (3 : Int32).toInt = 3 := rfl; rw [i_add (by omega) (by omega), e9]
  have d4 : (x1 + 4).toInt = x1.toInt + 4 := by have e9 : (4 : Int32).toInt = 4 := rfl; rw [i_add (by omega) (by omega), e9]
  have hp := pd_b h0 (by omega)
  have p8 : ((pd x1) + 8).toInt = (pd x1).toInt + 8 := by have e9 : (8 : Int32).toInt = 8 := rfl; rw [i_add (by omega) (by omega), e9]
  refine ml_blk 2 (S' := (4, [(0, .ref m0), (1, .int x1), (2, .int x2)], [.int 196, .int x2], M)) rfl ?_
  refine ml_if2 (S1 := (32, [(0, .ref m0), (1, .int x1), (2, .int x2)], [], M)) (S2 := (7, [(0, .ref m0), (1, .int x1), (2, .int x2)], [], M)) rfl rfl rfl (fun c_4 => ?_) (fun c_4 => ?_)
  · have c_4 : ¬ x2 = 196 := of_decide_eq_true c_4
    refine ml_blk 2 (S' := (36, [(0, .ref m0), (1, .int x1), (2, .int x2)], [.int 132, .int x2], M)) rfl ?_
    refine ml_if2 (S1 := (48, [(0, .ref m0), (1, .int x1), (2, .int x2)], [], M)) (S2 := (39, [(0, .ref m0), (1, .int x1), (2, .int x2)], [], M)) rfl rfl rfl (fun c_36 => ?_) (fun c_36 => ?_)
    · have c_36 : ¬ x2 = 132 := of_decide_eq_true c_36
      refine ml_blk 2 (S' := (52, [(0, .ref m0), (1, .int x1), (2, .int x2)], [.int 170, .int x2], M)) rfl ?_
      refine ml_if2 (S1 := (67, [(0, .ref m0), (1, .int x1), (2, .int x2)], [], M)) (S2 := (55, [(0, .ref m0), (1, .int x1), (2, .int x2)], [], M)) rfl rfl rfl (fun c_52 => ?_) (fun c_52 => ?_)
      · have c_52 : ¬ x2 = 170 := of_decide_eq_true c_52
        refine ml_blk 2 (S' := (71, [(0, .ref m0), (1, .int x1), (2, .int x2)], [.int 197, .int x2], M)) rfl ?_
        refine ml_if2 (S1 := (84, [(0, .ref m0), (1, .int x1), (2, .int x2)], [], M)) (S2 := (74, [(0, .ref m0), (1, .int x1), (2, .int x2)], [], M)) rfl rfl rfl (fun c_71 => ?_) (fun c_71 => ?_)
        · have c_71 : ¬ x2 = 197 := of_decide_eq_true c_71
          refine ml_st (S' := (85, [], [.int 0], M)) rfl rfl rfl ?_
          exact ml_ret rfl (rfl) (⟨⟨_, rfl⟩, rfl⟩)
        · have c_71 : ¬ (¬ x2 = 197) := of_decide_eq_false c_71
          have h4 : (4 : Int) ≤ nn := iln 4 hln 197 197 (by rw [show _ = (197 : Int32) from Decidable.not_not.mp c_71]; decide) (by rw [show _ = (197 : Int32) from Decidable.not_not.mp c_71]; decide) mlk_4_197_197
          refine ml_blk 3 (S' := (77, [(0, .ref m0), (1, .int x1), (2, .int x2)], [.int 3, .int x1, .ref m0], M)) rfl ?_
          refine ml_st (S' := (78, [(0, .ref m0), (1, .int x1), (2, .int x2)], [.int (x1 + 3), .ref m0], M)) rfl rfl rfl ?_
          refine ml_call (a := [.ref m0, .int (x1 + 3)]) (rest := []) rfl (hR.okc rfl rfl rfl) rfl rfl (rm_b1 hR hF hC (by omega) (by omega) (by omega)) (fun v11 M12 h13 => ?_)
          obtain ⟨rfl, h13⟩ := h13
          rw [h13]
          show ml _ _ _ (81, [(0, .ref m0), (1, .int x1), (2, .int x2)], [.int (f1 f (ca + (x1 + 3)))], M) _
          refine ml_st (S' := (85, [], [.int (f1 f (ca + (x1 + 3)))], M)) rfl rfl rfl ?_
          exact ml_ret rfl (rfl) (⟨⟨_, rfl⟩, rfl⟩)
      · have c_52 : ¬ (¬ x2 = 170) := of_decide_eq_false c_52
        have ho : f1 f (ca + x1) = 170 := by rw [hop]; exact Decidable.not_not.mp c_52
        have h12 := ((hI.sw (Or.inl ho)).1 ho).1
        refine ml_blk 2 (S' := (57, [(0, .ref m0), (1, .int x1), (2, .int x2)], [.int x1, .ref m0], M)) rfl ?_
        refine ml_call (a := [.int x1]) (rest := [.ref m0]) rfl (rfl) rfl rfl (rm_pad hR (by omega)) (fun v14 M15 h16 => ?_)
        obtain ⟨rfl, h16⟩ := h16
        rw [h16]
        show ml _ _ _ (60, [(0, .ref m0), (1, .int x1), (2, .int x2)], [.int (pd x1), .ref m0], M) _
        refine ml_blk 2 (S' := (63, [(0, .ref m0), (1, .int x1), (2, .int x2)], [.int ((pd x1) + 8), .ref m0], M)) rfl ?_
        refine ml_call (a := [.ref m0, .int ((pd x1) + 8)]) (rest := []) rfl (hR.okc rfl rfl rfl) rfl rfl (rm_b4 hR hF hC (by omega) (by omega) (by omega)) (fun v17 M18 h19 => ?_)
        obtain ⟨rfl, h19⟩ := h19
        rw [h19]
        show ml _ _ _ (66, [(0, .ref m0), (1, .int x1), (2, .int x2)], [.int (B4 f ca ((pd x1) + 8))], M) _
        exact ml_ret rfl (rfl) (⟨⟨_, rfl⟩, rfl⟩)
    · have c_36 : ¬ (¬ x2 = 132) := of_decide_eq_false c_36
      have h3 : (3 : Int) ≤ nn := iln 3 hln 132 132 (by rw [show _ = (132 : Int32) from Decidable.not_not.mp c_36]; decide) (by rw [show _ = (132 : Int32) from Decidable.not_not.mp c_36]; decide) mlk_3_132_132
      refine ml_blk 3 (S' := (42, [(0, .ref m0), (1, .int x1), (2, .int x2)], [.int 2, .int x1, .ref m0], M)) rfl ?_
      refine ml_st (S' := (43, [(0, .ref m0), (1, .int x1), (2, .int x2)], [.int (x1 + 2), .ref m0], M)) rfl rfl rfl ?_
      refine ml_call (a := [.ref m0, .int (x1 + 2)]) (rest := []) rfl (hR.okc rfl rfl rfl) rfl rfl (rm_b1 hR hF hC (by omega) (by omega) (by omega)) (fun v20 M21 h22 => ?_)
      obtain ⟨rfl, h22⟩ := h22
      rw [h22]
      show ml _ _ _ (46, [(0, .ref m0), (1, .int x1), (2, .int x2)], [.int (f1 f (ca + (x1 + 2)))], M) _
      refine ml_st (S' := (47, [(0, .ref m0), (1, .int x1), (2, .int x2)], [.int ((f1 f (ca + (x1 + 2))).toInt8.toInt32)], M)) rfl rfl rfl ?_
      exact ml_ret rfl (rfl) (⟨⟨_, rfl⟩, rfl⟩)
  · have c_4 : ¬ (¬ x2 = 196) := of_decide_eq_false c_4
    have h4 : (4 : Int) ≤ nn := iln 4 hln 196 196 (by rw [show _ = (196 : Int32) from Decidable.not_not.mp c_4]; decide) (by rw [show _ = (196 : Int32) from Decidable.not_not.mp c_4]; decide) mlk_4_196_196
    refine ml_blk 3 (S' := (10, [(0, .ref m0), (1, .int x1), (2, .int x2)], [.int 1, .int x1, .ref m0], M)) rfl ?_
    refine ml_st (S' := (11, [(0, .ref m0), (1, .int x1), (2, .int x2)], [.int (x1 + 1), .ref m0], M)) rfl rfl rfl ?_
    refine ml_call (a := [.ref m0, .int (x1 + 1)]) (rest := []) rfl (hR.okc rfl rfl rfl) rfl rfl (rm_b1 hR hF hC (by omega) (by omega) (by omega)) (fun v23 M24 h25 => ?_)
    obtain ⟨rfl, h25⟩ := h25
    rw [h25]
    show ml _ _ _ (14, [(0, .ref m0), (1, .int x1), (2, .int x2)], [.int (f1 f (ca + (x1 + 1)))], M) _
    refine ml_st (S' := (17, [(0, .ref m0), (1, .int x1), (2, .int x2)], [.int 132, .int (f1 f (ca + (x1 + 1)))], M)) rfl rfl rfl ?_
    refine ml_if2 (S1 := (30, [(0, .ref m0), (1, .int x1), (2, .int x2)], [], M)) (S2 := (20, [(0, .ref m0), (1, .int x1), (2, .int x2)], [], M)) rfl rfl rfl (fun c_17 => ?_) (fun c_17 => ?_)
    · have c_17 : ¬ (f1 f (ca + (x1 + 1))) = 132 := of_decide_eq_true c_17
      refine ml_st (S' := (31, [], [.int 0], M)) rfl rfl rfl ?_
      exact ml_ret rfl (rfl) (⟨⟨_, rfl⟩, rfl⟩)
    · have c_17 : ¬ (¬ (f1 f (ca + (x1 + 1))) = 132) := of_decide_eq_false c_17
      have h6 := h196 (by rw [hop]; exact Decidable.not_not.mp c_4) (Decidable.not_not.mp c_17)
      refine ml_blk 3 (S' := (23, [(0, .ref m0), (1, .int x1), (2, .int x2)], [.int 4, .int x1, .ref m0], M)) rfl ?_
      refine ml_st (S' := (24, [(0, .ref m0), (1, .int x1), (2, .int x2)], [.int (x1 + 4), .ref m0], M)) rfl rfl rfl ?_
      refine ml_call (a := [.ref m0, .int (x1 + 4)]) (rest := []) rfl (hR.okc rfl rfl rfl) rfl rfl (rm_s2 hR hF hC (by omega) (by omega) (by omega)) (fun v26 M27 h28 => ?_)
      obtain ⟨rfl, h28⟩ := h28
      rw [h28]
      show ml _ _ _ (27, [(0, .ref m0), (1, .int x1), (2, .int x2)], [.int (S2 f ca (x1 + 4))], M) _
      refine ml_st (S' := (31, [], [.int (S2 f ca (x1 + 4))], M)) rfl rfl rfl ?_
      exact ml_ret rfl (rfl) (⟨⟨_, rfl⟩, rfl⟩)
set_option maxHeartbeats 2000000 in
theorem rm_cut {g : xe_G}  {m0 : Nat} {q : Nat → Nat} {z : Nat × Nat} {I : rI} {R : rR} {M : mi_H} {x1 kn co si : Int32} {n : Nat} {f : Nat → Int32}  (hR : RS g m0 q z I R M) (hk18 : I 18 = some kn) (hk74 : I 74 = some co) (hk9 : I 9 = some si) (hQ : CUO f n co I R) (hG : (kn < 0 ∨ GD n f I R)) {d : Nat} (hd : 8 ≤ d) : mt (mT g) d 199 [.ref m0, .int x1] M (fun v M' => ∃ (x : Int32) (I' : rI) (R' : rR), v = some (.int x) ∧ RS g m0 q z I' R' M' ∧ eqI [0, 74, 75, 76, 77, 78, 79] I I' ∧ eqR [80, 81] R R' ∧ ∃ c : Int32, I' 74 = some c ∧ CUO f n c I' R') := by
  obtain ⟨d, rfl⟩ : ∃ e, d = e + 1 := ⟨d - 1, by omega⟩
  refine mt_in (b := mb_199 g) rfl rfl ?_
  show ml (mT g) d (mb_199 g).2 (0, [(0, .ref m0), (1, .int x1)], [], M) _
  refine ml_blk 2 (S' := (2, [(0, .ref m0), (1, .int x1)], [.int 0, .ref m0], M)) rfl ?_
  refine rp_int rfl hR rfl (fun M11 I12 hR13 e14 f15 => ?_)
  show ml _ _ _ (5, [(0, .ref m0), (1, .int x1)], [], M11) _
  refine ml_blk 2 (S' := (7, [(0, .ref m0), (1, .int x1)], [.int x1, .ref m0], M11)) rfl ?_
  refine ml_call (a := [.ref m0, .int x1]) (rest := []) rfl (hR13.okc rfl rfl rfl) rfl rfl (rm_noCode hR13 ((f15 18 (by decide)).trans (hk18)) (hG.imp id (fun h => h.mono (pIx f15 (by decide)) (fun _ _ => rfl))) (by omega)) (fun v16 M17 h18 => ?_)
  obtain ⟨⟨u19, rfl, z20, w21⟩, h18⟩ := h18
  rw [h18]
  show ml _ _ _ (10, [(0, .ref m0), (1, .int x1)], [.int u19], M11) _
  refine ml_if (S1 := (15, [(0, .ref m0), (1, .int x1)], [], M11)) (S2 := (13, [(0, .ref m0), (1, .int x1)], [], M11)) rfl rfl rfl (fun c_10 => ?_) (fun c_10 => ?_)
  · have c_10 : u19 = 0 := of_decide_eq_true c_10
    obtain ⟨hkn, hx0, hx8, c9, l9, t9, h37, h38, h40, hc0, hl0, hcl9⟩ := w21.resolve_left (by rw [c_10]; decide)
    obtain ⟨S, cN, sa, sl, ch, cp, mj, pa, py, hA, fA, mA, aA, nf, ni, kf, km, hF0, hY0, hP0, hE0, hFO, kq54, kq58, kq61, hkf, kq25, hfk, hkm, kq26, hmk, hNW⟩ := hG.resolve_left (hkn)
    have hn := hF0.1
    refine ml_blk 2 (S' := (17, [(0, .ref m0), (1, .int x1)], [.int x1, .ref m0], M11)) rfl ?_
    have hF22 : FK n f I12 R := (hF0.mono (pIx f15 (by decide)) (fun _ _ => rfl))
    have hY23 : SK S cN sa sl ch I12 R := (hY0.mono (pIx f15 (by decide)) (fun _ _ => rfl))
    have hP24 : PK n f S cp mj pa py I12 R := (hP0.mono (pIx f15 (by decide)) (fun _ _ => rfl))
    have hQ25 : CUO f n co I12 R := (hQ.mono (pIx f15 (by decide)) (fun _ _ => rfl))
    refine ml_call (a := [.ref m0, .int x1]) (rest := []) rfl (hR13.okc rfl rfl rfl) rfl rfl (rm_cuts hR13 ((f15 74 (by decide)).trans (hk74)) ((f15 9 (by decide)).trans (hk9)) hF22 hY23 hP24 hE0 (hx0) (hx8) (h37) (h38) (h40) (hc0) (hl0) (hcl9) (hQ25.of hx0) (by omega)) (fun v26 M27 h28 => ?_)
    obtain ⟨u34, I29, R30, rfl, hR31, hI32, hV33, z35, w36⟩ := h28
    show ml _ _ _ (20, [(0, .ref m0), (1, .int x1)], [.int u34], M27) _
    obtain ⟨hcut, h74, hz⟩ := w36
    have hQ9 : CUO f n x1 I29 R30 := Or.inr hcut
    obtain ⟨ca, cl, wc, mx, mn, hC9, h75, h76, h79, hmn, hkb, hall⟩ := hcut
    refine ml_if (S1 := (30, [(0, .ref m0), (1, .int x1)], [], M27)) (S2 := (23, [(0, .ref m0), (1, .int x1)], [], M27)) rfl rfl rfl (fun c_20 => ?_) (fun c_20 => ?_)
    · have c_20 : u34 = 0 := of_decide_eq_true c_20
      refine ml_blk 2 (S' := (33, [(0, .ref m0), (1, .int x1)], [.ref m0, .int (-2)], M27)) rfl ?_
      refine rg_int (S' := (36, [(0, .ref m0), (1, .int x1)], [.int wc, .int (-2)], M27)) rfl hR31 rfl (h76) rfl ?_
      refine ml_st (S' := (37, [], [.int ((-2) - wc)], M27)) rfl rfl rfl ?_
      exact ml_ret rfl (rfl) (⟨_, _, _, rfl, hR31, ((eqI.rf.put f15 (by decide)).tr hI32 (by decide)), (eqR.rf.tr hV33 (by decide)), ⟨_, h74, hQ9⟩⟩)
    · have c_20 : ¬ (u34 = 0) := of_decide_eq_false c_20
      refine ml_st (S' := (24, [(0, .ref m0), (1, .int x1)], [.ref m0], M27)) rfl rfl rfl ?_
      refine rg_int (S' := (27, [(0, .ref m0), (1, .int x1)], [.int (nI mn)], M27)) rfl hR31 rfl (h75) rfl ?_
      refine ml_st (S' := (37, [], [.int (nI mn)], M27)) rfl rfl rfl ?_
      exact ml_ret rfl (rfl) (⟨_, _, _, rfl, hR31, ((eqI.rf.put f15 (by decide)).tr hI32 (by decide)), (eqR.rf.tr hV33 (by decide)), ⟨_, h74, hQ9⟩⟩)
  · have c_10 : ¬ (u19 = 0) := of_decide_eq_false c_10
    refine ml_st (S' := (14, [(0, .ref m0), (1, .int x1)], [.int (-1)], M11)) rfl rfl rfl ?_
    have hQ37 : CUO f n co I12 R := (hQ.mono (pIx f15 (by decide)) (fun _ _ => rfl))
    exact ml_ret rfl (rfl) (⟨_, _, _, rfl, hR13, (eqI.rf.put f15 (by decide)), eqR.rf, ⟨_, (f15 74 (by decide)).trans (hk74), hQ37⟩⟩)
set_option maxHeartbeats 2000000 in
theorem rm_instruction {g : xe_G}  {m0 : Nat} {q : Nat → Nat} {z : Nat × Nat} {I : rI} {R : rR} {M : mi_H} {x1 x2 x3 kn co si : Int32} {n : Nat} {f : Nat → Int32}  (hR : RS g m0 q z I R M) (hk18 : I 18 = some kn) (hk74 : I 74 = some co) (hk9 : I 9 = some si) (hQ : CUO f n co I R) (hG : (kn < 0 ∨ GD n f I R)) {d : Nat} (hd : 8 ≤ d) : mt (mT g) d 215 [.ref m0, .int x1, .int x2, .int x3] M (fun v M' => ∃ (x : Int32) (I' : rI) (R' : rR), v = some (.int x) ∧ RS g m0 q z I' R' M' ∧ eqI [0, 74, 75, 76, 77, 78, 79] I I' ∧ eqR [80, 81] R R' ∧ ∃ c : Int32, I' 74 = some c ∧ CUO f n c I' R') := by
  obtain ⟨d, rfl⟩ : ∃ e, d = e + 1 := ⟨d - 1, by omega⟩
  refine mt_in (b := mb_215 g) rfl rfl ?_
  show ml (mT g) d (mb_215 g).2 (0, [(0, .ref m0), (1, .int x1), (2, .int x2), (3, .int x3)], [], M) _
  refine ml_blk 2 (S' := (2, [(0, .ref m0), (1, .int x1), (2, .int x2), (3, .int x3)], [.int 0, .ref m0], M)) rfl ?_
  refine rp_int rfl hR rfl (fun M11 I12 hR13 e14 f15 => ?_)
  show ml _ _ _ (5, [(0, .ref m0), (1, .int x1), (2, .int x2), (3, .int x3)], [], M11) _
  refine ml_st (S' := (6, [(0, .ref m0), (1, .int x1), (2, .int x2), (3, .int x3)], [.int x3], M11)) rfl rfl rfl ?_
  refine ml_if (S1 := (14, [(0, .ref m0)], [], M11)) (S2 := (9, [(0, .ref m0), (1, .int x1), (2, .int x2), (3, .int x3)], [], M11)) rfl rfl rfl (fun c_6 => ?_) (fun c_6 => ?_)
  · have c_6 : x3 < 0 := of_decide_eq_true c_6
    refine ml_st (S' := (15, [(0, .ref m0)], [.ref m0], M11)) rfl rfl rfl ?_
    refine ml_call (a := [.ref m0]) (rest := []) rfl (hR13.okc rfl rfl rfl) rfl rfl (rm_bad hR13 (by omega)) (fun v16 M17 h18 => ?_)
    obtain ⟨u24, I19, R20, rfl, hR21, hI22, hV23, w25⟩ := h18
    show ml _ _ _ (18, [(0, .ref m0)], [.int u24], M17) _
    have hQ26 : CUO f n co I19 R20 := ((hQ.mono (pIx f15 (by decide)) (fun _ _ => rfl)).mono (cIx hI22 (by decide)) (cRx hV23 (by decide)))
    exact ml_ret rfl (rfl) (⟨_, _, _, rfl, hR21, ((eqI.rf.put f15 (by decide)).tr hI22 (by decide)), (eqR.rf.tr hV23 (by decide)), ⟨_, (hI22 74 (by decide)).trans ((f15 74 (by decide)).trans (hk74)), hQ26⟩⟩)
  · have c_6 : ¬ (x3 < 0) := of_decide_eq_false c_6
    refine ml_blk 2 (S' := (11, [(0, .ref m0), (1, .int x1), (2, .int x2), (3, .int x3)], [.int 4, .int x3], M11)) rfl ?_
    refine ml_if2 (S1 := (19, [(0, .ref m0), (1, .int x1), (2, .int x2), (3, .int x3)], [], M11)) (S2 := (14, [(0, .ref m0)], [], M11)) rfl rfl rfl (fun c_11 => ?_) (fun c_11 => ?_)
    · have c_11 : x3 ≤ 4 := of_decide_eq_true c_11
      refine ml_blk 2 (S' := (21, [(0, .ref m0), (1, .int x1), (2, .int x2), (3, .int x3)], [.int x1, .ref m0], M11)) rfl ?_
      refine ml_call (a := [.ref m0, .int x1]) (rest := []) rfl (hR13.okc rfl rfl rfl) rfl rfl (rm_noCode hR13 ((f15 18 (by decide)).trans (hk18)) (hG.imp id (fun h => h.mono (pIx f15 (by decide)) (fun _ _ => rfl))) (by omega)) (fun v27 M28 h29 => ?_)
      obtain ⟨⟨u30, rfl, z31, w32⟩, h29⟩ := h29
      rw [h29]
      show ml _ _ _ (24, [(0, .ref m0), (1, .int x1), (2, .int x2), (3, .int x3)], [.int u30], M11) _
      refine ml_if (S1 := (47, [], [], M11)) (S2 := (27, [(0, .ref m0), (1, .int x1), (2, .int x2), (3, .int x3)], [], M11)) rfl rfl rfl (fun c_24 => ?_) (fun c_24 => ?_)
      · have c_24 : ¬ u30 = 0 := of_decide_eq_true c_24
        refine ml_st (S' := (48, [], [.int (-1)], M11)) rfl rfl rfl ?_
        have hQ33 : CUO f n co I12 R := (hQ.mono (pIx f15 (by decide)) (fun _ _ => rfl))
        exact ml_ret rfl (rfl) (⟨_, _, _, rfl, hR13, (eqI.rf.put f15 (by decide)), eqR.rf, ⟨_, (f15 74 (by decide)).trans (hk74), hQ33⟩⟩)
      · have c_24 : ¬ (¬ u30 = 0) := of_decide_eq_false c_24
        obtain ⟨hkn, hx0, hx8, c9, l9, t9, h37, h38, h40, hc0, hl0, hcl9⟩ := w32.resolve_left (by have q := Decidable.not_not.mp c_24; rw [q]; decide)
        obtain ⟨S, cN, sa, sl, ch, cp, mj, pa, py, hA, fA, mA, aA, nf, ni, kf, km, hF0, hY0, hP0, hE0, hFO, kq54, kq58, kq61, hkf, kq25, hfk, hkm, kq26, hmk, hNW⟩ := hG.resolve_left (hkn)
        have hn := hF0.1
        refine ml_blk 2 (S' := (29, [(0, .ref m0), (1, .int x1), (2, .int x2), (3, .int x3)], [.int x1, .ref m0], M11)) rfl ?_
        have hF34 : FK n f I12 R := (hF0.mono (pIx f15 (by decide)) (fun _ _ => rfl))
        have hY35 : SK S cN sa sl ch I12 R := (hY0.mono (pIx f15 (by decide)) (fun _ _ => rfl))
        have hP36 : PK n f S cp mj pa py I12 R := (hP0.mono (pIx f15 (by decide)) (fun _ _ => rfl))
        have hQ37 : CUO f n co I12 R := (hQ.mono (pIx f15 (by decide)) (fun _ _ => rfl))
        refine ml_call (a := [.ref m0, .int x1]) (rest := []) rfl (hR13.okc rfl rfl rfl) rfl rfl (rm_cuts hR13 ((f15 74 (by decide)).trans (hk74)) ((f15 9 (by decide)).trans (hk9)) hF34 hY35 hP36 hE0 (hx0) (hx8) (h37) (h38) (h40) (hc0) (hl0) (hcl9) (hQ37.of hx0) (by omega)) (fun v38 M39 h40 => ?_)
        obtain ⟨u46, I41, R42, rfl, hR43, hI44, hV45, z47, w48⟩ := h40
        show ml _ _ _ (32, [(0, .ref m0), (1, .int x1), (2, .int x2), (3, .int x3)], [.int u46], M39) _
        obtain ⟨hcut, h74, hz⟩ := w48
        have hQ9 : CUO f n x1 I41 R42 := Or.inr hcut
        obtain ⟨ca, cl, wc, mx, mn, hC9, h75, h76, h79, hmn, hkb, hall⟩ := hcut
        refine ml_if (S1 := (47, [], [], M39)) (S2 := (35, [(0, .ref m0), (1, .int x1), (2, .int x2), (3, .int x3)], [], M39)) rfl rfl rfl (fun c_32 => ?_) (fun c_32 => ?_)
        · have c_32 : u46 = 0 := of_decide_eq_true c_32
          refine ml_st (S' := (48, [], [.int (-1)], M39)) rfl rfl rfl ?_
          exact ml_ret rfl (rfl) (⟨_, _, _, rfl, hR43, ((eqI.rf.put f15 (by decide)).tr hI44 (by decide)), (eqR.rf.tr hV45 (by decide)), ⟨_, h74, hQ9⟩⟩)
        · have c_32 : ¬ (u46 = 0) := of_decide_eq_false c_32
          refine ml_st (S' := (36, [(0, .ref m0), (1, .int x1), (2, .int x2), (3, .int x3)], [.int x2], M39)) rfl rfl rfl ?_
          refine ml_if (S1 := (47, [], [], M39)) (S2 := (39, [(0, .ref m0), (1, .int x1), (2, .int x2), (3, .int x3)], [], M39)) rfl rfl rfl (fun c_36 => ?_) (fun c_36 => ?_)
          · have c_36 : x2 < 0 := of_decide_eq_true c_36
            refine ml_st (S' := (48, [], [.int (-1)], M39)) rfl rfl rfl ?_
            exact ml_ret rfl (rfl) (⟨_, _, _, rfl, hR43, ((eqI.rf.put f15 (by decide)).tr hI44 (by decide)), (eqR.rf.tr hV45 (by decide)), ⟨_, h74, hQ9⟩⟩)
          · have c_36 : ¬ (x2 < 0) := of_decide_eq_false c_36
            refine ml_blk 2 (S' := (41, [(0, .ref m0), (1, .int x1), (2, .int x2), (3, .int x3)], [.ref m0, .int x2], M39)) rfl ?_
            refine rg_int (S' := (44, [(0, .ref m0), (1, .int x1), (2, .int x2), (3, .int x3)], [.int (nI mn), .int x2], M39)) rfl hR43 rfl (h75) rfl ?_
            refine ml_if2 (S1 := (49, [(0, .ref m0), (1, .int x1), (2, .int x2), (3, .int x3)], [], M39)) (S2 := (47, [], [], M39)) rfl rfl rfl (fun c_44 => ?_) (fun c_44 => ?_)
            · have c_44 : x2 < (nI mn) := of_decide_eq_true c_44
              have hk0 : 0 ≤ x2.toInt := i_nlt c_36
              have hclB : cl.toInt ≤ n := by have q := hC9.2.2; omega
              have hkl : x2.toInt < mn := by have q := i_lt c_44; rw [nI_val (by omega)] at q; exact q
              obtain ⟨p9, hp9, hins, hai⟩ := hall x2.toNatClampNeg (by show x2.toInt.toNat < mn; omega)
              obtain ⟨w, hw, hwn⟩ := hz.resolve_left c_32
              have hww : some wc = some w := h76.symm.trans hw
              cases hww
              have haim := hai hwn
              have hlt9 := hins.lt
              have hp90 := hins.1
              refine ml_st (S' := (50, [(0, .ref m0), (1, .int x1), (2, .int x2), (3, .int x3)], [.ref m0], M39)) rfl rfl rfl ?_
              refine rg_ref (S' := (53, [(0, .ref m0), (1, .int x1), (2, .int x2), (3, .int x3)], [.ref (q 80)], M39)) rfl hR43 rfl rfl ?_
              refine ml_st (S' := (54, [(0, .ref m0), (1, .int x1), (2, .int x2), (3, .int x3)], [.int x2, .ref (q 80)], M39)) rfl rfl rfl ?_
              refine ra_ld (k := 80) (S' := (55, [(0, .ref m0), (1, .int x1), (2, .int x2), (3, .int x3)], [.int p9], M39)) rfl hR43 rfl (vin_lt hk0 (by omega)) (hp9) rfl ?_
              refine ml_st (S' := (57, [(4, .int p9), (0, .ref m0), (1, .int x1), (2, .int x2), (3, .int x3)], [], M39)) rfl rfl rfl ?_
              refine ml_blk 2 (S' := (60, [(4, .int p9), (0, .ref m0), (1, .int x1), (2, .int x2), (3, .int x3)], [.int p9, .ref m0], M39)) rfl ?_
              have hF49 : FK n f I41 R42 := (hF34.mono (cIx hI44 (by decide)) (cRx hV45 (by decide)))
              refine ml_call (a := [.ref m0, .int p9]) (rest := []) rfl (hR43.okc rfl rfl rfl) rfl rfl (rm_b1 hR43 hF49 hC9 (hins.1) (hlt9) (by omega)) (fun v50 M51 h52 => ?_)
              obtain ⟨rfl, h52⟩ := h52
              rw [h52]
              show ml _ _ _ (63, [(4, .int p9), (0, .ref m0), (1, .int x1), (2, .int x2), (3, .int x3)], [.int (f1 f (ca + p9))], M39) _
              refine ml_st (S' := (65, [(5, .int (f1 f (ca + p9))), (4, .int p9), (0, .ref m0), (1, .int x1), (2, .int x2), (3, .int x3)], [], M39)) rfl rfl rfl ?_
              refine ml_st (S' := (66, [(5, .int (f1 f (ca + p9))), (4, .int p9), (0, .ref m0), (1, .int x1), (2, .int x2), (3, .int x3)], [.int x3], M39)) rfl rfl rfl ?_
              refine ml_if (S1 := (78, [(5, .int (f1 f (ca + p9))), (4, .int p9), (0, .ref m0), (1, .int x1), (2, .int x2), (3, .int x3)], [], M39)) (S2 := (69, [(5, .int (f1 f (ca + p9))), (4, .int p9), (0, .ref m0), (1, .int x1), (2, .int x2), (3, .int x3)], [], M39)) rfl rfl rfl (fun c_66 => ?_) (fun c_66 => ?_)
              · have c_66 : ¬ x3 = 0 := of_decide_eq_true c_66
                refine ml_blk 2 (S' := (80, [(5, .int (f1 f (ca + p9))), (4, .int p9), (0, .ref m0), (1, .int x1), (2, .int x2), (3, .int x3)], [.int 1, .int x3], M39)) rfl ?_
                refine ml_if2 (S1 := (86, [(5, .int (f1 f (ca + p9))), (4, .int p9), (0, .ref m0), (1, .int x1), (2, .int x2), (3, .int x3)], [], M39)) (S2 := (83, [(5, .int (f1 f (ca + p9))), (4, .int p9), (0, .ref m0), (1, .int x1), (2, .int x2), (3, .int x3)], [], M39)) rfl rfl rfl (fun c_80 => ?_) (fun c_80 => ?_)
                · have c_80 : ¬ x3 = 1 := of_decide_eq_true c_80
                  refine ml_blk 2 (S' := (88, [(5, .int (f1 f (ca + p9))), (4, .int p9), (0, .ref m0), (1, .int x1), (2, .int x2), (3, .int x3)], [.int 4, .int x3], M39)) rfl ?_
                  refine ml_if2 (S1 := (118, [(5, .int (f1 f (ca + p9))), (4, .int p9), (0, .ref m0), (1, .int x1), (2, .int x2), (3, .int x3)], [], M39)) (S2 := (91, [(5, .int (f1 f (ca + p9))), (4, .int p9), (0, .ref m0), (1, .int x1), (2, .int x2), (3, .int x3)], [], M39)) rfl rfl rfl (fun c_88 => ?_) (fun c_88 => ?_)
                  · have c_88 : ¬ x3 = 4 := of_decide_eq_true c_88
                    refine ml_blk 2 (S' := (120, [(5, .int (f1 f (ca + p9))), (4, .int p9), (0, .ref m0), (1, .int x1), (2, .int x2), (3, .int x3)], [.int 2, .int x3], M39)) rfl ?_
                    refine ml_if2 (S1 := (134, [(5, .int (f1 f (ca + p9))), (4, .int p9), (0, .ref m0), (1, .int x1), (2, .int x2), (3, .int x3)], [], M39)) (S2 := (123, [(5, .int (f1 f (ca + p9))), (4, .int p9), (0, .ref m0), (1, .int x1), (2, .int x2), (3, .int x3)], [], M39)) rfl rfl rfl (fun c_120 => ?_) (fun c_120 => ?_)
                    · have c_120 : ¬ x3 = 2 := of_decide_eq_true c_120
                      refine ml_blk 3 (S' := (139, [(5, .int (f1 f (ca + p9))), (4, .int p9), (0, .ref m0), (1, .int x1), (2, .int x2), (3, .int x3)], [.int (f1 f (ca + p9)), .int p9, .ref m0], M39)) rfl ?_
                      refine ml_call (a := [.ref m0, .int p9, .int (f1 f (ca + p9))]) (rest := []) rfl (hR43.okc rfl rfl rfl) rfl rfl (rm_second hR43 hF49 hC9 (hins) (rfl) (by omega)) (fun v53 M54 h55 => ?_)
                      obtain ⟨⟨u56, rfl⟩, h55⟩ := h55
                      rw [h55]
                      show ml _ _ _ (142, [], [.int u56], M39) _
                      exact ml_ret rfl (rfl) (⟨_, _, _, rfl, hR43, ((eqI.rf.put f15 (by decide)).tr hI44 (by decide)), (eqR.rf.tr hV45 (by decide)), ⟨_, h74, hQ9⟩⟩)
                    · have c_120 : ¬ (¬ x3 = 2) := of_decide_eq_false c_120
                      refine ml_blk 3 (S' := (128, [(5, .int (f1 f (ca + p9))), (4, .int p9), (0, .ref m0), (1, .int x1), (2, .int x2), (3, .int x3)], [.int (f1 f (ca + p9)), .int p9, .ref m0], M39)) rfl ?_
                      refine ml_call (a := [.ref m0, .int p9, .int (f1 f (ca + p9))]) (rest := []) rfl (hR43.okc rfl rfl rfl) rfl rfl (rm_first hR43 hF49 hC9 (hins) (rfl) (hkb) (haim) (by omega)) (fun v57 M58 h59 => ?_)
                      obtain ⟨⟨u60, rfl⟩, h59⟩ := h59
                      rw [h59]
                      show ml _ _ _ (131, [(5, .int (f1 f (ca + p9))), (4, .int p9), (0, .ref m0), (1, .int x1), (2, .int x2), (3, .int x3)], [.int u60], M39) _
                      refine ml_st (S' := (142, [], [.int u60], M39)) rfl rfl rfl ?_
                      exact ml_ret rfl (rfl) (⟨_, _, _, rfl, hR43, ((eqI.rf.put f15 (by decide)).tr hI44 (by decide)), (eqR.rf.tr hV45 (by decide)), ⟨_, h74, hQ9⟩⟩)
                  · have c_88 : ¬ (¬ x3 = 4) := of_decide_eq_false c_88
                    refine ml_blk 2 (S' := (96, [(5, .int (f1 f (ca + p9))), (4, .int p9), (0, .ref m0), (1, .int x1), (2, .int x2), (3, .int x3)], [.int 170, .int (f1 f (ca + p9))], M39)) rfl ?_
                    have J_107 : (f1 f (ca + p9) = 170 ∨ f1 f (ca + p9) = 171) → ml (mT g) d (mb_215 g).2 (107, [(0, .ref m0), (4, .int p9)], [], M39) (fun v M' => ∃ (x : Int32) (I' : rI) (R' : rR), v = some (.int x) ∧ RS g m0 q z I' R' M' ∧ eqI [0, 74, 75, 76, 77, 78, 79] I I' ∧ eqR [80, 81] R R' ∧ ∃ c : Int32, I' 74 = some c ∧ CUO f n c I' R') := by
                      intro hj_107
                      refine ml_blk 2 (S' := (110, [(0, .ref m0), (4, .int p9)], [.int p9, .ref m0], M39)) rfl ?_
                      refine ml_call (a := [.ref m0, .int p9]) (rest := []) rfl (hR43.okc rfl rfl rfl) rfl rfl (rm_ways hR43 hF49 hC9 (hins.1) (by omega) (hins.sw hj_107) (hj_107) (by omega)) (fun v61 M62 h63 => ?_)
                      obtain ⟨rfl, h63⟩ := h63
                      rw [h63]
                      show ml _ _ _ (113, [(0, .ref m0), (4, .int p9)], [.int (wyf f ca p9)], M39) _
                      refine ml_st (S' := (117, [], [.int (wyf f ca p9)], M39)) rfl rfl rfl ?_
                      exact ml_ret rfl (rfl) (⟨_, _, _, rfl, hR43, ((eqI.rf.put f15 (by decide)).tr hI44 (by decide)), (eqR.rf.tr hV45 (by decide)), ⟨_, h74, hQ9⟩⟩)
                    refine ml_if2 (S1 := (107, [(0, .ref m0), (4, .int p9)], [], M39)) (S2 := (99, [(5, .int (f1 f (ca + p9))), (4, .int p9), (0, .ref m0), (1, .int x1), (2, .int x2), (3, .int x3)], [], M39)) rfl rfl rfl (fun c_96 => ?_) (fun c_96 => ?_)
                    · have c_96 : (f1 f (ca + p9)) = 170 := of_decide_eq_true c_96
                      exact J_107  (Or.inl c_96)
                    · have c_96 : ¬ ((f1 f (ca + p9)) = 170) := of_decide_eq_false c_96
                      refine ml_blk 2 (S' := (104, [(5, .int (f1 f (ca + p9))), (4, .int p9), (0, .ref m0), (1, .int x1), (2, .int x2), (3, .int x3)], [.int 171, .int (f1 f (ca + p9))], M39)) rfl ?_
                      refine ml_if2 (S1 := (116, [(5, .int (f1 f (ca + p9))), (4, .int p9), (0, .ref m0), (1, .int x1), (2, .int x2), (3, .int x3)], [], M39)) (S2 := (107, [(0, .ref m0), (4, .int p9)], [], M39)) rfl rfl rfl (fun c_104 => ?_) (fun c_104 => ?_)
                      · have c_104 : ¬ (f1 f (ca + p9)) = 171 := of_decide_eq_true c_104
                        refine ml_st (S' := (117, [], [.int 0], M39)) rfl rfl rfl ?_
                        exact ml_ret rfl (rfl) (⟨_, _, _, rfl, hR43, ((eqI.rf.put f15 (by decide)).tr hI44 (by decide)), (eqR.rf.tr hV45 (by decide)), ⟨_, h74, hQ9⟩⟩)
                      · have c_104 : ¬ (¬ (f1 f (ca + p9)) = 171) := of_decide_eq_false c_104
                        exact J_107  (Or.inr (Decidable.not_not.mp c_104))
                · have c_80 : ¬ (¬ x3 = 1) := of_decide_eq_false c_80
                  refine ml_st (S' := (85, [(5, .int (f1 f (ca + p9))), (4, .int p9), (0, .ref m0), (1, .int x1), (2, .int x2), (3, .int x3)], [.int p9], M39)) rfl rfl rfl ?_
                  exact ml_ret rfl (rfl) (⟨_, _, _, rfl, hR43, ((eqI.rf.put f15 (by decide)).tr hI44 (by decide)), (eqR.rf.tr hV45 (by decide)), ⟨_, h74, hQ9⟩⟩)
              · have c_66 : ¬ (¬ x3 = 0) := of_decide_eq_false c_66
                refine ml_blk 3 (S' := (74, [(5, .int (f1 f (ca + p9))), (4, .int p9), (0, .ref m0), (1, .int x1), (2, .int x2), (3, .int x3)], [.int (f1 f (ca + p9)), .int p9, .ref m0], M39)) rfl ?_
                refine ml_call (a := [.ref m0, .int p9, .int (f1 f (ca + p9))]) (rest := []) rfl (hR43.okc rfl rfl rfl) rfl rfl (rm_plain hR43 hF49 hC9 (hins) (rfl) (by omega)) (fun v64 M65 h66 => ?_)
                obtain ⟨⟨u67, rfl⟩, h66⟩ := h66
                rw [h66]
                show ml _ _ _ (77, [(5, .int (f1 f (ca + p9))), (4, .int p9), (0, .ref m0), (1, .int x1), (2, .int x2), (3, .int x3)], [.int u67], M39) _
                exact ml_ret rfl (rfl) (⟨_, _, _, rfl, hR43, ((eqI.rf.put f15 (by decide)).tr hI44 (by decide)), (eqR.rf.tr hV45 (by decide)), ⟨_, h74, hQ9⟩⟩)
            · have c_44 : ¬ (x2 < (nI mn)) := of_decide_eq_false c_44
              refine ml_st (S' := (48, [], [.int (-1)], M39)) rfl rfl rfl ?_
              exact ml_ret rfl (rfl) (⟨_, _, _, rfl, hR43, ((eqI.rf.put f15 (by decide)).tr hI44 (by decide)), (eqR.rf.tr hV45 (by decide)), ⟨_, h74, hQ9⟩⟩)
    · have c_11 : ¬ (x3 ≤ 4) := of_decide_eq_false c_11
      refine ml_st (S' := (15, [(0, .ref m0)], [.ref m0], M11)) rfl rfl rfl ?_
      refine ml_call (a := [.ref m0]) (rest := []) rfl (hR13.okc rfl rfl rfl) rfl rfl (rm_bad hR13 (by omega)) (fun v68 M69 h70 => ?_)
      obtain ⟨u76, I71, R72, rfl, hR73, hI74, hV75, w77⟩ := h70
      show ml _ _ _ (18, [(0, .ref m0)], [.int u76], M69) _
      have hQ78 : CUO f n co I71 R72 := ((hQ.mono (pIx f15 (by decide)) (fun _ _ => rfl)).mono (cIx hI74 (by decide)) (cRx hV75 (by decide)))
      exact ml_ret rfl (rfl) (⟨_, _, _, rfl, hR73, ((eqI.rf.put f15 (by decide)).tr hI74 (by decide)), (eqR.rf.tr hV75 (by decide)), ⟨_, (hI74 74 (by decide)).trans ((f15 74 (by decide)).trans (hk74)), hQ78⟩⟩)
set_option maxHeartbeats 2000000 in
theorem rm_jump {g : xe_G}  {m0 : Nat} {q : Nat → Nat} {z : Nat × Nat} {I : rI} {R : rR} {M : mi_H} {x1 x2 x3 x4 kn co si : Int32} {n : Nat} {f : Nat → Int32}  (hR : RS g m0 q z I R M) (hk18 : I 18 = some kn) (hk74 : I 74 = some co) (hk9 : I 9 = some si) (hQ : CUO f n co I R) (hG : (kn < 0 ∨ GD n f I R)) {d : Nat} (hd : 8 ≤ d) : mt (mT g) d 220 [.ref m0, .int x1, .int x2, .int x3, .int x4] M (fun v M' => ∃ (x : Int32) (I' : rI) (R' : rR), v = some (.int x) ∧ RS g m0 q z I' R' M' ∧ eqI [0, 74, 75, 76, 77, 78, 79] I I' ∧ eqR [80, 81] R R' ∧ ∃ c : Int32, I' 74 = some c ∧ CUO f n c I' R') := by
  obtain ⟨d, rfl⟩ : ∃ e, d = e + 1 := ⟨d - 1, by omega⟩
  refine mt_in (b := mb_220 g) rfl rfl ?_
  show ml (mT g) d (mb_220 g).2 (0, [(0, .ref m0), (1, .int x1), (2, .int x2), (3, .int x3), (4, .int x4)], [], M) _
  refine ml_blk 2 (S' := (2, [(0, .ref m0), (1, .int x1), (2, .int x2), (3, .int x3), (4, .int x4)], [.int 0, .ref m0], M)) rfl ?_
  refine rp_int rfl hR rfl (fun M11 I12 hR13 e14 f15 => ?_)
  show ml _ _ _ (5, [(0, .ref m0), (1, .int x1), (2, .int x2), (3, .int x3), (4, .int x4)], [], M11) _
  refine ml_blk 2 (S' := (7, [(0, .ref m0), (1, .int x1), (2, .int x2), (3, .int x3), (4, .int x4)], [.int x1, .ref m0], M11)) rfl ?_
  refine ml_call (a := [.ref m0, .int x1]) (rest := []) rfl (hR13.okc rfl rfl rfl) rfl rfl (rm_noCode hR13 ((f15 18 (by decide)).trans (hk18)) (hG.imp id (fun h => h.mono (pIx f15 (by decide)) (fun _ _ => rfl))) (by omega)) (fun v16 M17 h18 => ?_)
  obtain ⟨⟨u19, rfl, z20, w21⟩, h18⟩ := h18
  rw [h18]
  show ml _ _ _ (10, [(0, .ref m0), (1, .int x1), (2, .int x2), (3, .int x3), (4, .int x4)], [.int u19], M11) _
  refine ml_if (S1 := (33, [], [], M11)) (S2 := (13, [(0, .ref m0), (1, .int x1), (2, .int x2), (3, .int x3), (4, .int x4)], [], M11)) rfl rfl rfl (fun c_10 => ?_) (fun c_10 => ?_)
  · have c_10 : ¬ u19 = 0 := of_decide_eq_true c_10
    refine ml_st (S' := (34, [], [.int (-1)], M11)) rfl rfl rfl ?_
    have hQ22 : CUO f n co I12 R := (hQ.mono (pIx f15 (by decide)) (fun _ _ => rfl))
    exact ml_ret rfl (rfl) (⟨_, _, _, rfl, hR13, (eqI.rf.put f15 (by decide)), eqR.rf, ⟨_, (f15 74 (by decide)).trans (hk74), hQ22⟩⟩)
  · have c_10 : ¬ (¬ u19 = 0) := of_decide_eq_false c_10
    obtain ⟨hkn, hx0, hx8, c9, l9, t9, h37, h38, h40, hc0, hl0, hcl9⟩ := w21.resolve_left (by have q := Decidable.not_not.mp c_10; rw [q]; decide)
    obtain ⟨S, cN, sa, sl, ch, cp, mj, pa, py, hA, fA, mA, aA, nf, ni, kf, km, hF0, hY0, hP0, hE0, hFO, kq54, kq58, kq61, hkf, kq25, hfk, hkm, kq26, hmk, hNW⟩ := hG.resolve_left (hkn)
    have hn := hF0.1
    refine ml_blk 2 (S' := (15, [(0, .ref m0), (1, .int x1), (2, .int x2), (3, .int x3), (4, .int x4)], [.int x1, .ref m0], M11)) rfl ?_
    have hF23 : FK n f I12 R := (hF0.mono (pIx f15 (by decide)) (fun _ _ => rfl))
    have hY24 : SK S cN sa sl ch I12 R := (hY0.mono (pIx f15 (by decide)) (fun _ _ => rfl))
    have hP25 : PK n f S cp mj pa py I12 R := (hP0.mono (pIx f15 (by decide)) (fun _ _ => rfl))
    have hQ26 : CUO f n co I12 R := (hQ.mono (pIx f15 (by decide)) (fun _ _ => rfl))
    refine ml_call (a := [.ref m0, .int x1]) (rest := []) rfl (hR13.okc rfl rfl rfl) rfl rfl (rm_cuts hR13 ((f15 74 (by decide)).trans (hk74)) ((f15 9 (by decide)).trans (hk9)) hF23 hY24 hP25 hE0 (hx0) (hx8) (h37) (h38) (h40) (hc0) (hl0) (hcl9) (hQ26.of hx0) (by omega)) (fun v27 M28 h29 => ?_)
    obtain ⟨u35, I30, R31, rfl, hR32, hI33, hV34, z36, w37⟩ := h29
    show ml _ _ _ (18, [(0, .ref m0), (1, .int x1), (2, .int x2), (3, .int x3), (4, .int x4)], [.int u35], M28) _
    obtain ⟨hcut, h74, hz⟩ := w37
    have hQ9 : CUO f n x1 I30 R31 := Or.inr hcut
    obtain ⟨ca, cl, wc, mx, mn, hC9, h75, h76, h79, hmn, hkb, hall⟩ := hcut
    refine ml_if (S1 := (33, [], [], M28)) (S2 := (21, [(0, .ref m0), (1, .int x1), (2, .int x2), (3, .int x3), (4, .int x4)], [], M28)) rfl rfl rfl (fun c_18 => ?_) (fun c_18 => ?_)
    · have c_18 : u35 = 0 := of_decide_eq_true c_18
      refine ml_st (S' := (34, [], [.int (-1)], M28)) rfl rfl rfl ?_
      exact ml_ret rfl (rfl) (⟨_, _, _, rfl, hR32, ((eqI.rf.put f15 (by decide)).tr hI33 (by decide)), (eqR.rf.tr hV34 (by decide)), ⟨_, h74, hQ9⟩⟩)
    · have c_18 : ¬ (u35 = 0) := of_decide_eq_false c_18
      refine ml_st (S' := (22, [(0, .ref m0), (1, .int x1), (2, .int x2), (3, .int x3), (4, .int x4)], [.int x2], M28)) rfl rfl rfl ?_
      refine ml_if (S1 := (33, [], [], M28)) (S2 := (25, [(0, .ref m0), (1, .int x1), (2, .int x2), (3, .int x3), (4, .int x4)], [], M28)) rfl rfl rfl (fun c_22 => ?_) (fun c_22 => ?_)
      · have c_22 : x2 < 0 := of_decide_eq_true c_22
        refine ml_st (S' := (34, [], [.int (-1)], M28)) rfl rfl rfl ?_
        exact ml_ret rfl (rfl) (⟨_, _, _, rfl, hR32, ((eqI.rf.put f15 (by decide)).tr hI33 (by decide)), (eqR.rf.tr hV34 (by decide)), ⟨_, h74, hQ9⟩⟩)
      · have c_22 : ¬ (x2 < 0) := of_decide_eq_false c_22
        refine ml_blk 2 (S' := (27, [(0, .ref m0), (1, .int x1), (2, .int x2), (3, .int x3), (4, .int x4)], [.ref m0, .int x2], M28)) rfl ?_
        refine rg_int (S' := (30, [(0, .ref m0), (1, .int x1), (2, .int x2), (3, .int x3), (4, .int x4)], [.int (nI mn), .int x2], M28)) rfl hR32 rfl (h75) rfl ?_
        refine ml_if2 (S1 := (35, [(0, .ref m0), (1, .int x1), (2, .int x2), (3, .int x3), (4, .int x4)], [], M28)) (S2 := (33, [], [], M28)) rfl rfl rfl (fun c_30 => ?_) (fun c_30 => ?_)
        · have c_30 : x2 < (nI mn) := of_decide_eq_true c_30
          have hk0 : 0 ≤ x2.toInt := i_nlt c_22
          have hclB : cl.toInt ≤ n := by have q := hC9.2.2; omega
          have hkl : x2.toInt < mn := by have q := i_lt c_30; rw [nI_val (by omega)] at q; exact q
          obtain ⟨p9, hp9, hins, hai⟩ := hall x2.toNatClampNeg (by show x2.toInt.toNat < mn; omega)
          obtain ⟨w, hw, hwn⟩ := hz.resolve_left c_18
          have hww : some wc = some w := h76.symm.trans hw
          cases hww
          have haim := hai hwn
          have hlt9 := hins.lt
          have hp90 := hins.1
          refine ml_st (S' := (36, [(0, .ref m0), (1, .int x1), (2, .int x2), (3, .int x3), (4, .int x4)], [.ref m0], M28)) rfl rfl rfl ?_
          refine rg_ref (S' := (39, [(0, .ref m0), (1, .int x1), (2, .int x2), (3, .int x3), (4, .int x4)], [.ref (q 80)], M28)) rfl hR32 rfl rfl ?_
          refine ml_st (S' := (40, [(0, .ref m0), (1, .int x1), (2, .int x2), (3, .int x3), (4, .int x4)], [.int x2, .ref (q 80)], M28)) rfl rfl rfl ?_
          refine ra_ld (k := 80) (S' := (41, [(0, .ref m0), (1, .int x1), (2, .int x2), (3, .int x3), (4, .int x4)], [.int p9], M28)) rfl hR32 rfl (vin_lt hk0 (by omega)) (hp9) rfl ?_
          refine ml_st (S' := (43, [(5, .int p9), (0, .ref m0), (1, .int x1), (2, .int x2), (3, .int x3), (4, .int x4)], [], M28)) rfl rfl rfl ?_
          refine ml_blk 2 (S' := (46, [(5, .int p9), (0, .ref m0), (1, .int x1), (2, .int x2), (3, .int x3), (4, .int x4)], [.int p9, .ref m0], M28)) rfl ?_
          have hF38 : FK n f I30 R31 := (hF23.mono (cIx hI33 (by decide)) (cRx hV34 (by decide)))
          refine ml_call (a := [.ref m0, .int p9]) (rest := []) rfl (hR32.okc rfl rfl rfl) rfl rfl (rm_b1 hR32 hF38 hC9 (hins.1) (hlt9) (by omega)) (fun v39 M40 h41 => ?_)
          obtain ⟨rfl, h41⟩ := h41
          rw [h41]
          show ml _ _ _ (49, [(5, .int p9), (0, .ref m0), (1, .int x1), (2, .int x2), (3, .int x3), (4, .int x4)], [.int (f1 f (ca + p9))], M28) _
          refine ml_st (S' := (51, [(6, .int (f1 f (ca + p9))), (5, .int p9), (0, .ref m0), (1, .int x1), (2, .int x2), (3, .int x3), (4, .int x4)], [], M28)) rfl rfl rfl ?_
          refine ml_blk 2 (S' := (56, [(6, .int (f1 f (ca + p9))), (5, .int p9), (0, .ref m0), (1, .int x1), (2, .int x2), (3, .int x3), (4, .int x4)], [.int 170, .int (f1 f (ca + p9))], M28)) rfl ?_
          have J_67 : (f1 f (ca + p9) = 170 ∨ f1 f (ca + p9) = 171) → ml (mT g) d (mb_220 g).2 (67, [(0, .ref m0), (3, .int x3), (4, .int x4), (5, .int p9), (6, .int (f1 f (ca + p9)))], [], M28) (fun v M' => ∃ (x : Int32) (I' : rI) (R' : rR), v = some (.int x) ∧ RS g m0 q z I' R' M' ∧ eqI [0, 74, 75, 76, 77, 78, 79] I I' ∧ eqR [80, 81] R R' ∧ ∃ c : Int32, I' 74 = some c ∧ CUO f n c I' R') := by
            intro hj_67
            refine ml_st (S' := (68, [(0, .ref m0), (3, .int x3), (4, .int x4), (5, .int p9), (6, .int (f1 f (ca + p9)))], [.int x3], M28)) rfl rfl rfl ?_
            refine ml_if (S1 := (81, [], [], M28)) (S2 := (71, [(0, .ref m0), (3, .int x3), (4, .int x4), (5, .int p9), (6, .int (f1 f (ca + p9)))], [], M28)) rfl rfl rfl (fun c_68 => ?_) (fun c_68 => ?_)
            · have c_68 : x3 < 0 := of_decide_eq_true c_68
              refine ml_st (S' := (82, [], [.int (-1)], M28)) rfl rfl rfl ?_
              exact ml_ret rfl (rfl) (⟨_, _, _, rfl, hR32, ((eqI.rf.put f15 (by decide)).tr hI33 (by decide)), (eqR.rf.tr hV34 (by decide)), ⟨_, h74, hQ9⟩⟩)
            · have c_68 : ¬ (x3 < 0) := of_decide_eq_false c_68
              refine ml_blk 3 (S' := (75, [(0, .ref m0), (3, .int x3), (4, .int x4), (5, .int p9), (6, .int (f1 f (ca + p9)))], [.int p9, .ref m0, .int x3], M28)) rfl ?_
              refine ml_call (a := [.ref m0, .int p9]) (rest := [.int x3]) rfl (hR32.okc rfl rfl rfl) rfl rfl (rm_ways hR32 hF38 hC9 (hins.1) (by omega) (hins.sw hj_67) (hj_67) (by omega)) (fun v42 M43 h44 => ?_)
              obtain ⟨rfl, h44⟩ := h44
              rw [h44]
              show ml _ _ _ (78, [(0, .ref m0), (3, .int x3), (4, .int x4), (5, .int p9), (6, .int (f1 f (ca + p9)))], [.int (wyf f ca p9), .int x3], M28) _
              refine ml_if2 (S1 := (83, [(0, .ref m0), (3, .int x3), (4, .int x4), (5, .int p9), (6, .int (f1 f (ca + p9)))], [], M28)) (S2 := (81, [], [], M28)) rfl rfl rfl (fun c_78 => ?_) (fun c_78 => ?_)
              · have c_78 : x3 < (wyf f ca p9) := of_decide_eq_true c_78
                have hi0 : 0 ≤ x3.toInt := i_nlt c_68
                have hiw := i_lt c_78
                have hsw := hins.sw hj_67
                have hwb := waf_b (by omega) hins.1 (by omega) hsw hj_67 hi0 hiw
                have hp := pd_b hins.1 (by omega)
                have hp8 := hsw.p8 hj_67
                have d4 : ((pd p9) + 4).toInt = (pd p9).toInt + 4 := by have e9 : (4 : Int32).toInt = 4 := rfl; rw [i_add (by omega) (by omega), e9]
                refine ml_st (S' := (85, [(0, .ref m0), (3, .int x3), (4, .int x4), (5, .int p9), (6, .int (f1 f (ca + p9)))], [.int x4], M28)) rfl rfl rfl ?_
                refine ml_if (S1 := (108, [(0, .ref m0), (3, .int x3), (4, .int x4), (5, .int p9), (6, .int (f1 f (ca + p9)))], [], M28)) (S2 := (88, [(0, .ref m0), (3, .int x3), (4, .int x4), (5, .int p9), (6, .int (f1 f (ca + p9)))], [], M28)) rfl rfl rfl (fun c_85 => ?_) (fun c_85 => ?_)
                · have c_85 : ¬ x4 = 0 := of_decide_eq_true c_85
                  refine ml_st (S' := (109, [(0, .ref m0), (3, .int x3), (4, .int x4), (5, .int p9), (6, .int (f1 f (ca + p9)))], [.int x3], M28)) rfl rfl rfl ?_
                  refine ml_if (S1 := (114, [(0, .ref m0), (3, .int x3), (4, .int x4), (5, .int p9), (6, .int (f1 f (ca + p9)))], [], M28)) (S2 := (112, [(0, .ref m0), (3, .int x3), (4, .int x4), (5, .int p9), (6, .int (f1 f (ca + p9)))], [], M28)) rfl rfl rfl (fun c_109 => ?_) (fun c_109 => ?_)
                  · have c_109 : ¬ x3 = 0 := of_decide_eq_true c_109
                    refine ml_blk 2 (S' := (119, [(0, .ref m0), (3, .int x3), (4, .int x4), (5, .int p9), (6, .int (f1 f (ca + p9)))], [.int 170, .int (f1 f (ca + p9))], M28)) rfl ?_
                    refine ml_if2 (S1 := (140, [(0, .ref m0), (3, .int x3), (4, .int x4), (5, .int p9), (6, .int (f1 f (ca + p9)))], [], M28)) (S2 := (122, [(0, .ref m0), (3, .int x3), (4, .int x4), (5, .int p9), (6, .int (f1 f (ca + p9)))], [], M28)) rfl rfl rfl (fun c_119 => ?_) (fun c_119 => ?_)
                    · have c_119 : ¬ (f1 f (ca + p9)) = 170 := of_decide_eq_true c_119
                      have e71 : f1 f (ca + p9) = 171 := hj_67.resolve_left c_119
                      obtain ⟨s1, s2, s3⟩ := hsw.2 e71
                      have hwv := (wyf_v (by omega) hins.1 (by omega) hsw).2 e71
                      have m8 := mul_k (k := 8) (x := x3) (a := 8) rfl (by omega) (by omega) hi0 (by omega)
                      have a2 : (pd p9 + 8 * x3).toInt = (pd p9).toInt + 8 * x3.toInt := by rw [i_add (by omega) (by omega), m8]
                      refine ml_blk 2 (S' := (143, [(0, .ref m0), (3, .int x3), (4, .int x4), (5, .int p9), (6, .int (f1 f (ca + p9)))], [.int p9, .ref m0], M28)) rfl ?_
                      refine ml_call (a := [.int p9]) (rest := [.ref m0]) rfl (rfl) rfl rfl (rm_pad hR32 (by omega)) (fun v45 M46 h47 => ?_)
                      obtain ⟨rfl, h47⟩ := h47
                      rw [h47]
                      show ml _ _ _ (146, [(0, .ref m0), (3, .int x3), (4, .int x4), (5, .int p9), (6, .int (f1 f (ca + p9)))], [.int (pd p9), .ref m0], M28) _
                      refine ml_blk 3 (S' := (150, [(0, .ref m0), (3, .int x3), (4, .int x4), (5, .int p9), (6, .int (f1 f (ca + p9)))], [.int (8 * x3), .int (pd p9), .ref m0], M28)) rfl ?_
                      refine ml_st (S' := (151, [(0, .ref m0), (3, .int x3), (4, .int x4), (5, .int p9), (6, .int (f1 f (ca + p9)))], [.int ((pd p9) + (8 * x3)), .ref m0], M28)) rfl rfl rfl ?_
                      refine ml_call (a := [.ref m0, .int ((pd p9) + (8 * x3))]) (rest := []) rfl (hR32.okc rfl rfl rfl) rfl rfl (rm_b4 hR32 hF38 hC9 (by omega) (by omega) (by omega)) (fun v48 M49 h50 => ?_)
                      obtain ⟨rfl, h50⟩ := h50
                      rw [h50]
                      show ml _ _ _ (154, [], [.int (B4 f ca ((pd p9) + (8 * x3)))], M28) _
                      exact ml_ret rfl (rfl) (⟨_, _, _, rfl, hR32, ((eqI.rf.put f15 (by decide)).tr hI33 (by decide)), (eqR.rf.tr hV34 (by decide)), ⟨_, h74, hQ9⟩⟩)
                    · have c_119 : ¬ (¬ (f1 f (ca + p9)) = 170) := of_decide_eq_false c_119
                      refine ml_blk 2 (S' := (125, [(0, .ref m0), (3, .int x3), (4, .int x4), (5, .int p9), (6, .int (f1 f (ca + p9)))], [.int p9, .ref m0], M28)) rfl ?_
                      refine ml_call (a := [.int p9]) (rest := [.ref m0]) rfl (rfl) rfl rfl (rm_pad hR32 (by omega)) (fun v51 M52 h53 => ?_)
                      obtain ⟨rfl, h53⟩ := h53
                      rw [h53]
                      show ml _ _ _ (128, [(0, .ref m0), (3, .int x3), (4, .int x4), (5, .int p9), (6, .int (f1 f (ca + p9)))], [.int (pd p9), .ref m0], M28) _
                      refine ml_blk 2 (S' := (130, [(0, .ref m0), (3, .int x3), (4, .int x4), (5, .int p9), (6, .int (f1 f (ca + p9)))], [.int ((pd p9) + 4), .ref m0], M28)) rfl ?_
                      refine ml_call (a := [.ref m0, .int ((pd p9) + 4)]) (rest := []) rfl (hR32.okc rfl rfl rfl) rfl rfl (rm_b4 hR32 hF38 hC9 (by omega) (by omega) (by omega)) (fun v54 M55 h56 => ?_)
                      obtain ⟨rfl, h56⟩ := h56
                      rw [h56]
                      show ml _ _ _ (133, [(0, .ref m0), (3, .int x3), (4, .int x4), (5, .int p9), (6, .int (f1 f (ca + p9)))], [.int (B4 f ca ((pd p9) + 4))], M28) _
                      refine ml_blk 3 (S' := (136, [(0, .ref m0), (3, .int x3), (4, .int x4), (5, .int p9), (6, .int (f1 f (ca + p9)))], [.int 1, .int ((B4 f ca ((pd p9) + 4)) + x3)], M28)) rfl ?_
                      refine ml_st (S' := (137, [(0, .ref m0), (3, .int x3), (4, .int x4), (5, .int p9), (6, .int (f1 f (ca + p9)))], [.int (((B4 f ca ((pd p9) + 4)) + x3) - 1)], M28)) rfl rfl rfl ?_
                      refine ml_st (S' := (154, [], [.int (((B4 f ca ((pd p9) + 4)) + x3) - 1)], M28)) rfl rfl rfl ?_
                      exact ml_ret rfl (rfl) (⟨_, _, _, rfl, hR32, ((eqI.rf.put f15 (by decide)).tr hI33 (by decide)), (eqR.rf.tr hV34 (by decide)), ⟨_, h74, hQ9⟩⟩)
                  · have c_109 : ¬ (¬ x3 = 0) := of_decide_eq_false c_109
                    refine ml_st (S' := (113, [(0, .ref m0), (3, .int x3), (4, .int x4), (5, .int p9), (6, .int (f1 f (ca + p9)))], [.int 0], M28)) rfl rfl rfl ?_
                    exact ml_ret rfl (rfl) (⟨_, _, _, rfl, hR32, ((eqI.rf.put f15 (by decide)).tr hI33 (by decide)), (eqR.rf.tr hV34 (by decide)), ⟨_, h74, hQ9⟩⟩)
                · have c_85 : ¬ (¬ x4 = 0) := of_decide_eq_false c_85
                  refine ml_st (S' := (89, [(0, .ref m0), (3, .int x3), (4, .int x4), (5, .int p9), (6, .int (f1 f (ca + p9)))], [.ref m0], M28)) rfl rfl rfl ?_
                  refine rg_ref (S' := (92, [(0, .ref m0), (3, .int x3), (4, .int x4), (5, .int p9), (6, .int (f1 f (ca + p9)))], [.ref (q 81)], M28)) rfl hR32 rfl rfl ?_
                  refine ml_blk 3 (S' := (96, [(0, .ref m0), (3, .int x3), (4, .int x4), (5, .int p9), (6, .int (f1 f (ca + p9)))], [.ref m0, .ref m0, .int p9, .ref (q 81)], M28)) rfl ?_
                  refine ml_blk 2 (S' := (99, [(0, .ref m0), (3, .int x3), (4, .int x4), (5, .int p9), (6, .int (f1 f (ca + p9)))], [.int x3, .int p9, .ref m0, .ref m0, .int p9, .ref (q 81)], M28)) rfl ?_
                  refine ml_call (a := [.ref m0, .int p9, .int x3]) (rest := [.ref m0, .int p9, .ref (q 81)]) rfl (hR32.okc rfl rfl rfl) rfl rfl (rm_wayAt hR32 hF38 hC9 (hins.1) (by omega) (by omega)) (fun v57 M58 h59 => ?_)
                  obtain ⟨rfl, h59⟩ := h59
                  rw [h59]
                  show ml _ _ _ (102, [(0, .ref m0), (3, .int x3), (4, .int x4), (5, .int p9), (6, .int (f1 f (ca + p9)))], [.int (waf f ca p9 x3), .ref m0, .int p9, .ref (q 81)], M28) _
                  refine ml_call (a := [.ref m0, .int (waf f ca p9 x3)]) (rest := [.int p9, .ref (q 81)]) rfl (hR32.okc rfl rfl rfl) rfl rfl (rm_b4 hR32 hF38 hC9 (hwb.1) (hwb.2) (by omega)) (fun v60 M61 h62 => ?_)
                  obtain ⟨rfl, h62⟩ := h62
                  rw [h62]
                  show ml _ _ _ (105, [(0, .ref m0), (3, .int x3), (4, .int x4), (5, .int p9), (6, .int (f1 f (ca + p9)))], [.int (B4 f ca (waf f ca p9 x3)), .int p9, .ref (q 81)], M28) _
                  refine ml_st (S' := (106, [(0, .ref m0), (3, .int x3), (4, .int x4), (5, .int p9), (6, .int (f1 f (ca + p9)))], [.int (p9 + (B4 f ca (waf f ca p9 x3))), .ref (q 81)], M28)) rfl rfl rfl ?_
                  have hq := haim.2.2 hj_67 x3 hi0 hiw
                  obtain ⟨v9, hv9⟩ := hkb (p9 + B4 f ca (waf f ca p9 x3)).toNatClampNeg (by show (p9 + B4 f ca (waf f ca p9 x3)).toInt.toNat < _; omega)
                  refine ra_ld (k := 81) (S' := (107, [(0, .ref m0), (3, .int x3), (4, .int x4), (5, .int p9), (6, .int (f1 f (ca + p9)))], [.int v9], M28)) rfl hR32 rfl (vin_lt hq.1 (by omega)) (hv9) rfl ?_
                  exact ml_ret rfl (rfl) (⟨_, _, _, rfl, hR32, ((eqI.rf.put f15 (by decide)).tr hI33 (by decide)), (eqR.rf.tr hV34 (by decide)), ⟨_, h74, hQ9⟩⟩)
              · have c_78 : ¬ (x3 < (wyf f ca p9)) := of_decide_eq_false c_78
                refine ml_st (S' := (82, [], [.int (-1)], M28)) rfl rfl rfl ?_
                exact ml_ret rfl (rfl) (⟨_, _, _, rfl, hR32, ((eqI.rf.put f15 (by decide)).tr hI33 (by decide)), (eqR.rf.tr hV34 (by decide)), ⟨_, h74, hQ9⟩⟩)
          refine ml_if2 (S1 := (67, [(0, .ref m0), (3, .int x3), (4, .int x4), (5, .int p9), (6, .int (f1 f (ca + p9)))], [], M28)) (S2 := (59, [(6, .int (f1 f (ca + p9))), (5, .int p9), (0, .ref m0), (1, .int x1), (2, .int x2), (3, .int x3), (4, .int x4)], [], M28)) rfl rfl rfl (fun c_56 => ?_) (fun c_56 => ?_)
          · have c_56 : (f1 f (ca + p9)) = 170 := of_decide_eq_true c_56
            exact J_67  (Or.inl c_56)
          · have c_56 : ¬ ((f1 f (ca + p9)) = 170) := of_decide_eq_false c_56
            refine ml_blk 2 (S' := (64, [(6, .int (f1 f (ca + p9))), (5, .int p9), (0, .ref m0), (1, .int x1), (2, .int x2), (3, .int x3), (4, .int x4)], [.int 171, .int (f1 f (ca + p9))], M28)) rfl ?_
            refine ml_if2 (S1 := (81, [], [], M28)) (S2 := (67, [(0, .ref m0), (3, .int x3), (4, .int x4), (5, .int p9), (6, .int (f1 f (ca + p9)))], [], M28)) rfl rfl rfl (fun c_64 => ?_) (fun c_64 => ?_)
            · have c_64 : ¬ (f1 f (ca + p9)) = 171 := of_decide_eq_true c_64
              refine ml_st (S' := (82, [], [.int (-1)], M28)) rfl rfl rfl ?_
              exact ml_ret rfl (rfl) (⟨_, _, _, rfl, hR32, ((eqI.rf.put f15 (by decide)).tr hI33 (by decide)), (eqR.rf.tr hV34 (by decide)), ⟨_, h74, hQ9⟩⟩)
            · have c_64 : ¬ (¬ (f1 f (ca + p9)) = 171) := of_decide_eq_false c_64
              exact J_67  (Or.inr (Decidable.not_not.mp c_64))
        · have c_30 : ¬ (x2 < (nI mn)) := of_decide_eq_false c_30
          refine ml_st (S' := (34, [], [.int (-1)], M28)) rfl rfl rfl ?_
          exact ml_ret rfl (rfl) (⟨_, _, _, rfl, hR32, ((eqI.rf.put f15 (by decide)).tr hI33 (by decide)), (eqR.rf.tr hV34 (by decide)), ⟨_, h74, hQ9⟩⟩)
end
section
/-! the reference: a heap that knows no more than needed (my own text) -/
section MIB
def cH (g : xe_G) (m0 : Nat) (q : Nat → Nat) (I : rI) (R : rR) : mi_H :=
  (fun a => if a = m0 then some (.inr (12, rfld q I)) else
    match (List.range 82).find? (fun k => rx k && (q k == a)) with
    | some k => if k = 62 then some (.inl (.object "java/lang/String", 10, fun i => (knl[i]?).map (fun j => Value.ref (g.2.1 j)))) else
        (rt k).map (fun t => (.inl (t.1, t.2, fun i => (R k i).map Value.int)))
    | none => ((List.range 30).find? (fun k => decide (15 ≤ k) && (g.2.1 k == a))).map (fun k => .inr (100 + k, fun _ => none)), 0, 0)
theorem fnd {p : Nat → Bool} {n k : Nat} (hk : k < n) (hp : p k = true) (hu : ∀ j, p j = true → j = k) : (List.range n).find? p = some k := by
  cases h : (List.range n).find? p with
  | none => exact absurd hp (List.find?_eq_none.mp h k (List.mem_range.mpr hk))
  | some j => rw [hu j (List.find?_some h)]
theorem fnd0 {p : Nat → Bool} {n : Nat} (hu : ∀ j, p j = true → False) : (List.range n).find? p = none := List.find?_eq_none.mpr (fun j _ hj => hu j hj)
theorem rt_lt {k : Nat} {t : FieldType × Nat} (h : rt k = some t) : k < 82 := by
  unfold rt at h
  split at h <;> first | decide | cases h
theorem rx_lt {k : Nat} (h : rx k = true) : k < 82 := by
  unfold rx at h
  cases e : rt k with
  | some t => exact rt_lt e
  | none =>
    rw [e] at h
    have : k = 62 := by simpa using h
    omega
theorem rt_rx {k : Nat} {t : FieldType × Nat} (h : rt k = some t) : rx k = true := by
  unfold rx
  rw [h]
  rfl
theorem rt_62 {k : Nat} {t : FieldType × Nat} (h : rt k = some t) : k ≠ 62 := by
  rintro rfl
  cases h
theorem rx_62 : rx 62 = true := by decide
theorem rx_cell {g : xe_G} {m0 : Nat} {q : Nat → Nat} {z : Nat × Nat} {I : rI} {R : rR} {M : mi_H} (hR : RS g m0 q z I R M) {k : Nat} (h : rx k = true) : ∃ c, M.1 (q k) = some (.inl c) := by
  by_cases e : k = 62
  · subst e
    exact ⟨_, hR.2.2.1⟩
  · cases h2 : rt k with
    | some t => exact ⟨_, hR.2.1 k t h2⟩
    | none =>
      unfold rx at h
      rw [h2] at h
      exact absurd (by simpa using h) e
variable {g : xe_G} {m0 : Nat} {q : Nat → Nat} {z : Nat × Nat} {I I' : rI} {R R' : rR} {M : mi_H}
theorem q_ne (hR : RS g m0 q z I R M) {k : Nat} (h : rx k = true) : q k ≠ m0 := fun e => by
  obtain ⟨c, h1⟩ := rx_cell hR h
  rw [e, hR.1] at h1
  cases h1
theorem l_ne (hR : RS g m0 q z I R M) {k : Nat} (h : rlk k) : g.2.1 k ≠ m0 := fun e => by
  obtain ⟨f, h1⟩ := hR.2.2.2.2.2 k h
  rw [e, hR.1] at h1
  have e2 : 12 = 100 + k := congrArg (fun c : Option mi_C => match c with | some (.inr o) => o.1 | _ => 0) h1
  omega
theorem l_nq (hR : RS g m0 q z I R M) {k j : Nat} (h : rlk k) (hj : rx j = true) : q j ≠ g.2.1 k := fun e => by
  obtain ⟨f, h1⟩ := hR.2.2.2.2.2 k h
  obtain ⟨c, h2⟩ := rx_cell hR hj
  rw [e, h1] at h2
  cases h2
theorem l_inj (hR : RS g m0 q z I R M) {k j : Nat} (h : rlk k) (hj : rlk j) (e : g.2.1 j = g.2.1 k) : j = k := by
  obtain ⟨f, h1⟩ := hR.2.2.2.2.2 k h
  obtain ⟨f', h2⟩ := hR.2.2.2.2.2 j hj
  rw [e, h1] at h2
  have e2 : 100 + k = 100 + j := congrArg (fun c : Option mi_C => match c with | some (.inr o) => o.1 | _ => 0) h2
  omega
theorem cH_q (hR : RS g m0 q z I' R' M) {k : Nat} (h : rx k = true) : (cH g m0 q I R).1 (q k) = if k = 62 then some (.inl (.object "java/lang/String", 10, fun i => (knl[i]?).map (fun j => Value.ref (g.2.1 j)))) else (rt k).map (fun t => (.inl (t.1, t.2, fun i => (R k i).map Value.int))) := by
  have hf : (List.range 82).find? (fun j => rx j && (q j == q k)) = some k := fnd (rx_lt h) (by simp [h]) (fun j hj => by
    have hj' : rx j = true ∧ q j = q k := by simpa using hj
    exact hR.2.2.2.1 j k hj'.1 h hj'.2)
  show (if q k = m0 then _ else _) = _
  rw [if_neg (q_ne hR h), hf]
theorem cH_l (hR : RS g m0 q z I' R' M) {k : Nat} (h : rlk k) : (cH g m0 q I R).1 (g.2.1 k) = some (.inr (100 + k, fun _ => none)) := by
  have hf : (List.range 82).find? (fun j => rx j && (q j == g.2.1 k)) = none := fnd0 (fun j hj => by
    have hj' : rx j = true ∧ q j = g.2.1 k := by simpa using hj
    exact l_nq hR h hj'.1 hj'.2)
  cases h3 : (List.range 30).find? (fun j => decide (15 ≤ j) && (g.2.1 j == g.2.1 k)) with
  | none => exact absurd (by simp [h.1] : (decide (15 ≤ k) && (g.2.1 k == g.2.1 k)) = true) (List.find?_eq_none.mp h3 k (List.mem_range.mpr h.2))
  | some j =>
    have h4' : 15 ≤ j ∧ g.2.1 j = g.2.1 k := by simpa using List.find?_some h3
    have h4 := h4'.2
    have h5 : rlk j := ⟨h4'.1, List.mem_range.mp (List.mem_of_find?_eq_some h3)⟩
    show (if g.2.1 k = m0 then _ else _) = _
    rw [if_neg (l_ne hR h), hf, h3, l_inj hR h h5 h4]
    rfl
theorem cH_RS (hR : RS g m0 q z I' R' M) : RS g m0 q (0, 0) I R (cH g m0 q I R) := by
  refine ⟨?_, fun k t ht => ?_, ?_, hR.2.2.2.1, rfl, fun k hk => ⟨_, cH_l hR hk⟩⟩
  · show (if m0 = m0 then _ else _) = _
    rw [if_pos rfl]
  · rw [cH_q hR (rt_rx ht), if_neg (rt_62 ht), ht]
    rfl
  · rw [cH_q hR rx_62, if_pos rfl]
def leI (I I' : rI) : Prop := ∀ k v, rx k = false → I k = some v → I' k = some v
def leR (R R' : rR) : Prop := ∀ k t i v, rt k = some t → R k i = some v → R' k i = some v
theorem cH_le (hR : RS g m0 q z I' R' M) (hI : leI I I') (hr : leR R R') : hle (cH g m0 q I R) M := by
  intro a c hc
  by_cases e : a = m0
  · subst e
    have h1 : some (.inr (12, rfld q I)) = some c := ((cH_RS (I := I) (R := R) hR).1).symm.trans hc
    cases h1
    refine ⟨_, hR.1, rfl, fun k v hk => ?_⟩
    have hk : rfld q I k = some v := hk
    show rfld q I' k = some v
    unfold rfld at hk ⊢
    cases hx : rx k with
    | true => rw [hx] at hk; simpa using hk
    | false =>
      rw [hx] at hk
      simp only [Bool.false_eq_true, if_false] at hk ⊢
      cases h2 : I k with
      | none => rw [h2] at hk; cases hk
      | some w =>
        rw [h2] at hk
        rw [hI k w hx h2]
        exact hk
  · cases h3 : (List.range 82).find? (fun k => rx k && (q k == a)) with
    | some k =>
      have h4 : rx k = true ∧ q k = a := by simpa using List.find?_some h3
      obtain ⟨h5, rfl⟩ := h4
      rw [cH_q hR h5] at hc
      by_cases e2 : k = 62
      · subst e2
        rw [if_pos rfl] at hc
        cases hc
        exact ⟨_, hR.2.2.1, rfl, rfl, fun i v h => h⟩
      · rw [if_neg e2] at hc
        cases h6 : rt k with
        | none => rw [h6] at hc; cases hc
        | some t =>
          rw [h6] at hc
          cases hc
          refine ⟨_, hR.2.1 k t h6, rfl, rfl, fun i v hv => ?_⟩
          have hv' : (R k i).map Value.int = some v := hv
          cases h7 : R k i with
          | none => rw [h7] at hv'; cases hv'
          | some w =>
            rw [h7] at hv'
            show (R' k i).map Value.int = some v
            rw [hr k t i w h6 h7]
            exact hv'
    | none =>
      have h4 : (cH g m0 q I R).1 a = ((List.range 30).find? (fun k => decide (15 ≤ k) && (g.2.1 k == a))).map (fun k => .inr (100 + k, fun _ => none)) := by
        show (if a = m0 then _ else _) = _
        rw [if_neg e, h3]
      rw [h4] at hc
      cases h5 : (List.range 30).find? (fun k => decide (15 ≤ k) && (g.2.1 k == a)) with
      | none => rw [h5] at hc; cases hc
      | some k =>
        have h6' : 15 ≤ k ∧ g.2.1 k = a := by simpa using List.find?_some h5
        obtain ⟨h60, rfl⟩ := h6'
        rw [h5] at hc
        cases hc
        obtain ⟨f, h7⟩ := hR.2.2.2.2.2 k ⟨h60, List.mem_range.mp (List.mem_of_find?_eq_some h5)⟩
        exact ⟨_, h7, rfl, fun _ v h => by cases h⟩
theorem le_of {z' : Nat × Nat} {M' : mi_H} (hR : RS g m0 q z I R M) (hR' : RS g m0 q z' I' R' M') (h : hle M M') : leI I I' ∧ leR R R' := by
  refine ⟨fun k v hx hv => ?_, fun k t i v ht hv => ?_⟩
  · obtain ⟨c, h1, h2⟩ := h m0 _ hR.1
    rw [hR'.1] at h1
    cases h1
    have h3 := h2.2 k (.int v) (by show rfld q I k = _; unfold rfld; rw [hx, hv]; rfl)
    have h4 : rfld q I' k = some (.int v) := h3
    unfold rfld at h4
    rw [hx] at h4
    simp only [Bool.false_eq_true, if_false] at h4
    cases h5 : I' k with
    | none => rw [h5] at h4; cases h4
    | some w => rw [h5] at h4; cases h4; rfl
  · obtain ⟨c, h1, h2⟩ := h (q k) _ (hR.2.1 k t ht)
    rw [hR'.2.1 k t ht] at h1
    cases h1
    have h3 := h2.2.2 i (.int v) (by show (R k i).map Value.int = _; rw [hv]; rfl)
    have h4 : (R' k i).map Value.int = some (.int v) := h3
    cases h5 : R' k i with
    | none => rw [h5] at h4; cases h4
    | some w => rw [h5] at h4; cases h4; rfl
/-- what was known of the fields stays known -/
theorem kp_of {z' : Nat × Nat} {M' : mi_H} (hR : RS g m0 q z I R M) (hR' : RS g m0 q z' I' R' M') (h : hkp M M') {k : Nat} {v : Int32} (hx : rx k = false) (hv : I k = some v) : ∃ w, I' k = some w := by
  obtain ⟨f', v', h1, h2⟩ := h m0 12 _ k (.int v) hR.1 (by unfold rfld; rw [hx, hv]; rfl)
  rw [hR'.1] at h1
  cases h1
  unfold rfld at h2
  rw [hx] at h2
  simp only [Bool.false_eq_true, if_false] at h2
  cases h5 : I' k with
  | none => rw [h5] at h2; cases h2
  | some w => exact ⟨w, rfl⟩
def Iu : rI := fun k => if k = 49 then some 0 else none
def Ru (kr : rR) : rR := fun k i => if k = 63 ∨ k = 64 then kr k i else none
def CLF (Ic : rI) (Rc : rR) : Prop := ∃ S cN : Nat, SYM S cN Ic Rc ∧ S ≤ 3 ∧ cN ≤ 30 ∧ (∃ a, Ic 9 = some a) ∧ (∃ a, Ic 10 = some a) ∧ (∃ a, Ic 11 = some a) ∧ Ic 20 = some 0 ∧ Ic 25 = some 0 ∧ Ic 26 = some 0
/-- how clear ends from the least knowledge -/
def CAN (g : xe_G) (m0 : Nat) (q : Nat → Nat) (kr : rR) (Ic : rI) (Rc : rR) : Prop := Ic 49 = some 0 ∧ Rc 63 = kr 63 ∧ Rc 64 = kr 64 ∧ CLF Ic Rc ∧ ∃ Mc, RS g m0 q (0, 0) Ic Rc Mc ∧ mt (mT g) 3 195 [.ref m0] (cH g m0 q Iu (Ru kr)) (fun v M' => v = none ∧ M' = Mc)
theorem can_ex (hR : RS g m0 q z I R M) (kr : rR) : ∃ Ic Rc, CAN g m0 q kr Ic Rc := by
  obtain ⟨r, h1, h2, Ic, Rc, h3, h4, h5, h6⟩ := rm_clear (cH_RS (I := Iu) (R := Ru kr) hR) (d := 3) (Nat.le_refl 3)
  refine ⟨Ic, Rc, (h4 49 (by decide)).trans rfl, (h5 63 (by decide)).trans ?_, (h5 64 (by decide)).trans ?_, h6, r.2, h3, r, h1, h2, rfl⟩
  · funext i
    rfl
  · funext i
    rfl
def Ifn (n : Nat) (Ic : rI) : rI := fun k => if k = 16 then some (nI n) else Ic k
def Rfn (f : Nat → Int32) (n : Nat) (Rc : rR) : rR := fun k i => if k = 12 then (if i < n then some (f i) else none) else Rc k i
/-- how a file is judged -/
def CANX (g : xe_G) (m0 : Nat) (q : Nat → Nat) (Ic : rI) (Rc : rR) (f : Nat → Int32) (n : Nat) (x : Int32) : Prop := mt (mT g) 9 190 [.ref m0] (cH g m0 q (Ifn n Ic) (Rfn f n Rc)) (fun v _ => v = some (.int x))
theorem canx_ex {kr : rR} {Ic : rI} {Rc : rR} {f : Nat → Int32} {n : Nat} (hR : RS g m0 q z I R M) (h : CAN g m0 q kr Ic Rc) (hK : KW Iu kr) (hn : n ≤ 65540) : ∃ x, (x = 0 ∨ x = 1) ∧ CANX g m0 q Ic Rc f n x := by
  obtain ⟨h49, h63, h64, ⟨S, cN, hS, hS3, hC3, ⟨a9, h9⟩, ⟨a10, h10⟩, ⟨a11, h11⟩, h20, h25, h26⟩, -⟩ := h
  have hI : ∀ k, k ≠ 16 → Ifn n Ic k = Ic k := fun k hk => if_neg hk
  have hr : ∀ k, k ≠ 12 → Rfn f n Rc k = Rc k := fun k hk => funext (fun i => if_neg hk)
  obtain ⟨r, h1, x, I', R', h2, h3, h4, h5, h6, h7⟩ := rm_checkFile (d := 9) (si := a9) (sc := a10) (so := a11) (n := n) (f := f) (S := S) (cN := cN) (cH_RS (I := Ifn n Ic) (R := Rfn f n Rc) hR) ((hI 20 (by decide)).trans h20) ((hI 25 (by decide)).trans h25) ((hI 26 (by decide)).trans h26) ((hI 9 (by decide)).trans h9) ((hI 10 (by decide)).trans h10) ((hI 11 (by decide)).trans h11) ⟨hn, (hI 49 (by decide)).trans h49, if_pos rfl, fun i hi => by show (if 12 = 12 then _ else _) = _; rw [if_pos rfl, if_pos hi]⟩ (hS.mono (fun k hk => hI k (by rintro rfl; revert hk; decide)) (fun k hk => hr k (by rintro rfl; revert hk; decide))) (hK.mono (fun k hk => by cases hk) (fun k hk => by
    rcases List.mem_cons.mp hk with rfl | hk
    · exact (hr 63 (by decide)).trans h63
    · rcases List.mem_cons.mp hk with rfl | hk
      · exact (hr 64 (by decide)).trans h64
      · cases hk)) hS3 hC3 (Nat.le_refl 9)
  exact ⟨x, h6, r, h1, h2⟩
end MIB
end
section
/-! the reference: the same file is judged alike (my own text) -/
section MIB2
variable {g : xe_G} {m0 : Nat} {q : Nat → Nat} {z : Nat × Nat} {I I' : rI} {R R' : rR} {M : mi_H} {kr : rR} {Ic : rI} {Rc : rR} {f : Nat → Int32} {n : Nat}
theorem rm_clearC (hR : RS g m0 q z I R M) (hcan : CAN g m0 q kr Ic Rc) (h49 : I 49 = some 0) (h63 : R 63 = kr 63) (h64 : R 64 = kr 64) {d : Nat} (hd : 3 ≤ d) : mt (mT g) d 195 [.ref m0] M (fun v M' => v = none ∧ ∃ (I' : rI) (R' : rR), RS g m0 q z I' R' M' ∧ eqI [3, 8, 9, 10, 11, 20, 25, 26] I I' ∧ eqR [1, 2, 4, 5, 6, 7] R R' ∧ (CLF I' R' ∧ leI Ic I' ∧ leR Rc R')) := by
  obtain ⟨-, -, -, -, Mc, hRc, hmc⟩ := hcan
  have hl : hle (cH g m0 q Iu (Ru kr)) M := cH_le hR (fun k v _ hv => by
    unfold Iu at hv
    by_cases e : k = 49
    · rw [if_pos e] at hv
      cases hv
      rw [e]
      exact h49
    · rw [if_neg e] at hv
      cases hv) (fun k t i v _ hv => by
    unfold Ru at hv
    by_cases e : k = 63 ∨ k = 64
    · rw [if_pos e] at hv
      rcases e with e | e
      · rw [e] at hv ⊢
        rw [h63]
        exact hv
      · rw [e] at hv ⊢
        rw [h64]
        exact hv
    · rw [if_neg e] at hv
      cases hv)
  obtain ⟨r, hr, ⟨hv, I1, R1, a1, a2, a3, a4⟩, -, M0, ⟨-, hM0⟩, hle0⟩ := mt.more (mz_all (g := g)) (y := 195) (by decide) hmc (rm_clear hR hd) hl
  rw [hM0] at hle0
  have h5 := le_of hRc a1 hle0
  exact ⟨r, hr, hv, I1, R1, a1, a2, a3, a4, h5.1, h5.2⟩
theorem rm_checkFileC {si sc so : Int32} {S cN : Nat} {x0 : Int32} (hR : RS g m0 q z I R M) (hk20 : I 20 = some 0) (hk25 : I 25 = some 0) (hk26 : I 26 = some 0) (hk9 : I 9 = some si) (hk10 : I 10 = some sc) (hk11 : I 11 = some so) (hF : FK n f I R) (hZ : SYM S cN I R) (hK : KW I R) (hS3 : S ≤ 3) (hC3 : cN ≤ 30) (hx : CANX g m0 q Ic Rc f n x0) (hli : leI (Ifn n Ic) I) (hlr : leR (Rfn f n Rc) R) {d : Nat} (hd : 9 ≤ d) : mt (mT g) d 190 [.ref m0] M (fun v M' => ∃ (x : Int32) (I' : rI) (R' : rR), v = some (.int x) ∧ RS g m0 q z I' R' M' ∧ eqI [3, 8, 20, 25, 26, 47, 48, 50, 51, 52, 53, 54, 55, 56, 57, 58, 59, 60, 61, 65, 66, 67, 68, 69, 70, 71, 72] I I' ∧ eqR [1, 2, 4, 5, 6, 7, 21, 22, 27, 28, 29, 30, 31, 32, 33, 34, 35, 36, 37, 38, 39, 40, 41, 42, 43, 44, 45, 46] R R' ∧ (x = 0 ∨ x = 1) ∧ (x = x0 ∧ (x = 0 ∨ GD n f I' R'))) := by
  obtain ⟨r, hr, ⟨x, I1, R1, a1, a2, a3, a4, a5, a6⟩, -, M0, hv0, -⟩ := mt.more (mz_all (g := g)) (y := 190) (by decide) hx (rm_checkFile hR hk20 hk25 hk26 hk9 hk10 hk11 hF hZ hK hS3 hC3 hd) (cH_le hR hli hlr)
  have e : x = x0 := by
    have e2 : some (Value.int x) = some (Value.int x0) := a1.symm.trans hv0
    cases e2
    rfl
  exact ⟨r, hr, x, I1, R1, a1, a2, a3, a4, a5, e, a6⟩
theorem le_fn {I1 : rI} (h : leI Ic I1) (h16 : I 16 = some (nI n)) (he : ∀ k, k ≠ 16 → I k = I1 k) : leI (Ifn n Ic) I := by
  intro k v hx hv
  unfold Ifn at hv
  by_cases e : k = 16
  · rw [if_pos e] at hv
    rw [e, h16]
    exact hv
  · rw [if_neg e] at hv
    rw [he k e]
    exact h k v hx hv
theorem le_rfn {R1 : rR} (h : leR Rc R1) (h12 : ∀ i, i < n → R 12 i = some (f i)) (he : ∀ k, k ≠ 12 → R k = R1 k) : leR (Rfn f n Rc) R := by
  intro k t i v ht hv
  unfold Rfn at hv
  by_cases e : k = 12
  · rw [if_pos e] at hv
    by_cases e2 : i < n
    · rw [if_pos e2] at hv
      rw [e, h12 i e2]
      exact hv
    · rw [if_neg e2] at hv
      cases hv
  · rw [if_neg e] at hv
    rw [he k e]
    exact h k t i v ht hv
theorem fill {k b : Int32} (h : ∀ i, i < k.toInt.toNat → R 12 i = some (f i)) (e : R' 12 k.toNatClampNeg = some (vp_nar .byte b)) (hb : vp_nar .byte b = f k.toNatClampNeg) (h2 : ∀ b, b ≠ k.toNatClampNeg → R' 12 b = R 12 b) : ∀ i, i < k.toInt.toNat + 1 → R' 12 i = some (f i) := by
  intro i hi
  by_cases e2 : i = k.toNatClampNeg
  · rw [e2, e, hb]
  · rw [h2 i e2]
    have : k.toNatClampNeg = k.toInt.toNat := rfl
    exact h i (by omega)
end MIB2
end
section
/-! the reference: parse (laid by wip/p2/c80.py) -/
set_option maxHeartbeats 2000000 in
theorem rm_parse13 {g : xe_G}  {m0 : Nat} {q : Nat → Nat} {z : Nat × Nat} {I : rI} {R : rR} {M : mi_H} {n : Nat} {f : Nat → Int32} {kr : rR} {Ic : rI} {Rc : rR} {x0 : Int32}  (hR : RS g m0 q z I R M) (hk49 : I 49 = some 0) (hK : KW I R) (hn : n ≤ 65540) (hcan : CAN g m0 q kr Ic Rc) (h63 : R 63 = kr 63) (h64 : R 64 = kr 64) (hx : CANX g m0 q Ic Rc f n x0) (hfr : ∀ i, i < n → ∃ b, R 13 i = some b ∧ vp_nar .byte b = f i) {d : Nat} (hd : 10 ≤ d) : mt (mT g) d 230 [.ref m0, .ref (q 13), .int (nI n)] M (fun v M' => ∃ (x : Int32) (I' : rI) (R' : rR), v = some (.int x) ∧ RS g m0 q z I' R' M' ∧ eqI [3, 8, 9, 10, 11, 16, 20, 25, 26, 47, 48, 50, 51, 52, 53, 54, 55, 56, 57, 58, 59, 60, 61, 65, 66, 67, 68, 69, 70, 71, 72] I I' ∧ eqR [1, 2, 4, 5, 6, 7, 12, 21, 22, 27, 28, 29, 30, 31, 32, 33, 34, 35, 36, 37, 38, 39, 40, 41, 42, 43, 44, 45, 46] R R' ∧ (x = 0 ∨ x = 1) ∧ (x = x0 ∧ (x = 0 ∨ GD n f I' R') ∧ ∃ a, I' 9 = some a)) := by
  obtain ⟨d, rfl⟩ : ∃ e, d = e + 1 := ⟨d - 1, by omega⟩
  refine mt_in (b := mb_230 g) rfl rfl ?_
  show ml (mT g) d (mb_230 g).2 (0, [(0, .ref m0), (1, .ref (q 13)), (2, .int (nI n))], [], M) _
  refine ml_st (S' := (1, [(0, .ref m0), (1, .ref (q 13)), (2, .int (nI n))], [.ref m0], M)) rfl rfl rfl ?_
  refine ml_call (a := [.ref m0]) (rest := []) rfl (hR.okc rfl rfl rfl) rfl rfl (rm_clearC hR (hcan) (hk49) (h63) (h64) (by omega)) (fun v11 M12 h13 => ?_)
  obtain ⟨rfl, I14, R15, hR16, hI17, hV18, w20⟩ := h13
  show ml _ _ _ (4, [(0, .ref m0), (1, .ref (q 13)), (2, .int (nI n))], [], M12) _
  obtain ⟨⟨S, cN, hZ9, hS3, hC3, ⟨a9, kz9⟩, ⟨a10, kz10⟩, ⟨a11, kz11⟩, kz20, kz25, kz26⟩, hli, hlr⟩ := w20
  refine ml_blk 2 (S' := (6, [(0, .ref m0), (1, .ref (q 13)), (2, .int (nI n))], [.int (nI n), .ref m0], M12)) rfl ?_
  refine rp_int rfl hR16 rfl (fun M21 I22 hR23 e24 f25 => ?_)
  show ml _ _ _ (9, [(0, .ref m0), (1, .ref (q 13)), (2, .int (nI n))], [], M21) _
  refine ml_st (S' := (10, [(0, .ref m0), (1, .ref (q 13)), (2, .int (nI n))], [.int 0], M21)) rfl rfl rfl ?_
  refine ml_st (S' := (11, [(0, .ref m0), (1, .ref (q 13)), (2, .int (nI n)), (3, .int 0)], [], M21)) rfl rfl rfl ?_
  have L_11 : ∀ (n_11 : Nat) (i11_3 : Int32) (M_11 : mi_H) (I_11 : rI) (R_11 : rR), (2147483648 - i11_3.toInt).toNat ≤ n_11 → RS g m0 q z I_11 R_11 M_11 → eqI [] I22 I_11 → eqR [12] R15 R_11 → (0 ≤ i11_3.toInt ∧ i11_3.toInt ≤ n ∧ ∀ i, i < i11_3.toInt.toNat → R_11 12 i = some (f i)) → ml (mT g) d (mb_230 g).2 (11, [(0, .ref m0), (1, .ref (q 13)), (2, .int (nI n)), (3, .int i11_3)], [], M_11) (fun v M' => ∃ (x : Int32) (I' : rI) (R' : rR), v = some (.int x) ∧ RS g m0 q z I' R' M' ∧ eqI [3, 8, 9, 10, 11, 16, 20, 25, 26, 47, 48, 50, 51, 52, 53, 54, 55, 56, 57, 58, 59, 60, 61, 65, 66, 67, 68, 69, 70, 71, 72] I I' ∧ eqR [1, 2, 4, 5, 6, 7, 12, 21, 22, 27, 28, 29, 30, 31, 32, 33, 34, 35, 36, 37, 38, 39, 40, 41, 42, 43, 44, 45, 46] R R' ∧ (x = 0 ∨ x = 1) ∧ (x = x0 ∧ (x = 0 ∨ GD n f I' R') ∧ ∃ a, I' 9 = some a)) := by
    intro n_11
    induction n_11 with
    | zero => intro i11_3 M_11 I_11 R_11 hn; exact (loop_zero hn).elim
    | succ n_11 ih_11 =>
      intro i11_3 M_11 I_11 R_11 hn_11 hR_11 hI_11 hV_11 hi_11
      obtain ⟨hk0, hk1, hfl⟩ := hi_11
      refine ml_blk 2 (S' := (13, [(0, .ref m0), (1, .ref (q 13)), (2, .int (nI n)), (3, .int i11_3)], [.int (nI n), .int i11_3], M_11)) rfl ?_
      refine ml_if2 (S1 := (31, [(0, .ref m0), (1, .ref (q 13)), (2, .int (nI n)), (3, .int i11_3)], [], M_11)) (S2 := (16, [(0, .ref m0), (1, .ref (q 13)), (2, .int (nI n)), (3, .int i11_3)], [], M_11)) rfl rfl rfl (fun c_13 => ?_) (fun c_13 => ?_)
      · have c_13 : (nI n) ≤ i11_3 := of_decide_eq_true c_13
        have hall : ∀ i, i < n → R_11 12 i = some (f i) := fun i hi => hfl i (by have q := i_le c_13; rw [nI_val (by omega)] at q; omega)
        have hF9 : FK n f I_11 R_11 := ⟨hn, (hI_11 49 (by decide)).trans ((f25 49 (by decide)).trans ((hI17 49 (by decide)).trans (hk49))), (hI_11 16 (by decide)).trans (e24), hall⟩
        refine ml_st (S' := (32, [(0, .ref m0), (1, .ref (q 13)), (2, .int (nI n)), (3, .int i11_3)], [.ref m0], M_11)) rfl rfl rfl ?_
        have hZ26 : SYM S cN I_11 R_11 := ((hZ9.mono (pIx f25 (by decide)) (fun _ _ => rfl)).mono (cIx hI_11 (by decide)) (cRx hV_11 (by decide)))
        have hK27 : KW I_11 R_11 := (((hK.mono (cIx hI17 (by decide)) (cRx hV18 (by decide))).mono (pIx f25 (by decide)) (fun _ _ => rfl)).mono (cIx hI_11 (by decide)) (cRx hV_11 (by decide)))
        refine ml_call (a := [.ref m0]) (rest := []) rfl (hR_11.okc rfl rfl rfl) rfl rfl (rm_checkFileC hR_11 ((hI_11 20 (by decide)).trans ((f25 20 (by decide)).trans (kz20))) ((hI_11 25 (by decide)).trans ((f25 25 (by decide)).trans (kz25))) ((hI_11 26 (by decide)).trans ((f25 26 (by decide)).trans (kz26))) ((hI_11 9 (by decide)).trans ((f25 9 (by decide)).trans (kz9))) ((hI_11 10 (by decide)).trans ((f25 10 (by decide)).trans (kz10))) ((hI_11 11 (by decide)).trans ((f25 11 (by decide)).trans (kz11))) hF9 hZ26 hK27 (hS3) (hC3) (hx) (le_fn hli ((hI_11 16 (by decide)).trans (e24)) (fun k hk => (hI_11 k (by simp)).trans (f25 k hk))) (le_rfn hlr hall (fun k hk => hV_11 k (by simpa using hk))) (by omega)) (fun v28 M29 h30 => ?_)
        obtain ⟨u36, I31, R32, rfl, hR33, hI34, hV35, z37, w38⟩ := h30
        show ml _ _ _ (35, [(0, .ref m0), (1, .ref (q 13)), (2, .int (nI n)), (3, .int i11_3)], [.int u36], M29) _
        exact ml_ret rfl (r_z (z37)) (⟨_, _, _, rfl, hR33, ((((eqI.rf.tr hI17 (by decide)).put f25 (by decide)).tr hI_11 (by decide)).tr hI34 (by decide)), (((eqR.rf.tr hV18 (by decide)).tr hV_11 (by decide)).tr hV35 (by decide)), z37, ⟨w38.1, w38.2, _, (hI34 9 (by decide)).trans ((hI_11 9 (by decide)).trans ((f25 9 (by decide)).trans (kz9)))⟩⟩)
      · have c_13 : ¬ ((nI n) ≤ i11_3) := of_decide_eq_false c_13
        have hkl : i11_3.toInt < n := by have q := i_nle c_13; rw [nI_val (by omega)] at q; exact q
        obtain ⟨b9, hb9, hnb⟩ := hfr i11_3.toNatClampNeg (by show i11_3.toInt.toNat < n; omega)
        refine ml_st (S' := (17, [(0, .ref m0), (1, .ref (q 13)), (2, .int (nI n)), (3, .int i11_3)], [.ref m0], M_11)) rfl rfl rfl ?_
        refine rg_ref (S' := (20, [(0, .ref m0), (1, .ref (q 13)), (2, .int (nI n)), (3, .int i11_3)], [.ref (q 12)], M_11)) rfl hR_11 rfl rfl ?_
        refine ml_blk 3 (S' := (23, [(0, .ref m0), (1, .ref (q 13)), (2, .int (nI n)), (3, .int i11_3)], [.int i11_3, .ref (q 13), .int i11_3, .ref (q 12)], M_11)) rfl ?_
        refine ra_ld (k := 13) (S' := (24, [(0, .ref m0), (1, .ref (q 13)), (2, .int (nI n)), (3, .int i11_3)], [.int b9, .int i11_3, .ref (q 12)], M_11)) rfl hR_11 rfl (vin_lt hk0 (by omega)) ((congrFun ((hV_11 13 (by decide)).trans (hV18 13 (by decide))) _).trans hb9) rfl ?_
        refine ra_st (k := 12) rfl hR_11 rfl (vin_lt hk0 (by omega)) (fun M39 R40 hR41 e42 g43 f44 => ?_)
        show ml _ _ _ (25, [(0, .ref m0), (1, .ref (q 13)), (2, .int (nI n)), (3, .int i11_3)], [], M39) _
        refine ml_st (S' := (28, [(3, .int (i11_3 + 1)), (0, .ref m0), (1, .ref (q 13)), (2, .int (nI n))], [], M39)) rfl rfl rfl ?_
        refine ml_st (S' := (11, [(0, .ref m0), (1, .ref (q 13)), (2, .int (nI n)), (3, .int (i11_3 + 1))], [], M39)) rfl rfl rfl ?_
        exact ih_11 (i11_3 + 1) _ _ _ (loop_inc (Int32.not_le.mp c_13) hn_11) hR41 (eqI.rf.tr hI_11 (by decide)) ((eqR.rf.tr hV_11 (by decide)).put f44 (by decide)) (⟨by rw [inc_lt (Int32.not_le.mp c_13)]; omega, by rw [inc_lt (Int32.not_le.mp c_13)]; omega, by rw [show (i11_3 + 1).toInt.toNat = i11_3.toInt.toNat + 1 by rw [inc_lt (Int32.not_le.mp c_13)]; omega]; exact fill hfl e42 hnb g43⟩)
  exact L_11 _ 0 _ _ _ (Nat.le_refl _) hR23 eqI.rf eqR.rf (⟨by decide, by have : (0 : Int32).toInt = 0 := rfl; omega, fun i hi => absurd hi (Nat.not_lt_zero i)⟩)
set_option maxHeartbeats 2000000 in
theorem rm_parse14 {g : xe_G}  {m0 : Nat} {q : Nat → Nat} {z : Nat × Nat} {I : rI} {R : rR} {M : mi_H} {n : Nat} {f : Nat → Int32} {kr : rR} {Ic : rI} {Rc : rR} {x0 : Int32}  (hR : RS g m0 q z I R M) (hk49 : I 49 = some 0) (hK : KW I R) (hn : n ≤ 65540) (hcan : CAN g m0 q kr Ic Rc) (h63 : R 63 = kr 63) (h64 : R 64 = kr 64) (hx : CANX g m0 q Ic Rc f n x0) (hfr : ∀ i, i < n → ∃ b, R 14 i = some b ∧ vp_nar .byte b = f i) {d : Nat} (hd : 10 ≤ d) : mt (mT g) d 230 [.ref m0, .ref (q 14), .int (nI n)] M (fun v M' => ∃ (x : Int32) (I' : rI) (R' : rR), v = some (.int x) ∧ RS g m0 q z I' R' M' ∧ eqI [3, 8, 9, 10, 11, 16, 20, 25, 26, 47, 48, 50, 51, 52, 53, 54, 55, 56, 57, 58, 59, 60, 61, 65, 66, 67, 68, 69, 70, 71, 72] I I' ∧ eqR [1, 2, 4, 5, 6, 7, 12, 21, 22, 27, 28, 29, 30, 31, 32, 33, 34, 35, 36, 37, 38, 39, 40, 41, 42, 43, 44, 45, 46] R R' ∧ (x = 0 ∨ x = 1) ∧ (x = x0 ∧ (x = 0 ∨ GD n f I' R') ∧ ∃ a, I' 9 = some a)) := by
  obtain ⟨d, rfl⟩ : ∃ e, d = e + 1 := ⟨d - 1, by omega⟩
  refine mt_in (b := mb_230 g) rfl rfl ?_
  show ml (mT g) d (mb_230 g).2 (0, [(0, .ref m0), (1, .ref (q 14)), (2, .int (nI n))], [], M) _
  refine ml_st (S' := (1, [(0, .ref m0), (1, .ref (q 14)), (2, .int (nI n))], [.ref m0], M)) rfl rfl rfl ?_
  refine ml_call (a := [.ref m0]) (rest := []) rfl (hR.okc rfl rfl rfl) rfl rfl (rm_clearC hR (hcan) (hk49) (h63) (h64) (by omega)) (fun v11 M12 h13 => ?_)
  obtain ⟨rfl, I14, R15, hR16, hI17, hV18, w20⟩ := h13
  show ml _ _ _ (4, [(0, .ref m0), (1, .ref (q 14)), (2, .int (nI n))], [], M12) _
  obtain ⟨⟨S, cN, hZ9, hS3, hC3, ⟨a9, kz9⟩, ⟨a10, kz10⟩, ⟨a11, kz11⟩, kz20, kz25, kz26⟩, hli, hlr⟩ := w20
  refine ml_blk 2 (S' := (6, [(0, .ref m0), (1, .ref (q 14)), (2, .int (nI n))], [.int (nI n), .ref m0], M12)) rfl ?_
  refine rp_int rfl hR16 rfl (fun M21 I22 hR23 e24 f25 => ?_)
  show ml _ _ _ (9, [(0, .ref m0), (1, .ref (q 14)), (2, .int (nI n))], [], M21) _
  refine ml_st (S' := (10, [(0, .ref m0), (1, .ref (q 14)), (2, .int (nI n))], [.int 0], M21)) rfl rfl rfl ?_
  refine ml_st (S' := (11, [(0, .ref m0), (1, .ref (q 14)), (2, .int (nI n)), (3, .int 0)], [], M21)) rfl rfl rfl ?_
  have L_11 : ∀ (n_11 : Nat) (i11_3 : Int32) (M_11 : mi_H) (I_11 : rI) (R_11 : rR), (2147483648 - i11_3.toInt).toNat ≤ n_11 → RS g m0 q z I_11 R_11 M_11 → eqI [] I22 I_11 → eqR [12] R15 R_11 → (0 ≤ i11_3.toInt ∧ i11_3.toInt ≤ n ∧ ∀ i, i < i11_3.toInt.toNat → R_11 12 i = some (f i)) → ml (mT g) d (mb_230 g).2 (11, [(0, .ref m0), (1, .ref (q 14)), (2, .int (nI n)), (3, .int i11_3)], [], M_11) (fun v M' => ∃ (x : Int32) (I' : rI) (R' : rR), v = some (.int x) ∧ RS g m0 q z I' R' M' ∧ eqI [3, 8, 9, 10, 11, 16, 20, 25, 26, 47, 48, 50, 51, 52, 53, 54, 55, 56, 57, 58, 59, 60, 61, 65, 66, 67, 68, 69, 70, 71, 72] I I' ∧ eqR [1, 2, 4, 5, 6, 7, 12, 21, 22, 27, 28, 29, 30, 31, 32, 33, 34, 35, 36, 37, 38, 39, 40, 41, 42, 43, 44, 45, 46] R R' ∧ (x = 0 ∨ x = 1) ∧ (x = x0 ∧ (x = 0 ∨ GD n f I' R') ∧ ∃ a, I' 9 = some a)) := by
    intro n_11
    induction n_11 with
    | zero => intro i11_3 M_11 I_11 R_11 hn; exact (loop_zero hn).elim
    | succ n_11 ih_11 =>
      intro i11_3 M_11 I_11 R_11 hn_11 hR_11 hI_11 hV_11 hi_11
      obtain ⟨hk0, hk1, hfl⟩ := hi_11
      refine ml_blk 2 (S' := (13, [(0, .ref m0), (1, .ref (q 14)), (2, .int (nI n)), (3, .int i11_3)], [.int (nI n), .int i11_3], M_11)) rfl ?_
      refine ml_if2 (S1 := (31, [(0, .ref m0), (1, .ref (q 14)), (2, .int (nI n)), (3, .int i11_3)], [], M_11)) (S2 := (16, [(0, .ref m0), (1, .ref (q 14)), (2, .int (nI n)), (3, .int i11_3)], [], M_11)) rfl rfl rfl (fun c_13 => ?_) (fun c_13 => ?_)
      · have c_13 : (nI n) ≤ i11_3 := of_decide_eq_true c_13
        have hall : ∀ i, i < n → R_11 12 i = some (f i) := fun i hi => hfl i (by have q := i_le c_13; rw [nI_val (by omega)] at q; omega)
        have hF9 : FK n f I_11 R_11 := ⟨hn, (hI_11 49 (by decide)).trans ((f25 49 (by decide)).trans ((hI17 49 (by decide)).trans (hk49))), (hI_11 16 (by decide)).trans (e24), hall⟩
        refine ml_st (S' := (32, [(0, .ref m0), (1, .ref (q 14)), (2, .int (nI n)), (3, .int i11_3)], [.ref m0], M_11)) rfl rfl rfl ?_
        have hZ26 : SYM S cN I_11 R_11 := ((hZ9.mono (pIx f25 (by decide)) (fun _ _ => rfl)).mono (cIx hI_11 (by decide)) (cRx hV_11 (by decide)))
        have hK27 : KW I_11 R_11 := (((hK.mono (cIx hI17 (by decide)) (cRx hV18 (by decide))).mono (pIx f25 (by decide)) (fun _ _ => rfl)).mono (cIx hI_11 (by decide)) (cRx hV_11 (by decide)))
        refine ml_call (a := [.ref m0]) (rest := []) rfl (hR_11.okc rfl rfl rfl) rfl rfl (rm_checkFileC hR_11 ((hI_11 20 (by decide)).trans ((f25 20 (by decide)).trans (kz20))) ((hI_11 25 (by decide)).trans ((f25 25 (by decide)).trans (kz25))) ((hI_11 26 (by decide)).trans ((f25 26 (by decide)).trans (kz26))) ((hI_11 9 (by decide)).trans ((f25 9 (by decide)).trans (kz9))) ((hI_11 10 (by decide)).trans ((f25 10 (by decide)).trans (kz10))) ((hI_11 11 (by decide)).trans ((f25 11 (by decide)).trans (kz11))) hF9 hZ26 hK27 (hS3) (hC3) (hx) (le_fn hli ((hI_11 16 (by decide)).trans (e24)) (fun k hk => (hI_11 k (by simp)).trans (f25 k hk))) (le_rfn hlr hall (fun k hk => hV_11 k (by simpa using hk))) (by omega)) (fun v28 M29 h30 => ?_)
        obtain ⟨u36, I31, R32, rfl, hR33, hI34, hV35, z37, w38⟩ := h30
        show ml _ _ _ (35, [(0, .ref m0), (1, .ref (q 14)), (2, .int (nI n)), (3, .int i11_3)], [.int u36], M29) _
        exact ml_ret rfl (r_z (z37)) (⟨_, _, _, rfl, hR33, ((((eqI.rf.tr hI17 (by decide)).put f25 (by decide)).tr hI_11 (by decide)).tr hI34 (by decide)), (((eqR.rf.tr hV18 (by decide)).tr hV_11 (by decide)).tr hV35 (by decide)), z37, ⟨w38.1, w38.2, _, (hI34 9 (by decide)).trans ((hI_11 9 (by decide)).trans ((f25 9 (by decide)).trans (kz9)))⟩⟩)
      · have c_13 : ¬ ((nI n) ≤ i11_3) := of_decide_eq_false c_13
        have hkl : i11_3.toInt < n := by have q := i_nle c_13; rw [nI_val (by omega)] at q; exact q
        obtain ⟨b9, hb9, hnb⟩ := hfr i11_3.toNatClampNeg (by show i11_3.toInt.toNat < n; omega)
        refine ml_st (S' := (17, [(0, .ref m0), (1, .ref (q 14)), (2, .int (nI n)), (3, .int i11_3)], [.ref m0], M_11)) rfl rfl rfl ?_
        refine rg_ref (S' := (20, [(0, .ref m0), (1, .ref (q 14)), (2, .int (nI n)), (3, .int i11_3)], [.ref (q 12)], M_11)) rfl hR_11 rfl rfl ?_
        refine ml_blk 3 (S' := (23, [(0, .ref m0), (1, .ref (q 14)), (2, .int (nI n)), (3, .int i11_3)], [.int i11_3, .ref (q 14), .int i11_3, .ref (q 12)], M_11)) rfl ?_
        refine ra_ld (k := 14) (S' := (24, [(0, .ref m0), (1, .ref (q 14)), (2, .int (nI n)), (3, .int i11_3)], [.int b9, .int i11_3, .ref (q 12)], M_11)) rfl hR_11 rfl (vin_lt hk0 (by omega)) ((congrFun ((hV_11 14 (by decide)).trans (hV18 14 (by decide))) _).trans hb9) rfl ?_
        refine ra_st (k := 12) rfl hR_11 rfl (vin_lt hk0 (by omega)) (fun M39 R40 hR41 e42 g43 f44 => ?_)
        show ml _ _ _ (25, [(0, .ref m0), (1, .ref (q 14)), (2, .int (nI n)), (3, .int i11_3)], [], M39) _
        refine ml_st (S' := (28, [(3, .int (i11_3 + 1)), (0, .ref m0), (1, .ref (q 14)), (2, .int (nI n))], [], M39)) rfl rfl rfl ?_
        refine ml_st (S' := (11, [(0, .ref m0), (1, .ref (q 14)), (2, .int (nI n)), (3, .int (i11_3 + 1))], [], M39)) rfl rfl rfl ?_
        exact ih_11 (i11_3 + 1) _ _ _ (loop_inc (Int32.not_le.mp c_13) hn_11) hR41 (eqI.rf.tr hI_11 (by decide)) ((eqR.rf.tr hV_11 (by decide)).put f44 (by decide)) (⟨by rw [inc_lt (Int32.not_le.mp c_13)]; omega, by rw [inc_lt (Int32.not_le.mp c_13)]; omega, by rw [show (i11_3 + 1).toInt.toNat = i11_3.toInt.toNat + 1 by rw [inc_lt (Int32.not_le.mp c_13)]; omega]; exact fill hfl e42 hnb g43⟩)
  exact L_11 _ 0 _ _ _ (Nat.le_refl _) hR23 eqI.rf eqR.rf (⟨by decide, by have : (0 : Int32).toInt = 0 := rfl; omega, fun i hi => absurd hi (Nat.not_lt_zero i)⟩)
end
section
/-! the reference: reading (my own text) -/
section MIB3
theorem cle.rf {c : mi_C} : cle c c := by
  cases c with
  | inl a => exact ⟨rfl, rfl, fun _ _ h => h⟩
  | inr a => exact ⟨rfl, fun _ _ h => h⟩
theorem hle.rf {M : mi_H} : hle M M := fun _ c h => ⟨c, h, cle.rf⟩
theorem mt_kp {g : xe_G} {d y : Nat} {a : List Value} {M : mi_H} {Q : Option Value → mi_H → Prop} (hy : y ∈ mS) (h : mt (mT g) d y a M Q) : mt (mT g) d y a M (fun v M' => Q v M' ∧ hkp M M') := by
  obtain ⟨r, hr, h1, h2, -⟩ := mt.more (mz_all (g := g)) hy h h hle.rf
  exact ⟨r, hr, h1, h2⟩
def fFr (R : rR) (k : Nat) : Nat → Int32 := fun i => vp_nar .byte ((R k i).getD 0)
theorem fFr_of {R : rR} {k i : Nat} {b : Int32} (h : R k i = some b) : vp_nar .byte b = fFr R k i := by
  unfold fFr
  rw [h]
  rfl
theorem nar_nar (x : Int32) : vp_nar .byte (vp_nar .byte x) = vp_nar .byte x := by
  show (x.toInt8.toInt32).toInt8.toInt32 = x.toInt8.toInt32
  simp
def KEP (g : xe_G) (m0 : Nat) (q : Nat → Nat) (Ic : rI) (Rc : rR) (n : Nat) (f : Nat → Int32) (kn : Int32) (R : rR) : Prop := kn = nI n ∧ n ≤ 65540 ∧ (∀ i, i < n → R 14 i = some (f i) ∧ vp_nar .byte (f i) = f i) ∧ CANX g m0 q Ic Rc f n 1
theorem fill14 {R R' : rR} {f : Nat → Int32} {k b : Int32} (h : ∀ i, i < k.toInt.toNat → R 14 i = some (f i)) (e : R' 14 k.toNatClampNeg = some (vp_nar .byte b)) (hb : vp_nar .byte b = f k.toNatClampNeg) (h2 : ∀ b, b ≠ k.toNatClampNeg → R' 14 b = R 14 b) : ∀ i, i < k.toInt.toNat + 1 → R' 14 i = some (f i) := by
  intro i hi
  by_cases e2 : i = k.toNatClampNeg
  · rw [e2, e, hb]
  · rw [h2 i e2]
    have : k.toNatClampNeg = k.toInt.toNat := rfl
    exact h i (by omega)
end MIB3
end
section
/-! the reference: read (laid by wip/p2/c81.py) -/
theorem rm_parseK13 {g : xe_G}  {m0 : Nat} {q : Nat → Nat} {z : Nat × Nat} {I : rI} {R : rR} {M : mi_H} {rl wa : Int32} {n : Nat} {f : Nat → Int32} {kr : rR} {Ic : rI} {Rc : rR} {x0 : Int32}  (hR : RS g m0 q z I R M) (hk49 : I 49 = some 0) (hk47 : I 47 = some rl) (hk48 : I 48 = some wa) (hK : KW I R) (hn : n ≤ 65540) (hcan : CAN g m0 q kr Ic Rc) (h63 : R 63 = kr 63) (h64 : R 64 = kr 64) (hx : CANX g m0 q Ic Rc f n x0) (hfr : ∀ i, i < n → ∃ b, R 13 i = some b ∧ vp_nar .byte b = f i) {d : Nat} (hd : 10 ≤ d) : mt (mT g) d 230 [.ref m0, .ref (q 13), .int (nI n)] M (fun v M' => ∃ (x : Int32) (I' : rI) (R' : rR), v = some (.int x) ∧ RS g m0 q z I' R' M' ∧ eqI [3, 8, 9, 10, 11, 16, 20, 25, 26, 47, 48, 50, 51, 52, 53, 54, 55, 56, 57, 58, 59, 60, 61, 65, 66, 67, 68, 69, 70, 71, 72] I I' ∧ eqR [1, 2, 4, 5, 6, 7, 12, 21, 22, 27, 28, 29, 30, 31, 32, 33, 34, 35, 36, 37, 38, 39, 40, 41, 42, 43, 44, 45, 46] R R' ∧ (x = 0 ∨ x = 1) ∧ (x = x0 ∧ (x = 0 ∨ GD n f I' R') ∧ (∃ a, I' 9 = some a) ∧ (∃ a, I' 47 = some a) ∧ ∃ a, I' 48 = some a)) := by
  obtain ⟨r, hr, ⟨x, I1, R1, a1, a2, a3, a4, a5, a6, a7, a8⟩, hk⟩ := mt_kp (y := 230) (by decide) (rm_parse13 hR hk49 hK hn hcan h63 h64 hx hfr hd)
  exact ⟨r, hr, x, I1, R1, a1, a2, a3, a4, a5, a6, a7, a8, kp_of hR a2 hk rfl hk47, kp_of hR a2 hk rfl hk48⟩
theorem rm_parseK14 {g : xe_G}  {m0 : Nat} {q : Nat → Nat} {z : Nat × Nat} {I : rI} {R : rR} {M : mi_H} {rl wa : Int32} {n : Nat} {f : Nat → Int32} {kr : rR} {Ic : rI} {Rc : rR} {x0 : Int32}  (hR : RS g m0 q z I R M) (hk49 : I 49 = some 0) (hk47 : I 47 = some rl) (hk48 : I 48 = some wa) (hK : KW I R) (hn : n ≤ 65540) (hcan : CAN g m0 q kr Ic Rc) (h63 : R 63 = kr 63) (h64 : R 64 = kr 64) (hx : CANX g m0 q Ic Rc f n x0) (hfr : ∀ i, i < n → ∃ b, R 14 i = some b ∧ vp_nar .byte b = f i) {d : Nat} (hd : 10 ≤ d) : mt (mT g) d 230 [.ref m0, .ref (q 14), .int (nI n)] M (fun v M' => ∃ (x : Int32) (I' : rI) (R' : rR), v = some (.int x) ∧ RS g m0 q z I' R' M' ∧ eqI [3, 8, 9, 10, 11, 16, 20, 25, 26, 47, 48, 50, 51, 52, 53, 54, 55, 56, 57, 58, 59, 60, 61, 65, 66, 67, 68, 69, 70, 71, 72] I I' ∧ eqR [1, 2, 4, 5, 6, 7, 12, 21, 22, 27, 28, 29, 30, 31, 32, 33, 34, 35, 36, 37, 38, 39, 40, 41, 42, 43, 44, 45, 46] R R' ∧ (x = 0 ∨ x = 1) ∧ (x = x0 ∧ (x = 0 ∨ GD n f I' R') ∧ (∃ a, I' 9 = some a) ∧ (∃ a, I' 47 = some a) ∧ ∃ a, I' 48 = some a)) := by
  obtain ⟨r, hr, ⟨x, I1, R1, a1, a2, a3, a4, a5, a6, a7, a8⟩, hk⟩ := mt_kp (y := 230) (by decide) (rm_parse14 hR hk49 hK hn hcan h63 h64 hx hfr hd)
  exact ⟨r, hr, x, I1, R1, a1, a2, a3, a4, a5, a6, a7, a8, kp_of hR a2 hk rfl hk47, kp_of hR a2 hk rfl hk48⟩
set_option maxHeartbeats 2000000 in
theorem rm_read {g : xe_G}  {m0 : Nat} {q : Nat → Nat} {z : Nat × Nat} {I : rI} {R : rR} {M : mi_H} {kn rl wa : Int32} {nf n0 : Nat} {f0 : Nat → Int32} {kr : rR} {Ic : rI} {Rc : rR}  (hR : RS g m0 q z I R M) (hk17 : I 17 = some (nI nf)) (hk18 : I 18 = some kn) (hk49 : I 49 = some 0) (hk47 : I 47 = some rl) (hk48 : I 48 = some wa) (hK : KW I R) (hnf : nf ≤ 65540) (hcan : CAN g m0 q kr Ic Rc) (h63 : R 63 = kr 63) (h64 : R 64 = kr 64) (hfile : KB 13 nf R) (hkp0 : (kn < 0 ∨ KEP g m0 q Ic Rc n0 f0 kn R)) {d : Nat} (hd : 11 ≤ d) : mt (mT g) d 236 [.ref m0] M (fun v M' => ∃ (x : Int32) (I' : rI) (R' : rR), v = some (.int x) ∧ RS g m0 q z I' R' M' ∧ eqI [0, 3, 8, 9, 10, 11, 16, 17, 18, 20, 25, 26, 47, 48, 50, 51, 52, 53, 54, 55, 56, 57, 58, 59, 60, 61, 65, 66, 67, 68, 69, 70, 71, 72, 73, 74] I I' ∧ eqR [1, 2, 4, 5, 6, 7, 12, 14, 21, 22, 27, 28, 29, 30, 31, 32, 33, 34, 35, 36, 37, 38, 39, 40, 41, 42, 43, 44, 45, 46] R R' ∧ (I' 17 = some 0 ∧ I' 74 = some (-1) ∧ (∃ a, I' 73 = some a) ∧ (∃ a, I' 9 = some a) ∧ (∃ a, I' 47 = some a) ∧ (∃ a, I' 48 = some a) ∧ ∃ k9 : Int32, I' 18 = some k9 ∧ (k9 < 0 ∨ ∃ (n : Nat) (f : Nat → Int32), KEP g m0 q Ic Rc n f k9 R' ∧ GD n f I' R'))) := by
  obtain ⟨d, rfl⟩ : ∃ e, d = e + 1 := ⟨d - 1, by omega⟩
  refine mt_in (b := mb_236 g) rfl rfl ?_
  show ml (mT g) d (mb_236 g).2 (0, [(0, .ref m0)], [], M) _
  obtain ⟨xF, hxF01, hxF⟩ := canx_ex (f := fFr R 13) (n := nf) hR hcan (hK.mono (fun k hk => by cases hk) (fun k hk => by rcases List.mem_cons.mp hk with rfl | hk; exact h63.symm; (rcases List.mem_cons.mp hk with rfl | hk; exact h64.symm; cases hk))) hnf
  refine ml_blk 2 (S' := (2, [(0, .ref m0)], [.int 0, .ref m0], M)) rfl ?_
  refine rp_int rfl hR rfl (fun M11 I12 hR13 e14 f15 => ?_)
  show ml _ _ _ (5, [(0, .ref m0)], [], M11) _
  refine ml_blk 2 (S' := (7, [(0, .ref m0)], [.ref m0, .ref m0], M11)) rfl ?_
  refine rg_ref (S' := (10, [(0, .ref m0)], [.ref (q 13), .ref m0], M11)) rfl hR13 rfl rfl ?_
  refine ml_st (S' := (11, [(0, .ref m0)], [.ref m0, .ref (q 13), .ref m0], M11)) rfl rfl rfl ?_
  refine rg_int (S' := (14, [(0, .ref m0)], [.int (nI nf), .ref (q 13), .ref m0], M11)) rfl hR13 rfl ((f15 17 (by decide)).trans (hk17)) rfl ?_
  have hK16 : KW I12 R := (hK.mono (pIx f15 (by decide)) (fun _ _ => rfl))
  refine ml_call (a := [.ref m0, .ref (q 13), .int (nI nf)]) (rest := []) rfl (hR13.okc rfl rfl rfl) rfl rfl (rm_parseK13 hR13 ((f15 49 (by decide)).trans (hk49)) ((f15 47 (by decide)).trans (hk47)) ((f15 48 (by decide)).trans (hk48)) hK16 (hnf) (hcan) ((rfl).trans h63) ((rfl).trans h64) (hxF) (fun i hi => by obtain ⟨b, hb⟩ := hfile i hi; exact ⟨b, (congrFun (rfl) _).trans hb, fFr_of hb⟩) (by omega)) (fun v17 M18 h19 => ?_)
  obtain ⟨u25, I20, R21, rfl, hR22, hI23, hV24, z26, w27⟩ := h19
  show ml _ _ _ (17, [(0, .ref m0)], [.int u25], M18) _
  obtain ⟨hux, hgd, ⟨a9, kz9⟩, ⟨r47, kz47⟩, ⟨r48, kz48⟩⟩ := w27
  refine ml_st (S' := (18, [(1, .int u25), (0, .ref m0)], [], M18)) rfl rfl rfl ?_
  refine ml_blk 2 (S' := (20, [(1, .int u25), (0, .ref m0)], [.int u25, .ref m0], M18)) rfl ?_
  have J_31 : ∀ (s31_0 : Int32), ml (mT g) d (mb_236 g).2 (31, [(0, .ref m0), (1, .int u25)], [.int s31_0, .ref m0], M18) (fun v M' => ∃ (x : Int32) (I' : rI) (R' : rR), v = some (.int x) ∧ RS g m0 q z I' R' M' ∧ eqI [0, 3, 8, 9, 10, 11, 16, 17, 18, 20, 25, 26, 47, 48, 50, 51, 52, 53, 54, 55, 56, 57, 58, 59, 60, 61, 65, 66, 67, 68, 69, 70, 71, 72, 73, 74] I I' ∧ eqR [1, 2, 4, 5, 6, 7, 12, 14, 21, 22, 27, 28, 29, 30, 31, 32, 33, 34, 35, 36, 37, 38, 39, 40, 41, 42, 43, 44, 45, 46] R R' ∧ (I' 17 = some 0 ∧ I' 74 = some (-1) ∧ (∃ a, I' 73 = some a) ∧ (∃ a, I' 9 = some a) ∧ (∃ a, I' 47 = some a) ∧ (∃ a, I' 48 = some a) ∧ ∃ k9 : Int32, I' 18 = some k9 ∧ (k9 < 0 ∨ ∃ (n : Nat) (f : Nat → Int32), KEP g m0 q Ic Rc n f k9 R' ∧ GD n f I' R'))) := by
    intro s31_0
    refine rp_int rfl hR22 rfl (fun M28 I29 hR30 e31 f32 => ?_)
    show ml _ _ _ (34, [(0, .ref m0), (1, .int u25)], [], M28) _
    refine ml_st (S' := (35, [(0, .ref m0), (1, .int u25)], [.int u25], M28)) rfl rfl rfl ?_
    have J_46 : ∀ (s46_0 : Int32), ml (mT g) d (mb_236 g).2 (46, [(0, .ref m0), (1, .int u25)], [.int s46_0], M28) (fun v M' => ∃ (x : Int32) (I' : rI) (R' : rR), v = some (.int x) ∧ RS g m0 q z I' R' M' ∧ eqI [0, 3, 8, 9, 10, 11, 16, 17, 18, 20, 25, 26, 47, 48, 50, 51, 52, 53, 54, 55, 56, 57, 58, 59, 60, 61, 65, 66, 67, 68, 69, 70, 71, 72, 73, 74] I I' ∧ eqR [1, 2, 4, 5, 6, 7, 12, 14, 21, 22, 27, 28, 29, 30, 31, 32, 33, 34, 35, 36, 37, 38, 39, 40, 41, 42, 43, 44, 45, 46] R R' ∧ (I' 17 = some 0 ∧ I' 74 = some (-1) ∧ (∃ a, I' 73 = some a) ∧ (∃ a, I' 9 = some a) ∧ (∃ a, I' 47 = some a) ∧ (∃ a, I' 48 = some a) ∧ ∃ k9 : Int32, I' 18 = some k9 ∧ (k9 < 0 ∨ ∃ (n : Nat) (f : Nat → Int32), KEP g m0 q Ic Rc n f k9 R' ∧ GD n f I' R'))) := by
      intro s46_0
      refine ml_st (S' := (47, [(2, .int s46_0), (0, .ref m0), (1, .int u25)], [], M28)) rfl rfl rfl ?_
      refine ml_st (S' := (48, [(2, .int s46_0), (0, .ref m0), (1, .int u25)], [.int u25], M28)) rfl rfl rfl ?_
      refine ml_if (S1 := (90, [(2, .int s46_0), (0, .ref m0), (1, .int u25)], [], M28)) (S2 := (51, [(2, .int s46_0), (0, .ref m0), (1, .int u25)], [], M28)) rfl rfl rfl (fun c_48 => ?_) (fun c_48 => ?_)
      · have c_48 : u25 = 0 := of_decide_eq_true c_48
        refine ml_st (S' := (91, [(2, .int s46_0), (0, .ref m0), (1, .int u25)], [.ref m0], M28)) rfl rfl rfl ?_
        refine rg_int (S' := (94, [(2, .int s46_0), (0, .ref m0), (1, .int u25)], [.int kn], M28)) rfl hR30 rfl ((f32 18 (by decide)).trans ((hI23 18 (by decide)).trans ((f15 18 (by decide)).trans (hk18)))) rfl ?_
        refine ml_if (S1 := (110, [(0, .ref m0), (2, .int s46_0)], [], M28)) (S2 := (97, [(2, .int s46_0), (0, .ref m0), (1, .int u25)], [], M28)) rfl rfl rfl (fun c_94 => ?_) (fun c_94 => ?_)
        · have c_94 : kn < 0 := of_decide_eq_true c_94
          refine ml_blk 2 (S' := (112, [(0, .ref m0), (2, .int s46_0)], [.int (-1), .ref m0], M28)) rfl ?_
          refine rp_int rfl hR30 rfl (fun M33 I34 hR35 e36 f37 => ?_)
          show ml _ _ _ (115, [(0, .ref m0), (2, .int s46_0)], [], M33) _
          refine ml_blk 2 (S' := (117, [(0, .ref m0), (2, .int s46_0)], [.int 0, .ref m0], M33)) rfl ?_
          refine rp_int rfl hR35 rfl (fun M38 I39 hR40 e41 f42 => ?_)
          show ml _ _ _ (120, [(0, .ref m0), (2, .int s46_0)], [], M38) _
          refine ml_st (S' := (121, [(0, .ref m0), (2, .int s46_0)], [.int s46_0], M38)) rfl rfl rfl ?_
          exact ml_ret rfl (rfl) (⟨_, _, _, rfl, hR40, (((((eqI.rf.put f15 (by decide)).tr hI23 (by decide)).put f32 (by decide)).put f37 (by decide)).put f42 (by decide)), (eqR.rf.tr hV24 (by decide)), ⟨e41, (f42 74 (by decide)).trans (e36), ⟨_, (f42 73 (by decide)).trans ((f37 73 (by decide)).trans (e31))⟩, ⟨_, (f42 9 (by decide)).trans ((f37 9 (by decide)).trans ((f32 9 (by decide)).trans (kz9)))⟩, ⟨_, (f42 47 (by decide)).trans ((f37 47 (by decide)).trans ((f32 47 (by decide)).trans (kz47)))⟩, ⟨_, (f42 48 (by decide)).trans ((f37 48 (by decide)).trans ((f32 48 (by decide)).trans (kz48)))⟩, kn, (f42 18 (by decide)).trans ((f37 18 (by decide)).trans ((f32 18 (by decide)).trans ((hI23 18 (by decide)).trans ((f15 18 (by decide)).trans (hk18))))), Or.inl c_94⟩⟩)
        · have c_94 : ¬ (kn < 0) := of_decide_eq_false c_94
          obtain ⟨hke, hn0, hk14, hcx⟩ := hkp0.resolve_left c_94
          refine ml_blk 2 (S' := (99, [(2, .int s46_0), (0, .ref m0), (1, .int u25)], [.ref m0, .ref m0], M28)) rfl ?_
          refine rg_ref (S' := (102, [(2, .int s46_0), (0, .ref m0), (1, .int u25)], [.ref (q 14), .ref m0], M28)) rfl hR30 rfl rfl ?_
          refine ml_st (S' := (103, [(2, .int s46_0), (0, .ref m0), (1, .int u25)], [.ref m0, .ref (q 14), .ref m0], M28)) rfl rfl rfl ?_
          refine rg_int (S' := (106, [(2, .int s46_0), (0, .ref m0), (1, .int u25)], [.int (nI n0), .ref (q 14), .ref m0], M28)) rfl hR30 rfl ((((f32 18 (by decide)).trans ((hI23 18 (by decide)).trans ((f15 18 (by decide)).trans (hk18)))).trans (congrArg some hke))) rfl ?_
          have hK43 : KW I29 R21 := ((hK16.mono (cIx hI23 (by decide)) (cRx hV24 (by decide))).mono (pIx f32 (by decide)) (fun _ _ => rfl))
          refine ml_call (a := [.ref m0, .ref (q 14), .int (nI n0)]) (rest := []) rfl (hR30.okc rfl rfl rfl) rfl rfl (rm_parseK14 hR30 ((f32 49 (by decide)).trans ((hI23 49 (by decide)).trans ((f15 49 (by decide)).trans (hk49)))) ((f32 47 (by decide)).trans (kz47)) ((f32 48 (by decide)).trans (kz48)) hK43 (hn0) (hcan) ((hV24 63 (by decide)).trans h63) ((hV24 64 (by decide)).trans h64) (hcx) (fun i hi => ⟨f0 i, (congrFun (hV24 14 (by decide)) _).trans (hk14 i hi).1, (hk14 i hi).2⟩) (by omega)) (fun v44 M45 h46 => ?_)
          obtain ⟨u52, I47, R48, rfl, hR49, hI50, hV51, z53, w54⟩ := h46
          show ml _ _ _ (109, [(2, .int s46_0), (0, .ref m0), (1, .int u25)], [.int u52], M45) _
          obtain ⟨hux2, hgd2, ⟨b9, ky9⟩, ⟨s47, ky47⟩, ⟨s48, ky48⟩⟩ := w54
          have hgd3 : GD n0 f0 I47 R48 := hgd2.resolve_left (by rw [hux2]; decide)
          refine ml_st (S' := (110, [(0, .ref m0), (2, .int s46_0)], [], M45)) rfl rfl rfl ?_
          refine ml_blk 2 (S' := (112, [(0, .ref m0), (2, .int s46_0)], [.int (-1), .ref m0], M45)) rfl ?_
          refine rp_int rfl hR49 rfl (fun M55 I56 hR57 e58 f59 => ?_)
          show ml _ _ _ (115, [(0, .ref m0), (2, .int s46_0)], [], M55) _
          refine ml_blk 2 (S' := (117, [(0, .ref m0), (2, .int s46_0)], [.int 0, .ref m0], M55)) rfl ?_
          refine rp_int rfl hR57 rfl (fun M60 I61 hR62 e63 f64 => ?_)
          show ml _ _ _ (120, [(0, .ref m0), (2, .int s46_0)], [], M60) _
          refine ml_st (S' := (121, [(0, .ref m0), (2, .int s46_0)], [.int s46_0], M60)) rfl rfl rfl ?_
          have hG65 : GD n0 f0 I61 R48 := ((hgd3.mono (pIx f59 (by decide)) (fun _ _ => rfl)).mono (pIx f64 (by decide)) (fun _ _ => rfl))
          exact ml_ret rfl (rfl) (⟨_, _, _, rfl, hR62, ((((((eqI.rf.put f15 (by decide)).tr hI23 (by decide)).put f32 (by decide)).tr hI50 (by decide)).put f59 (by decide)).put f64 (by decide)), ((eqR.rf.tr hV24 (by decide)).tr hV51 (by decide)), ⟨e63, (f64 74 (by decide)).trans (e58), ⟨_, (f64 73 (by decide)).trans ((f59 73 (by decide)).trans ((hI50 73 (by decide)).trans (e31)))⟩, ⟨_, (f64 9 (by decide)).trans ((f59 9 (by decide)).trans (ky9))⟩, ⟨_, (f64 47 (by decide)).trans ((f59 47 (by decide)).trans (ky47))⟩, ⟨_, (f64 48 (by decide)).trans ((f59 48 (by decide)).trans (ky48))⟩, nI n0, (f64 18 (by decide)).trans ((f59 18 (by decide)).trans ((hI50 18 (by decide)).trans ((((f32 18 (by decide)).trans ((hI23 18 (by decide)).trans ((f15 18 (by decide)).trans (hk18)))).trans (congrArg some hke))))), Or.inr ⟨n0, f0, ⟨rfl, hn0, fun i hi => ⟨(congrFun ((hV51 14 (by decide)).trans (hV24 14 (by decide))) _).trans (hk14 i hi).1, (hk14 i hi).2⟩, hcx⟩, hG65⟩⟩⟩)
      · have c_48 : ¬ (u25 = 0) := of_decide_eq_false c_48
        have hgd1 : GD nf (fFr R 13) I20 R21 := hgd.resolve_left c_48
        have hxF1 : CANX g m0 q Ic Rc (fFr R 13) nf 1 := by have e : xF = 1 := hxF01.resolve_left (fun e => c_48 (hux.trans e)); rw [e] at hxF; exact hxF
        refine ml_st (S' := (52, [(2, .int s46_0), (0, .ref m0), (1, .int u25)], [.int 0], M28)) rfl rfl rfl ?_
        refine ml_st (S' := (53, [(0, .ref m0), (2, .int s46_0), (3, .int 0)], [], M28)) rfl rfl rfl ?_
        have L_53 : ∀ (n_53 : Nat) (i53_3 : Int32) (M_53 : mi_H) (I_53 : rI) (R_53 : rR), (2147483648 - i53_3.toInt).toNat ≤ n_53 → RS g m0 q z I_53 R_53 M_53 → eqI [] I29 I_53 → eqR [14] R21 R_53 → (0 ≤ i53_3.toInt ∧ i53_3.toInt ≤ nf ∧ ∀ i, i < i53_3.toInt.toNat → R_53 14 i = some (fFr R 13 i)) → ml (mT g) d (mb_236 g).2 (53, [(0, .ref m0), (2, .int s46_0), (3, .int i53_3)], [], M_53) (fun v M' => ∃ (x : Int32) (I' : rI) (R' : rR), v = some (.int x) ∧ RS g m0 q z I' R' M' ∧ eqI [0, 3, 8, 9, 10, 11, 16, 17, 18, 20, 25, 26, 47, 48, 50, 51, 52, 53, 54, 55, 56, 57, 58, 59, 60, 61, 65, 66, 67, 68, 69, 70, 71, 72, 73, 74] I I' ∧ eqR [1, 2, 4, 5, 6, 7, 12, 14, 21, 22, 27, 28, 29, 30, 31, 32, 33, 34, 35, 36, 37, 38, 39, 40, 41, 42, 43, 44, 45, 46] R R' ∧ (I' 17 = some 0 ∧ I' 74 = some (-1) ∧ (∃ a, I' 73 = some a) ∧ (∃ a, I' 9 = some a) ∧ (∃ a, I' 47 = some a) ∧ (∃ a, I' 48 = some a) ∧ ∃ k9 : Int32, I' 18 = some k9 ∧ (k9 < 0 ∨ ∃ (n : Nat) (f : Nat → Int32), KEP g m0 q Ic Rc n f k9 R' ∧ GD n f I' R'))) := by
          intro n_53
          induction n_53 with
          | zero => intro i53_3 M_53 I_53 R_53 hn; exact (loop_zero hn).elim
          | succ n_53 ih_53 =>
            intro i53_3 M_53 I_53 R_53 hn_53 hR_53 hI_53 hV_53 hi_53
            obtain ⟨hk0, hk1, hfl⟩ := hi_53
            refine ml_blk 2 (S' := (55, [(0, .ref m0), (2, .int s46_0), (3, .int i53_3)], [.ref m0, .int i53_3], M_53)) rfl ?_
            refine rg_int (S' := (58, [(0, .ref m0), (2, .int s46_0), (3, .int i53_3)], [.int (nI nf), .int i53_3], M_53)) rfl hR_53 rfl ((hI_53 17 (by decide)).trans ((f32 17 (by decide)).trans ((hI23 17 (by decide)).trans ((f15 17 (by decide)).trans (hk17))))) rfl ?_
            refine ml_if2 (S1 := (79, [(0, .ref m0), (2, .int s46_0), (3, .int i53_3)], [], M_53)) (S2 := (61, [(0, .ref m0), (2, .int s46_0), (3, .int i53_3)], [], M_53)) rfl rfl rfl (fun c_58 => ?_) (fun c_58 => ?_)
            · have c_58 : (nI nf) ≤ i53_3 := of_decide_eq_true c_58
              have hall : ∀ i, i < nf → R_53 14 i = some (fFr R 13 i) := fun i hi => hfl i (by have q := i_le c_58; rw [nI_val (by omega)] at q; omega)
              refine ml_blk 2 (S' := (81, [(0, .ref m0), (2, .int s46_0), (3, .int i53_3)], [.ref m0, .ref m0], M_53)) rfl ?_
              refine rg_int (S' := (84, [(0, .ref m0), (2, .int s46_0), (3, .int i53_3)], [.int (nI nf), .ref m0], M_53)) rfl hR_53 rfl ((hI_53 17 (by decide)).trans ((f32 17 (by decide)).trans ((hI23 17 (by decide)).trans ((f15 17 (by decide)).trans (hk17))))) rfl ?_
              refine rp_int rfl hR_53 rfl (fun M66 I67 hR68 e69 f70 => ?_)
              show ml _ _ _ (87, [(0, .ref m0), (2, .int s46_0), (3, .int i53_3)], [], M66) _
              refine ml_st (S' := (110, [(0, .ref m0), (2, .int s46_0)], [], M66)) rfl rfl rfl ?_
              refine ml_blk 2 (S' := (112, [(0, .ref m0), (2, .int s46_0)], [.int (-1), .ref m0], M66)) rfl ?_
              refine rp_int rfl hR68 rfl (fun M71 I72 hR73 e74 f75 => ?_)
              show ml _ _ _ (115, [(0, .ref m0), (2, .int s46_0)], [], M71) _
              refine ml_blk 2 (S' := (117, [(0, .ref m0), (2, .int s46_0)], [.int 0, .ref m0], M71)) rfl ?_
              refine rp_int rfl hR73 rfl (fun M76 I77 hR78 e79 f80 => ?_)
              show ml _ _ _ (120, [(0, .ref m0), (2, .int s46_0)], [], M76) _
              refine ml_st (S' := (121, [(0, .ref m0), (2, .int s46_0)], [.int s46_0], M76)) rfl rfl rfl ?_
              have hG81 : GD nf (fFr R 13) I77 R_53 := (((((hgd1.mono (pIx f32 (by decide)) (fun _ _ => rfl)).mono (cIx hI_53 (by decide)) (cRx hV_53 (by decide))).mono (pIx f70 (by decide)) (fun _ _ => rfl)).mono (pIx f75 (by decide)) (fun _ _ => rfl)).mono (pIx f80 (by decide)) (fun _ _ => rfl))
              exact ml_ret rfl (rfl) (⟨_, _, _, rfl, hR78, (((((((eqI.rf.put f15 (by decide)).tr hI23 (by decide)).put f32 (by decide)).tr hI_53 (by decide)).put f70 (by decide)).put f75 (by decide)).put f80 (by decide)), ((eqR.rf.tr hV24 (by decide)).tr hV_53 (by decide)), ⟨e79, (f80 74 (by decide)).trans (e74), ⟨_, (f80 73 (by decide)).trans ((f75 73 (by decide)).trans ((f70 73 (by decide)).trans ((hI_53 73 (by decide)).trans (e31))))⟩, ⟨_, (f80 9 (by decide)).trans ((f75 9 (by decide)).trans ((f70 9 (by decide)).trans ((hI_53 9 (by decide)).trans ((f32 9 (by decide)).trans (kz9)))))⟩, ⟨_, (f80 47 (by decide)).trans ((f75 47 (by decide)).trans ((f70 47 (by decide)).trans ((hI_53 47 (by decide)).trans ((f32 47 (by decide)).trans (kz47)))))⟩, ⟨_, (f80 48 (by decide)).trans ((f75 48 (by decide)).trans ((f70 48 (by decide)).trans ((hI_53 48 (by decide)).trans ((f32 48 (by decide)).trans (kz48)))))⟩, nI nf, (f80 18 (by decide)).trans ((f75 18 (by decide)).trans (e69)), Or.inr ⟨nf, fFr R 13, ⟨rfl, hnf, fun i hi => ⟨(congrFun (rfl) _).trans (hall i hi), nar_nar _⟩, hxF1⟩, hG81⟩⟩⟩)
            · have c_58 : ¬ ((nI nf) ≤ i53_3) := of_decide_eq_false c_58
              have hkl : i53_3.toInt < nf := by have q := i_nle c_58; rw [nI_val (by omega)] at q; exact q
              obtain ⟨b9, hb9⟩ := hfile i53_3.toNatClampNeg (by show i53_3.toInt.toNat < nf; omega)
              refine ml_st (S' := (62, [(0, .ref m0), (2, .int s46_0), (3, .int i53_3)], [.ref m0], M_53)) rfl rfl rfl ?_
              refine rg_ref (S' := (65, [(0, .ref m0), (2, .int s46_0), (3, .int i53_3)], [.ref (q 14)], M_53)) rfl hR_53 rfl rfl ?_
              refine ml_blk 2 (S' := (67, [(0, .ref m0), (2, .int s46_0), (3, .int i53_3)], [.ref m0, .int i53_3, .ref (q 14)], M_53)) rfl ?_
              refine rg_ref (S' := (70, [(0, .ref m0), (2, .int s46_0), (3, .int i53_3)], [.ref (q 13), .int i53_3, .ref (q 14)], M_53)) rfl hR_53 rfl rfl ?_
              refine ml_st (S' := (71, [(0, .ref m0), (2, .int s46_0), (3, .int i53_3)], [.int i53_3, .ref (q 13), .int i53_3, .ref (q 14)], M_53)) rfl rfl rfl ?_
              refine ra_ld (k := 13) (S' := (72, [(0, .ref m0), (2, .int s46_0), (3, .int i53_3)], [.int b9, .int i53_3, .ref (q 14)], M_53)) rfl hR_53 rfl (vin_lt hk0 (by omega)) ((congrFun ((hV_53 13 (by decide)).trans (hV24 13 (by decide))) _).trans hb9) rfl ?_
              refine ra_st (k := 14) rfl hR_53 rfl (vin_lt hk0 (by omega)) (fun M82 R83 hR84 e85 g86 f87 => ?_)
              show ml _ _ _ (73, [(0, .ref m0), (2, .int s46_0), (3, .int i53_3)], [], M82) _
              refine ml_st (S' := (76, [(3, .int (i53_3 + 1)), (0, .ref m0), (2, .int s46_0)], [], M82)) rfl rfl rfl ?_
              refine ml_st (S' := (53, [(0, .ref m0), (2, .int s46_0), (3, .int (i53_3 + 1))], [], M82)) rfl rfl rfl ?_
              exact ih_53 (i53_3 + 1) _ _ _ (loop_inc (Int32.not_le.mp c_58) hn_53) hR84 (eqI.rf.tr hI_53 (by decide)) ((eqR.rf.tr hV_53 (by decide)).put f87 (by decide)) (⟨by rw [inc_lt (Int32.not_le.mp c_58)]; omega, by rw [inc_lt (Int32.not_le.mp c_58)]; omega, by rw [show (i53_3 + 1).toInt.toNat = i53_3.toInt.toNat + 1 by rw [inc_lt (Int32.not_le.mp c_58)]; omega]; exact fill14 hfl e85 (fFr_of hb9) g86⟩)
        exact L_53 _ 0 _ _ _ (Nat.le_refl _) hR30 eqI.rf eqR.rf (⟨by decide, by have : (0 : Int32).toInt = 0 := rfl; omega, fun i hi => absurd hi (Nat.not_lt_zero i)⟩)
    refine ml_if (S1 := (42, [(0, .ref m0), (1, .int u25)], [], M28)) (S2 := (38, [(0, .ref m0), (1, .int u25)], [], M28)) rfl rfl rfl (fun c_35 => ?_) (fun c_35 => ?_)
    · have c_35 : u25 = 0 := of_decide_eq_true c_35
      refine ml_st (S' := (43, [(0, .ref m0), (1, .int u25)], [.ref m0], M28)) rfl rfl rfl ?_
      refine rg_int (S' := (46, [(0, .ref m0), (1, .int u25)], [.int r47], M28)) rfl hR30 rfl ((f32 47 (by decide)).trans (kz47)) rfl ?_
      exact J_46 r47
    · have c_35 : ¬ (u25 = 0) := of_decide_eq_false c_35
      refine ml_st (S' := (39, [(0, .ref m0), (1, .int u25)], [.int 0], M28)) rfl rfl rfl ?_
      refine ml_st (S' := (46, [(0, .ref m0), (1, .int u25)], [.int 0], M28)) rfl rfl rfl ?_
      exact J_46 0
  refine ml_if (S1 := (27, [(1, .int u25), (0, .ref m0)], [.ref m0], M18)) (S2 := (23, [(1, .int u25), (0, .ref m0)], [.ref m0], M18)) rfl rfl rfl (fun c_20 => ?_) (fun c_20 => ?_)
  · have c_20 : u25 = 0 := of_decide_eq_true c_20
    refine ml_st (S' := (28, [(1, .int u25), (0, .ref m0)], [.ref m0, .ref m0], M18)) rfl rfl rfl ?_
    refine rg_int (S' := (31, [(0, .ref m0), (1, .int u25)], [.int r48, .ref m0], M18)) rfl hR22 rfl (kz48) rfl ?_
    exact J_31 r48
  · have c_20 : ¬ (u25 = 0) := of_decide_eq_false c_20
    refine ml_st (S' := (24, [(1, .int u25), (0, .ref m0)], [.int (-1), .ref m0], M18)) rfl rfl rfl ?_
    refine ml_st (S' := (31, [(0, .ref m0), (1, .int u25)], [.int (-1), .ref m0], M18)) rfl rfl rfl ?_
    exact J_31 (-1)
end
section
/-! the reference: its rows are laid one behind another (my own text) -/
section MIB4
theorem mi_loop_more {tb : mi_B} {c1 c2 : Nat → List Value → mi_H → Option mi_R} (hc : ∀ y a M r, c1 y a M = some r → c2 y a M = some r) : ∀ (n : Nat) (S : mi_S) (r : mi_R), mi_loop tb c1 n S = some r → mi_loop tb c2 (n + 1) S = some r := by
  intro n
  induction n with
  | zero => intro S r h; cases h
  | succ n ih =>
    intro S r h
    rw [mi_loop] at h ⊢
    split at h
    · split at h
      · exact ih _ _ h
      · cases h
    · split at h
      · split at h
        · rename_i r9 h9
          rw [hc _ _ _ _ h9]
          exact ih _ _ h
        · cases h
      · cases h
    · exact h
    · cases h
theorem mi_run_n {T : Nat → Option (Nat × mi_B)} {n : Nat} : ∀ (d y : Nat) (a : List Value) (M : mi_H) (r : mi_R), mi_run T n d y a M = some r → mi_run T (n + 1) d y a M = some r := by
  intro d
  induction d with
  | zero => intro y a M r h; cases h
  | succ d ih =>
    intro y a M r h
    rw [mi_run] at h ⊢
    split at h
    · cases h
    · split at h
      · exact mi_loop_more (fun y a M r h => ih y a M r h) _ _ _ h
      · cases h
theorem mi_run_le {T : Nat → Option (Nat × mi_B)} {n n' d y : Nat} {a : List Value} {M : mi_H} {r : mi_R} (h : n ≤ n') (h1 : mi_run T n d y a M = some r) : mi_run T n' d y a M = some r := by
  induction h with
  | refl => exact h1
  | step _ ih => exact mi_run_n d y a M r ih
theorem mt.up {g : xe_G} {d y : Nat} {a : List Value} {M M2 : mi_H} {Q : Option Value → mi_H → Prop} (hy : y ∈ mS) (h : mt (mT g) d y a M Q) (hl : hle M M2) : mt (mT g) d y a M2 (fun v M' => ∃ M0, Q v M0 ∧ hle M0 M' ∧ M'.2 = M2.2) := by
  obtain ⟨r, ⟨n0, h1⟩, h2⟩ := h
  obtain ⟨M3, b1, b2, b3⟩ := (run_mn (mz_all (g := g)) d y a M r hy (h1 n0 (Nat.le_refl n0))).2 M2 hl
  refine ⟨(r.1, M3), ⟨n0, fun n hn => ?_⟩, r.2, h2, b2, b3⟩
  obtain ⟨M4, c1, c2, c3⟩ := (run_mn (mz_all (g := g)) d y a M r hy (h1 n hn)).2 M2 hl
  rw [c1]
  have e : ∀ M5, mi_run (mT g) n d y a M2 = some (r.1, M5) → M5 = M3 := by
    intro M5 h5
    have q := mi_run_le hn b1
    rw [h5] at q
    cases q
    rfl
  rw [e M4 c1]
def BS (m0 a0 : Nat) (C : Nat → mi_C) (L : List Nat) (I : rI) (M0 M : mi_H) (s : Nat) : Prop :=
  (∃ F, M.1 m0 = some (.inr (12, F)) ∧ (∀ p k, L[p]? = some k → F k = some (.ref (a0 + p))) ∧ ∀ k, rx k = false → F k = (I k).map Value.int) ∧
  (∀ p k, L[p]? = some k → M.1 (a0 + p) = some (C k)) ∧ (∀ a, a < a0 → a ≠ m0 → M.1 a = M0.1 a) ∧ M.2 = (a0 + L.length, s) ∧ m0 < a0
variable {m0 a0 : Nat} {C : Nat → mi_C} {L : List Nat} {I : rI} {M0 M : mi_H} {s : Nat}
variable {T : Nat → Option (Nat × mi_B)} {d pc : Nat} {tb : mi_B} {lv : List (Nat × Value)} {st : List Value} {Q : Option Value → mi_H → Prop}
theorem rb_put {j w : Nat} {ty : FieldType} {c : mi_C} (hB : BS m0 a0 C L I M0 M s) (hc : C j = c) (hj : j ∉ L) (hx : rx j = true) (h1 : tb.1 pc = some (.inl (o_put 12 j ty))) (hf : mi_fit ty (.ref M.2.1) = true) (kk : ∀ M', BS m0 a0 C (L ++ [j]) I M0 M' (s + w) → ml T d tb (mi_nk tb.2 (pc + 3, lv, st, M')) Q) : ml T d tb (pc, lv, .ref M.2.1 :: .ref m0 :: st, (va_up M.1 M.2.1 (some c), M.2.1 + 1, M.2.2 + w)) Q := by
  obtain ⟨⟨F, hF, hF1, hF2⟩, hr, ho, hz, hm⟩ := hB
  have e1 : M.2.1 = a0 + L.length := congrArg Prod.fst hz
  have e2 : M.2.2 = s := congrArg Prod.snd hz
  have hne : m0 ≠ M.2.1 := by omega
  refine ml_put (f := F) h1 (by show va_up M.1 M.2.1 _ m0 = _; rw [va_up, if_neg hne]; exact hF) hf rfl (kk _ ⟨⟨va_up F j (some (.ref M.2.1)), ?_, fun p k hp => ?_, fun k hk => ?_⟩, fun p k hp => ?_, fun a ha hn => ?_, ?_, hm⟩)
  · show va_up _ m0 _ m0 = _
    rw [va_up, if_pos rfl]
  · by_cases e : p < L.length
    · rw [List.getElem?_append_left e] at hp
      have hk : k ≠ j := fun q => hj (q ▸ List.mem_of_getElem? hp)
      rw [va_up, if_neg hk]
      exact hF1 p k hp
    · rw [List.getElem?_append_right (Nat.le_of_not_lt e)] at hp
      cases h9 : p - L.length with
      | zero =>
        rw [h9] at hp
        have hk : j = k := by simpa using hp
        subst hk
        rw [va_up, if_pos rfl, e1, show p = L.length from Nat.le_antisymm (Nat.le_of_sub_eq_zero h9) (Nat.le_of_not_lt e)]
      | succ i => rw [h9] at hp; simp at hp
  · have hk2 : k ≠ j := fun q => by rw [q, hx] at hk; cases hk
    rw [va_up, if_neg hk2]
    exact hF2 k hk
  · have hap : a0 + p ≠ m0 := by omega
    show va_up (va_up M.1 M.2.1 (some c)) m0 _ (a0 + p) = _
    rw [va_up, if_neg hap]
    by_cases e : p < L.length
    · rw [List.getElem?_append_left e] at hp
      rw [va_up, if_neg (by omega)]
      exact hr p k hp
    · rw [List.getElem?_append_right (Nat.le_of_not_lt e)] at hp
      cases h9 : p - L.length with
      | zero =>
        rw [h9] at hp
        have hk : j = k := by simpa using hp
        subst hk
        rw [va_up, if_pos (by rw [e1, show p = L.length from Nat.le_antisymm (Nat.le_of_sub_eq_zero h9) (Nat.le_of_not_lt e)]), hc]
      | succ i => rw [h9] at hp; simp at hp
  · show va_up (va_up M.1 M.2.1 (some c)) m0 _ a = _
    rw [va_up, if_neg hn, va_up, if_neg (by omega)]
    exact ho a ha hn
  · show (M.2.1 + 1, M.2.2 + w) = _
    rw [e1, e2, List.length_append]
    rfl
theorem rb_int {j : Nat} {ty : FieldType} {x : Int32} (hB : BS m0 a0 C L I M0 M s) (hj : j ∉ L) (hx : rx j = false) (h1 : tb.1 pc = some (.inl (o_put 12 j ty))) (hf : mi_fit ty (.int x) = true) (kk : ∀ M', BS m0 a0 C L (iset I j x) M0 M' s → ml T d tb (mi_nk tb.2 (pc + 3, lv, st, M')) Q) : ml T d tb (pc, lv, .int x :: .ref m0 :: st, M) Q := by
  obtain ⟨⟨F, hF, hF1, hF2⟩, hr, ho, hz, hm⟩ := hB
  refine ml_put (f := F) h1 hF hf rfl (kk _ ⟨⟨va_up F j (some (.int x)), ?_, fun p k hp => ?_, fun k hk => ?_⟩, fun p k hp => ?_, fun a ha hn => ?_, hz, hm⟩)
  · show va_up M.1 m0 _ m0 = _
    rw [va_up, if_pos rfl]
  · have hk : k ≠ j := fun q => hj (q ▸ List.mem_of_getElem? hp)
    rw [va_up, if_neg hk]
    exact hF1 p k hp
  · unfold iset
    by_cases e : k = j
    · rw [va_up, if_pos e, if_pos e]
      rfl
    · rw [va_up, if_neg e, if_neg e]
      exact hF2 k hk
  · show va_up M.1 m0 _ (a0 + p) = _
    rw [va_up, if_neg (by omega)]
    exact hr p k hp
  · show va_up M.1 m0 _ a = _
    rw [va_up, if_neg hn]
    exact ho a ha hn
theorem va_twice {f : Nat → Option mi_C} {a : Nat} {x y : Option mi_C} : va_up (va_up f a x) a y = va_up f a y := by
  funext b
  by_cases e : b = a
  · simp [va_up, e]
  · simp [va_up, e]
theorem rb_ast {i x : Int32} {n w : Nat} {cf : Nat → Option Value} (h1 : tb.1 pc = some (.inl (o_ast .int (fun x => x)))) (hi : ¬ (i < 0 ∨ n ≤ i.toNatClampNeg)) (kk : ml T d tb (mi_nk tb.2 (pc + 1, lv, st, (va_up M.1 M.2.1 (some (.inl (.int, n, va_up cf i.toNatClampNeg (some (.int x))))), M.2.1 + 1, M.2.2 + w))) Q) : ml T d tb (pc, lv, .int x :: .int i :: .ref M.2.1 :: st, (va_up M.1 M.2.1 (some (.inl (.int, n, cf))), M.2.1 + 1, M.2.2 + w)) Q := by
  refine ml_st h1 (S1 := (pc + 1, lv, st, (va_up M.1 M.2.1 (some (.inl (.int, n, va_up cf i.toNatClampNeg (some (.int x))))), M.2.1 + 1, M.2.2 + w))) ?_ rfl kk
  have hg : mi_ga (va_up M.1 M.2.1 (some (.inl (.int, n, cf))), M.2.1 + 1, M.2.2 + w) M.2.1 .int = some (n, cf) := by
    unfold mi_ga
    show (match va_up M.1 M.2.1 _ M.2.1 with | some (.inl o) => if o.1 = FieldType.int then some o.2 else none | _ => none) = _
    rw [va_up, if_pos rfl]
    rfl
  unfold o_ast
  dsimp only
  rw [hg]
  dsimp only
  rw [if_neg hi, va_twice]
theorem rb_aast {g : xe_G} {v lk : Nat} {i : Int32} {n w : Nat} {cf : Nat → Option Value} (hB : BS m0 a0 C L I M0 M s) (h1 : tb.1 pc = some (.inl (o_aast "java/lang/String"))) (hv : g.2.1 lk = v) (hva : v < a0) (hvm : v ≠ m0) (hl : ∃ f, M0.1 v = some (.inr (100 + lk, f))) (hi : ¬ (i < 0 ∨ n ≤ i.toNatClampNeg)) (kk : ml T d tb (mi_nk tb.2 (pc + 1, lv, st, (va_up M.1 M.2.1 (some (.inl (.object "java/lang/String", n, va_up cf i.toNatClampNeg (some (.ref v))))), M.2.1 + 1, M.2.2 + w))) Q) : ml T d tb (pc, lv, .ref v :: .int i :: .ref M.2.1 :: st, (va_up M.1 M.2.1 (some (.inl (.object "java/lang/String", n, cf))), M.2.1 + 1, M.2.2 + w)) Q := by
  obtain ⟨-, -, ho, hz, hm⟩ := hB
  have e1 : M.2.1 = a0 + L.length := congrArg Prod.fst hz
  obtain ⟨f, hf⟩ := hl
  refine ml_st h1 (S1 := (pc + 1, lv, st, (va_up M.1 M.2.1 (some (.inl (.object "java/lang/String", n, va_up cf i.toNatClampNeg (some (.ref v))))), M.2.1 + 1, M.2.2 + w))) ?_ rfl kk
  have hg : mi_ga (va_up M.1 M.2.1 (some (.inl (.object "java/lang/String", n, cf))), M.2.1 + 1, M.2.2 + w) M.2.1 (.object "java/lang/String") = some (n, cf) := by
    unfold mi_ga
    show (match va_up M.1 M.2.1 _ M.2.1 with | some (.inl o) => if o.1 = FieldType.object "java/lang/String" then some o.2 else none | _ => none) = _
    rw [va_up, if_pos rfl]
    simp
  have hk : mi_ok (va_up M.1 M.2.1 (some (.inl (.object "java/lang/String", n, cf))), M.2.1 + 1, M.2.2 + w) "java/lang/String" v = true := by
    unfold mi_ok
    have e : va_up M.1 M.2.1 (some (.inl (.object "java/lang/String", n, cf))) v = some (.inr (100 + lk, f)) := by
      rw [va_up, if_neg (by omega), ho v hva hvm]
      exact hf
    simp only [e]
    rw [if_neg (by omega)]
    simp
  unfold o_aast
  dsimp only
  rw [hg]
  dsimp only
  rw [if_neg hi, if_pos hk, va_twice]
end MIB4
end
section
/-! the reference: its rows are laid (laid by wip/p2/c83.py) -/
section MIB5
def LL : List Nat := [1, 2, 4, 5, 6, 7, 12, 13, 14, 15, 21, 22, 23, 24, 27, 28, 29, 30, 31, 32, 33, 34, 35, 36, 37, 38, 39, 40, 41, 42, 43, 44, 45, 46, 62, 63, 64, 80, 81]
def I00 : rI := fun k => if k < 82 then some 0 else none
def I09 : rI := (iset (iset (iset I00 18 (-1)) 73 (-1)) 74 (-1))
def CC (g : xe_G) (k : Nat) : mi_C := if k = 62 then .inl (.object "java/lang/String", 10, (va_up (va_up (va_up (va_up (va_up (va_up (va_up (va_up (va_up (va_up (fun _ => some .null) (Int32.toNatClampNeg 0) (some (.ref (g.2.1 15)))) (Int32.toNatClampNeg 1) (some (.ref (g.2.1 16)))) (Int32.toNatClampNeg 2) (some (.ref (g.2.1 17)))) (Int32.toNatClampNeg 3) (some (.ref (g.2.1 18)))) (Int32.toNatClampNeg 4) (some (.ref (g.2.1 19)))) (Int32.toNatClampNeg 5) (some (.ref (g.2.1 20)))) (Int32.toNatClampNeg 6) (some (.ref (g.2.1 21)))) (Int32.toNatClampNeg 7) (some (.ref (g.2.1 22)))) (Int32.toNatClampNeg 8) (some (.ref (g.2.1 23)))) (Int32.toNatClampNeg 9) (some (.ref (g.2.1 24))))) else if k = 63 then .inl (.int, 10, (va_up (va_up (va_up (va_up (va_up (va_up (va_up (va_up (va_up (va_up (fun _ => some (.int 0)) (Int32.toNatClampNeg 0) (some (.int 1))) (Int32.toNatClampNeg 1) (some (.int 2))) (Int32.toNatClampNeg 2) (some (.int 2))) (Int32.toNatClampNeg 3) (some (.int 3))) (Int32.toNatClampNeg 4) (some (.int 4))) (Int32.toNatClampNeg 5) (some (.int 4))) (Int32.toNatClampNeg 6) (some (.int 4))) (Int32.toNatClampNeg 7) (some (.int 4))) (Int32.toNatClampNeg 8) (some (.int 4))) (Int32.toNatClampNeg 9) (some (.int 4)))) else if k = 64 then .inl (.int, 10, (va_up (va_up (va_up (va_up (va_up (va_up (va_up (va_up (va_up (va_up (fun _ => some (.int 0)) (Int32.toNatClampNeg 0) (some (.int 0))) (Int32.toNatClampNeg 1) (some (.int 0))) (Int32.toNatClampNeg 2) (some (.int 0))) (Int32.toNatClampNeg 3) (some (.int 50))) (Int32.toNatClampNeg 4) (some (.int 0))) (Int32.toNatClampNeg 5) (some (.int 51))) (Int32.toNatClampNeg 6) (some (.int 55))) (Int32.toNatClampNeg 7) (some (.int 55))) (Int32.toNatClampNeg 8) (some (.int 60))) (Int32.toNatClampNeg 9) (some (.int 61)))) else match rt k with | some t => .inl (t.1, t.2, fun _ => some (.int 0)) | none => .inr (0, fun _ => none)
set_option maxHeartbeats 4000000 in
theorem rm_rows {g : xe_G} {m0 d : Nat} {M : mi_H} {Q : Option Value → mi_H → Prop} (hB0 : BS m0 M.2.1 (CC g) [] I00 M M M.2.2) (hlt : ∀ k, rlk k → g.2.1 k < M.2.1) (hlm : ∀ k, rlk k → g.2.1 k ≠ m0) (hlit : ∀ k, rlk k → ∃ f, M.1 (g.2.1 k) = some (.inr (100 + k, f))) (hk : ∀ M', BS m0 M.2.1 (CC g) LL I09 M M' (M.2.2 + 66000 + 66000 + 24000 + 24000 + 24000 + 4096 + 65600 + 65560 + 65560 + 65560 + 65540 + 65540 + 1 + 1 + 8300 + 8300 + 8300 + 8300 + 8300 + 8300 + 8300 + 8300 + 8300 + 8300 + 8300 + 8300 + 8300 + 8300 + 8300 + 8300 + 8300 + 8300 + 8300 + 8300 + 10 + 10 + 10 + 65540 + 65540) → ml (mT g) d (mb_173 g).2 (502, [(0, .ref m0)], [], M') Q) : ml (mT g) d (mb_173 g).2 (0, [(0, .ref m0)], [], M) Q := by
  refine ml_blk 2 (S' := (4, [(0, .ref m0)], [], M)) rfl ?_
  refine ml_blk 3 (S' := (9, [(0, .ref m0)], [.ref M.2.1, .ref m0], (va_up M.1 M.2.1 (some (.inl (.char, 66000, (fun _ => some (.int 0))))), M.2.1 + 1, M.2.2 + 66000))) rfl ?_
  refine rb_put (j := 1) (w := 66000) hB0 rfl (by decide) (by decide) rfl rfl (fun M1 hB1 => ?_)
  show ml _ _ _ (12, [(0, .ref m0)], [], M1) _
  refine ml_blk 3 (S' := (17, [(0, .ref m0)], [.ref M1.2.1, .ref m0], (va_up M1.1 M1.2.1 (some (.inl (.char, 66000, (fun _ => some (.int 0))))), M1.2.1 + 1, M1.2.2 + 66000))) rfl ?_
  refine rb_put (j := 2) (w := 66000) hB1 rfl (by decide) (by decide) rfl rfl (fun M2 hB2 => ?_)
  show ml _ _ _ (20, [(0, .ref m0)], [], M2) _
  refine ml_blk 3 (S' := (26, [(0, .ref m0)], [.ref M2.2.1, .ref m0], (va_up M2.1 M2.2.1 (some (.inl (.int, 24000, (fun _ => some (.int 0))))), M2.2.1 + 1, M2.2.2 + 24000))) rfl ?_
  refine rb_put (j := 4) (w := 24000) hB2 rfl (by decide) (by decide) rfl rfl (fun M3 hB3 => ?_)
  show ml _ _ _ (29, [(0, .ref m0)], [], M3) _
  refine ml_blk 3 (S' := (35, [(0, .ref m0)], [.ref M3.2.1, .ref m0], (va_up M3.1 M3.2.1 (some (.inl (.int, 24000, (fun _ => some (.int 0))))), M3.2.1 + 1, M3.2.2 + 24000))) rfl ?_
  refine rb_put (j := 5) (w := 24000) hB3 rfl (by decide) (by decide) rfl rfl (fun M4 hB4 => ?_)
  show ml _ _ _ (38, [(0, .ref m0)], [], M4) _
  refine ml_blk 3 (S' := (44, [(0, .ref m0)], [.ref M4.2.1, .ref m0], (va_up M4.1 M4.2.1 (some (.inl (.int, 24000, (fun _ => some (.int 0))))), M4.2.1 + 1, M4.2.2 + 24000))) rfl ?_
  refine rb_put (j := 6) (w := 24000) hB4 rfl (by decide) (by decide) rfl rfl (fun M5 hB5 => ?_)
  show ml _ _ _ (47, [(0, .ref m0)], [], M5) _
  refine ml_blk 3 (S' := (53, [(0, .ref m0)], [.ref M5.2.1, .ref m0], (va_up M5.1 M5.2.1 (some (.inl (.int, 4096, (fun _ => some (.int 0))))), M5.2.1 + 1, M5.2.2 + 4096))) rfl ?_
  refine rb_put (j := 7) (w := 4096) hB5 rfl (by decide) (by decide) rfl rfl (fun M6 hB6 => ?_)
  show ml _ _ _ (56, [(0, .ref m0)], [], M6) _
  refine ml_blk 3 (S' := (61, [(0, .ref m0)], [.ref M6.2.1, .ref m0], (va_up M6.1 M6.2.1 (some (.inl (.byte, 65600, (fun _ => some (.int 0))))), M6.2.1 + 1, M6.2.2 + 65600))) rfl ?_
  refine rb_put (j := 12) (w := 65600) hB6 rfl (by decide) (by decide) rfl rfl (fun M7 hB7 => ?_)
  show ml _ _ _ (64, [(0, .ref m0)], [], M7) _
  refine ml_blk 3 (S' := (69, [(0, .ref m0)], [.ref M7.2.1, .ref m0], (va_up M7.1 M7.2.1 (some (.inl (.byte, 65560, (fun _ => some (.int 0))))), M7.2.1 + 1, M7.2.2 + 65560))) rfl ?_
  refine rb_put (j := 13) (w := 65560) hB7 rfl (by decide) (by decide) rfl rfl (fun M8 hB8 => ?_)
  show ml _ _ _ (72, [(0, .ref m0)], [], M8) _
  refine ml_blk 3 (S' := (77, [(0, .ref m0)], [.ref M8.2.1, .ref m0], (va_up M8.1 M8.2.1 (some (.inl (.byte, 65560, (fun _ => some (.int 0))))), M8.2.1 + 1, M8.2.2 + 65560))) rfl ?_
  refine rb_put (j := 14) (w := 65560) hB8 rfl (by decide) (by decide) rfl rfl (fun M9 hB9 => ?_)
  show ml _ _ _ (80, [(0, .ref m0)], [], M9) _
  refine ml_blk 3 (S' := (85, [(0, .ref m0)], [.ref M9.2.1, .ref m0], (va_up M9.1 M9.2.1 (some (.inl (.byte, 65560, (fun _ => some (.int 0))))), M9.2.1 + 1, M9.2.2 + 65560))) rfl ?_
  refine rb_put (j := 15) (w := 65560) hB9 rfl (by decide) (by decide) rfl rfl (fun M10 hB10 => ?_)
  show ml _ _ _ (88, [(0, .ref m0)], [], M10) _
  refine ml_blk 2 (S' := (90, [(0, .ref m0)], [.int (-1), .ref m0], M10)) rfl ?_
  refine rb_int hB10 (by decide) (by decide) rfl rfl (fun M11 hB11 => ?_)
  show ml _ _ _ (93, [(0, .ref m0)], [], M11) _
  refine ml_blk 3 (S' := (98, [(0, .ref m0)], [.ref M11.2.1, .ref m0], (va_up M11.1 M11.2.1 (some (.inl (.int, 65540, (fun _ => some (.int 0))))), M11.2.1 + 1, M11.2.2 + 65540))) rfl ?_
  refine rb_put (j := 21) (w := 65540) hB11 rfl (by decide) (by decide) rfl rfl (fun M12 hB12 => ?_)
  show ml _ _ _ (101, [(0, .ref m0)], [], M12) _
  refine ml_blk 3 (S' := (106, [(0, .ref m0)], [.ref M12.2.1, .ref m0], (va_up M12.1 M12.2.1 (some (.inl (.int, 65540, (fun _ => some (.int 0))))), M12.2.1 + 1, M12.2.2 + 65540))) rfl ?_
  refine rb_put (j := 22) (w := 65540) hB12 rfl (by decide) (by decide) rfl rfl (fun M13 hB13 => ?_)
  show ml _ _ _ (109, [(0, .ref m0)], [], M13) _
  refine ml_blk 3 (S' := (113, [(0, .ref m0)], [.ref M13.2.1, .ref m0], (va_up M13.1 M13.2.1 (some (.inl (.int, 1, (fun _ => some (.int 0))))), M13.2.1 + 1, M13.2.2 + 1))) rfl ?_
  refine rb_put (j := 23) (w := 1) hB13 rfl (by decide) (by decide) rfl rfl (fun M14 hB14 => ?_)
  show ml _ _ _ (116, [(0, .ref m0)], [], M14) _
  refine ml_blk 3 (S' := (120, [(0, .ref m0)], [.ref M14.2.1, .ref m0], (va_up M14.1 M14.2.1 (some (.inl (.int, 1, (fun _ => some (.int 0))))), M14.2.1 + 1, M14.2.2 + 1))) rfl ?_
  refine rb_put (j := 24) (w := 1) hB14 rfl (by decide) (by decide) rfl rfl (fun M15 hB15 => ?_)
  show ml _ _ _ (123, [(0, .ref m0)], [], M15) _
  refine ml_blk 3 (S' := (129, [(0, .ref m0)], [.ref M15.2.1, .ref m0], (va_up M15.1 M15.2.1 (some (.inl (.int, 8300, (fun _ => some (.int 0))))), M15.2.1 + 1, M15.2.2 + 8300))) rfl ?_
  refine rb_put (j := 27) (w := 8300) hB15 rfl (by decide) (by decide) rfl rfl (fun M16 hB16 => ?_)
  show ml _ _ _ (132, [(0, .ref m0)], [], M16) _
  refine ml_blk 3 (S' := (138, [(0, .ref m0)], [.ref M16.2.1, .ref m0], (va_up M16.1 M16.2.1 (some (.inl (.int, 8300, (fun _ => some (.int 0))))), M16.2.1 + 1, M16.2.2 + 8300))) rfl ?_
  refine rb_put (j := 28) (w := 8300) hB16 rfl (by decide) (by decide) rfl rfl (fun M17 hB17 => ?_)
  show ml _ _ _ (141, [(0, .ref m0)], [], M17) _
  refine ml_blk 3 (S' := (147, [(0, .ref m0)], [.ref M17.2.1, .ref m0], (va_up M17.1 M17.2.1 (some (.inl (.int, 8300, (fun _ => some (.int 0))))), M17.2.1 + 1, M17.2.2 + 8300))) rfl ?_
  refine rb_put (j := 29) (w := 8300) hB17 rfl (by decide) (by decide) rfl rfl (fun M18 hB18 => ?_)
  show ml _ _ _ (150, [(0, .ref m0)], [], M18) _
  refine ml_blk 3 (S' := (156, [(0, .ref m0)], [.ref M18.2.1, .ref m0], (va_up M18.1 M18.2.1 (some (.inl (.int, 8300, (fun _ => some (.int 0))))), M18.2.1 + 1, M18.2.2 + 8300))) rfl ?_
  refine rb_put (j := 30) (w := 8300) hB18 rfl (by decide) (by decide) rfl rfl (fun M19 hB19 => ?_)
  show ml _ _ _ (159, [(0, .ref m0)], [], M19) _
  refine ml_blk 3 (S' := (165, [(0, .ref m0)], [.ref M19.2.1, .ref m0], (va_up M19.1 M19.2.1 (some (.inl (.int, 8300, (fun _ => some (.int 0))))), M19.2.1 + 1, M19.2.2 + 8300))) rfl ?_
  refine rb_put (j := 31) (w := 8300) hB19 rfl (by decide) (by decide) rfl rfl (fun M20 hB20 => ?_)
  show ml _ _ _ (168, [(0, .ref m0)], [], M20) _
  refine ml_blk 3 (S' := (174, [(0, .ref m0)], [.ref M20.2.1, .ref m0], (va_up M20.1 M20.2.1 (some (.inl (.int, 8300, (fun _ => some (.int 0))))), M20.2.1 + 1, M20.2.2 + 8300))) rfl ?_
  refine rb_put (j := 32) (w := 8300) hB20 rfl (by decide) (by decide) rfl rfl (fun M21 hB21 => ?_)
  show ml _ _ _ (177, [(0, .ref m0)], [], M21) _
  refine ml_blk 3 (S' := (183, [(0, .ref m0)], [.ref M21.2.1, .ref m0], (va_up M21.1 M21.2.1 (some (.inl (.int, 8300, (fun _ => some (.int 0))))), M21.2.1 + 1, M21.2.2 + 8300))) rfl ?_
  refine rb_put (j := 33) (w := 8300) hB21 rfl (by decide) (by decide) rfl rfl (fun M22 hB22 => ?_)
  show ml _ _ _ (186, [(0, .ref m0)], [], M22) _
  refine ml_blk 3 (S' := (192, [(0, .ref m0)], [.ref M22.2.1, .ref m0], (va_up M22.1 M22.2.1 (some (.inl (.int, 8300, (fun _ => some (.int 0))))), M22.2.1 + 1, M22.2.2 + 8300))) rfl ?_
  refine rb_put (j := 34) (w := 8300) hB22 rfl (by decide) (by decide) rfl rfl (fun M23 hB23 => ?_)
  show ml _ _ _ (195, [(0, .ref m0)], [], M23) _
  refine ml_blk 3 (S' := (201, [(0, .ref m0)], [.ref M23.2.1, .ref m0], (va_up M23.1 M23.2.1 (some (.inl (.int, 8300, (fun _ => some (.int 0))))), M23.2.1 + 1, M23.2.2 + 8300))) rfl ?_
  refine rb_put (j := 35) (w := 8300) hB23 rfl (by decide) (by decide) rfl rfl (fun M24 hB24 => ?_)
  show ml _ _ _ (204, [(0, .ref m0)], [], M24) _
  refine ml_blk 3 (S' := (210, [(0, .ref m0)], [.ref M24.2.1, .ref m0], (va_up M24.1 M24.2.1 (some (.inl (.int, 8300, (fun _ => some (.int 0))))), M24.2.1 + 1, M24.2.2 + 8300))) rfl ?_
  refine rb_put (j := 36) (w := 8300) hB24 rfl (by decide) (by decide) rfl rfl (fun M25 hB25 => ?_)
  show ml _ _ _ (213, [(0, .ref m0)], [], M25) _
  refine ml_blk 3 (S' := (219, [(0, .ref m0)], [.ref M25.2.1, .ref m0], (va_up M25.1 M25.2.1 (some (.inl (.int, 8300, (fun _ => some (.int 0))))), M25.2.1 + 1, M25.2.2 + 8300))) rfl ?_
  refine rb_put (j := 37) (w := 8300) hB25 rfl (by decide) (by decide) rfl rfl (fun M26 hB26 => ?_)
  show ml _ _ _ (222, [(0, .ref m0)], [], M26) _
  refine ml_blk 3 (S' := (228, [(0, .ref m0)], [.ref M26.2.1, .ref m0], (va_up M26.1 M26.2.1 (some (.inl (.int, 8300, (fun _ => some (.int 0))))), M26.2.1 + 1, M26.2.2 + 8300))) rfl ?_
  refine rb_put (j := 38) (w := 8300) hB26 rfl (by decide) (by decide) rfl rfl (fun M27 hB27 => ?_)
  show ml _ _ _ (231, [(0, .ref m0)], [], M27) _
  refine ml_blk 3 (S' := (237, [(0, .ref m0)], [.ref M27.2.1, .ref m0], (va_up M27.1 M27.2.1 (some (.inl (.int, 8300, (fun _ => some (.int 0))))), M27.2.1 + 1, M27.2.2 + 8300))) rfl ?_
  refine rb_put (j := 39) (w := 8300) hB27 rfl (by decide) (by decide) rfl rfl (fun M28 hB28 => ?_)
  show ml _ _ _ (240, [(0, .ref m0)], [], M28) _
  refine ml_blk 3 (S' := (246, [(0, .ref m0)], [.ref M28.2.1, .ref m0], (va_up M28.1 M28.2.1 (some (.inl (.int, 8300, (fun _ => some (.int 0))))), M28.2.1 + 1, M28.2.2 + 8300))) rfl ?_
  refine rb_put (j := 40) (w := 8300) hB28 rfl (by decide) (by decide) rfl rfl (fun M29 hB29 => ?_)
  show ml _ _ _ (249, [(0, .ref m0)], [], M29) _
  refine ml_blk 3 (S' := (255, [(0, .ref m0)], [.ref M29.2.1, .ref m0], (va_up M29.1 M29.2.1 (some (.inl (.int, 8300, (fun _ => some (.int 0))))), M29.2.1 + 1, M29.2.2 + 8300))) rfl ?_
  refine rb_put (j := 41) (w := 8300) hB29 rfl (by decide) (by decide) rfl rfl (fun M30 hB30 => ?_)
  show ml _ _ _ (258, [(0, .ref m0)], [], M30) _
  refine ml_blk 3 (S' := (264, [(0, .ref m0)], [.ref M30.2.1, .ref m0], (va_up M30.1 M30.2.1 (some (.inl (.int, 8300, (fun _ => some (.int 0))))), M30.2.1 + 1, M30.2.2 + 8300))) rfl ?_
  refine rb_put (j := 42) (w := 8300) hB30 rfl (by decide) (by decide) rfl rfl (fun M31 hB31 => ?_)
  show ml _ _ _ (267, [(0, .ref m0)], [], M31) _
  refine ml_blk 3 (S' := (273, [(0, .ref m0)], [.ref M31.2.1, .ref m0], (va_up M31.1 M31.2.1 (some (.inl (.int, 8300, (fun _ => some (.int 0))))), M31.2.1 + 1, M31.2.2 + 8300))) rfl ?_
  refine rb_put (j := 43) (w := 8300) hB31 rfl (by decide) (by decide) rfl rfl (fun M32 hB32 => ?_)
  show ml _ _ _ (276, [(0, .ref m0)], [], M32) _
  refine ml_blk 3 (S' := (282, [(0, .ref m0)], [.ref M32.2.1, .ref m0], (va_up M32.1 M32.2.1 (some (.inl (.int, 8300, (fun _ => some (.int 0))))), M32.2.1 + 1, M32.2.2 + 8300))) rfl ?_
  refine rb_put (j := 44) (w := 8300) hB32 rfl (by decide) (by decide) rfl rfl (fun M33 hB33 => ?_)
  show ml _ _ _ (285, [(0, .ref m0)], [], M33) _
  refine ml_blk 3 (S' := (291, [(0, .ref m0)], [.ref M33.2.1, .ref m0], (va_up M33.1 M33.2.1 (some (.inl (.int, 8300, (fun _ => some (.int 0))))), M33.2.1 + 1, M33.2.2 + 8300))) rfl ?_
  refine rb_put (j := 45) (w := 8300) hB33 rfl (by decide) (by decide) rfl rfl (fun M34 hB34 => ?_)
  show ml _ _ _ (294, [(0, .ref m0)], [], M34) _
  refine ml_blk 3 (S' := (300, [(0, .ref m0)], [.ref M34.2.1, .ref m0], (va_up M34.1 M34.2.1 (some (.inl (.int, 8300, (fun _ => some (.int 0))))), M34.2.1 + 1, M34.2.2 + 8300))) rfl ?_
  refine rb_put (j := 46) (w := 8300) hB34 rfl (by decide) (by decide) rfl rfl (fun M35 hB35 => ?_)
  show ml _ _ _ (303, [(0, .ref m0)], [], M35) _
  refine ml_blk 3 (S' := (309, [(0, .ref m0)], [.ref M35.2.1, .ref m0], (va_up M35.1 M35.2.1 (some (.inl (.object "java/lang/String", 10, (fun _ => some .null)))), M35.2.1 + 1, M35.2.2 + 10))) rfl ?_
  refine ml_blk 3 (S' := (313, [(0, .ref m0)], [.ref (g.2.1 15), .int 0, .ref M35.2.1, .ref M35.2.1, .ref m0], (va_up M35.1 M35.2.1 (some (.inl (.object "java/lang/String", 10, (fun _ => some .null)))), M35.2.1 + 1, M35.2.2 + 10))) rfl ?_
  refine rb_aast (g := g) (lk := 15) hB35 rfl rfl (hlt _ (by decide)) (hlm _ (by decide)) (hlit _ (by decide)) (by decide) ?_
  show ml _ _ _ (314, [(0, .ref m0)], [.ref M35.2.1, .ref m0], (va_up M35.1 M35.2.1 (some (.inl (.object "java/lang/String", 10, (va_up (fun _ => some .null) (Int32.toNatClampNeg 0) (some (.ref (g.2.1 15))))))), M35.2.1 + 1, M35.2.2 + 10)) _
  refine ml_blk 3 (S' := (318, [(0, .ref m0)], [.ref (g.2.1 16), .int 1, .ref M35.2.1, .ref M35.2.1, .ref m0], (va_up M35.1 M35.2.1 (some (.inl (.object "java/lang/String", 10, (va_up (fun _ => some .null) (Int32.toNatClampNeg 0) (some (.ref (g.2.1 15))))))), M35.2.1 + 1, M35.2.2 + 10))) rfl ?_
  refine rb_aast (g := g) (lk := 16) hB35 rfl rfl (hlt _ (by decide)) (hlm _ (by decide)) (hlit _ (by decide)) (by decide) ?_
  show ml _ _ _ (319, [(0, .ref m0)], [.ref M35.2.1, .ref m0], (va_up M35.1 M35.2.1 (some (.inl (.object "java/lang/String", 10, (va_up (va_up (fun _ => some .null) (Int32.toNatClampNeg 0) (some (.ref (g.2.1 15)))) (Int32.toNatClampNeg 1) (some (.ref (g.2.1 16))))))), M35.2.1 + 1, M35.2.2 + 10)) _
  refine ml_blk 3 (S' := (323, [(0, .ref m0)], [.ref (g.2.1 17), .int 2, .ref M35.2.1, .ref M35.2.1, .ref m0], (va_up M35.1 M35.2.1 (some (.inl (.object "java/lang/String", 10, (va_up (va_up (fun _ => some .null) (Int32.toNatClampNeg 0) (some (.ref (g.2.1 15)))) (Int32.toNatClampNeg 1) (some (.ref (g.2.1 16))))))), M35.2.1 + 1, M35.2.2 + 10))) rfl ?_
  refine rb_aast (g := g) (lk := 17) hB35 rfl rfl (hlt _ (by decide)) (hlm _ (by decide)) (hlit _ (by decide)) (by decide) ?_
  show ml _ _ _ (324, [(0, .ref m0)], [.ref M35.2.1, .ref m0], (va_up M35.1 M35.2.1 (some (.inl (.object "java/lang/String", 10, (va_up (va_up (va_up (fun _ => some .null) (Int32.toNatClampNeg 0) (some (.ref (g.2.1 15)))) (Int32.toNatClampNeg 1) (some (.ref (g.2.1 16)))) (Int32.toNatClampNeg 2) (some (.ref (g.2.1 17))))))), M35.2.1 + 1, M35.2.2 + 10)) _
  refine ml_blk 3 (S' := (328, [(0, .ref m0)], [.ref (g.2.1 18), .int 3, .ref M35.2.1, .ref M35.2.1, .ref m0], (va_up M35.1 M35.2.1 (some (.inl (.object "java/lang/String", 10, (va_up (va_up (va_up (fun _ => some .null) (Int32.toNatClampNeg 0) (some (.ref (g.2.1 15)))) (Int32.toNatClampNeg 1) (some (.ref (g.2.1 16)))) (Int32.toNatClampNeg 2) (some (.ref (g.2.1 17))))))), M35.2.1 + 1, M35.2.2 + 10))) rfl ?_
  refine rb_aast (g := g) (lk := 18) hB35 rfl rfl (hlt _ (by decide)) (hlm _ (by decide)) (hlit _ (by decide)) (by decide) ?_
  show ml _ _ _ (329, [(0, .ref m0)], [.ref M35.2.1, .ref m0], (va_up M35.1 M35.2.1 (some (.inl (.object "java/lang/String", 10, (va_up (va_up (va_up (va_up (fun _ => some .null) (Int32.toNatClampNeg 0) (some (.ref (g.2.1 15)))) (Int32.toNatClampNeg 1) (some (.ref (g.2.1 16)))) (Int32.toNatClampNeg 2) (some (.ref (g.2.1 17)))) (Int32.toNatClampNeg 3) (some (.ref (g.2.1 18))))))), M35.2.1 + 1, M35.2.2 + 10)) _
  refine ml_blk 3 (S' := (333, [(0, .ref m0)], [.ref (g.2.1 19), .int 4, .ref M35.2.1, .ref M35.2.1, .ref m0], (va_up M35.1 M35.2.1 (some (.inl (.object "java/lang/String", 10, (va_up (va_up (va_up (va_up (fun _ => some .null) (Int32.toNatClampNeg 0) (some (.ref (g.2.1 15)))) (Int32.toNatClampNeg 1) (some (.ref (g.2.1 16)))) (Int32.toNatClampNeg 2) (some (.ref (g.2.1 17)))) (Int32.toNatClampNeg 3) (some (.ref (g.2.1 18))))))), M35.2.1 + 1, M35.2.2 + 10))) rfl ?_
  refine rb_aast (g := g) (lk := 19) hB35 rfl rfl (hlt _ (by decide)) (hlm _ (by decide)) (hlit _ (by decide)) (by decide) ?_
  show ml _ _ _ (334, [(0, .ref m0)], [.ref M35.2.1, .ref m0], (va_up M35.1 M35.2.1 (some (.inl (.object "java/lang/String", 10, (va_up (va_up (va_up (va_up (va_up (fun _ => some .null) (Int32.toNatClampNeg 0) (some (.ref (g.2.1 15)))) (Int32.toNatClampNeg 1) (some (.ref (g.2.1 16)))) (Int32.toNatClampNeg 2) (some (.ref (g.2.1 17)))) (Int32.toNatClampNeg 3) (some (.ref (g.2.1 18)))) (Int32.toNatClampNeg 4) (some (.ref (g.2.1 19))))))), M35.2.1 + 1, M35.2.2 + 10)) _
  refine ml_blk 3 (S' := (338, [(0, .ref m0)], [.ref (g.2.1 20), .int 5, .ref M35.2.1, .ref M35.2.1, .ref m0], (va_up M35.1 M35.2.1 (some (.inl (.object "java/lang/String", 10, (va_up (va_up (va_up (va_up (va_up (fun _ => some .null) (Int32.toNatClampNeg 0) (some (.ref (g.2.1 15)))) (Int32.toNatClampNeg 1) (some (.ref (g.2.1 16)))) (Int32.toNatClampNeg 2) (some (.ref (g.2.1 17)))) (Int32.toNatClampNeg 3) (some (.ref (g.2.1 18)))) (Int32.toNatClampNeg 4) (some (.ref (g.2.1 19))))))), M35.2.1 + 1, M35.2.2 + 10))) rfl ?_
  refine rb_aast (g := g) (lk := 20) hB35 rfl rfl (hlt _ (by decide)) (hlm _ (by decide)) (hlit _ (by decide)) (by decide) ?_
  show ml _ _ _ (339, [(0, .ref m0)], [.ref M35.2.1, .ref m0], (va_up M35.1 M35.2.1 (some (.inl (.object "java/lang/String", 10, (va_up (va_up (va_up (va_up (va_up (va_up (fun _ => some .null) (Int32.toNatClampNeg 0) (some (.ref (g.2.1 15)))) (Int32.toNatClampNeg 1) (some (.ref (g.2.1 16)))) (Int32.toNatClampNeg 2) (some (.ref (g.2.1 17)))) (Int32.toNatClampNeg 3) (some (.ref (g.2.1 18)))) (Int32.toNatClampNeg 4) (some (.ref (g.2.1 19)))) (Int32.toNatClampNeg 5) (some (.ref (g.2.1 20))))))), M35.2.1 + 1, M35.2.2 + 10)) _
  refine ml_blk 3 (S' := (344, [(0, .ref m0)], [.ref (g.2.1 21), .int 6, .ref M35.2.1, .ref M35.2.1, .ref m0], (va_up M35.1 M35.2.1 (some (.inl (.object "java/lang/String", 10, (va_up (va_up (va_up (va_up (va_up (va_up (fun _ => some .null) (Int32.toNatClampNeg 0) (some (.ref (g.2.1 15)))) (Int32.toNatClampNeg 1) (some (.ref (g.2.1 16)))) (Int32.toNatClampNeg 2) (some (.ref (g.2.1 17)))) (Int32.toNatClampNeg 3) (some (.ref (g.2.1 18)))) (Int32.toNatClampNeg 4) (some (.ref (g.2.1 19)))) (Int32.toNatClampNeg 5) (some (.ref (g.2.1 20))))))), M35.2.1 + 1, M35.2.2 + 10))) rfl ?_
  refine rb_aast (g := g) (lk := 21) hB35 rfl rfl (hlt _ (by decide)) (hlm _ (by decide)) (hlit _ (by decide)) (by decide) ?_
  show ml _ _ _ (345, [(0, .ref m0)], [.ref M35.2.1, .ref m0], (va_up M35.1 M35.2.1 (some (.inl (.object "java/lang/String", 10, (va_up (va_up (va_up (va_up (va_up (va_up (va_up (fun _ => some .null) (Int32.toNatClampNeg 0) (some (.ref (g.2.1 15)))) (Int32.toNatClampNeg 1) (some (.ref (g.2.1 16)))) (Int32.toNatClampNeg 2) (some (.ref (g.2.1 17)))) (Int32.toNatClampNeg 3) (some (.ref (g.2.1 18)))) (Int32.toNatClampNeg 4) (some (.ref (g.2.1 19)))) (Int32.toNatClampNeg 5) (some (.ref (g.2.1 20)))) (Int32.toNatClampNeg 6) (some (.ref (g.2.1 21))))))), M35.2.1 + 1, M35.2.2 + 10)) _
  refine ml_blk 3 (S' := (350, [(0, .ref m0)], [.ref (g.2.1 22), .int 7, .ref M35.2.1, .ref M35.2.1, .ref m0], (va_up M35.1 M35.2.1 (some (.inl (.object "java/lang/String", 10, (va_up (va_up (va_up (va_up (va_up (va_up (va_up (fun _ => some .null) (Int32.toNatClampNeg 0) (some (.ref (g.2.1 15)))) (Int32.toNatClampNeg 1) (some (.ref (g.2.1 16)))) (Int32.toNatClampNeg 2) (some (.ref (g.2.1 17)))) (Int32.toNatClampNeg 3) (some (.ref (g.2.1 18)))) (Int32.toNatClampNeg 4) (some (.ref (g.2.1 19)))) (Int32.toNatClampNeg 5) (some (.ref (g.2.1 20)))) (Int32.toNatClampNeg 6) (some (.ref (g.2.1 21))))))), M35.2.1 + 1, M35.2.2 + 10))) rfl ?_
  refine rb_aast (g := g) (lk := 22) hB35 rfl rfl (hlt _ (by decide)) (hlm _ (by decide)) (hlit _ (by decide)) (by decide) ?_
  show ml _ _ _ (351, [(0, .ref m0)], [.ref M35.2.1, .ref m0], (va_up M35.1 M35.2.1 (some (.inl (.object "java/lang/String", 10, (va_up (va_up (va_up (va_up (va_up (va_up (va_up (va_up (fun _ => some .null) (Int32.toNatClampNeg 0) (some (.ref (g.2.1 15)))) (Int32.toNatClampNeg 1) (some (.ref (g.2.1 16)))) (Int32.toNatClampNeg 2) (some (.ref (g.2.1 17)))) (Int32.toNatClampNeg 3) (some (.ref (g.2.1 18)))) (Int32.toNatClampNeg 4) (some (.ref (g.2.1 19)))) (Int32.toNatClampNeg 5) (some (.ref (g.2.1 20)))) (Int32.toNatClampNeg 6) (some (.ref (g.2.1 21)))) (Int32.toNatClampNeg 7) (some (.ref (g.2.1 22))))))), M35.2.1 + 1, M35.2.2 + 10)) _
  refine ml_blk 3 (S' := (356, [(0, .ref m0)], [.ref (g.2.1 23), .int 8, .ref M35.2.1, .ref M35.2.1, .ref m0], (va_up M35.1 M35.2.1 (some (.inl (.object "java/lang/String", 10, (va_up (va_up (va_up (va_up (va_up (va_up (va_up (va_up (fun _ => some .null) (Int32.toNatClampNeg 0) (some (.ref (g.2.1 15)))) (Int32.toNatClampNeg 1) (some (.ref (g.2.1 16)))) (Int32.toNatClampNeg 2) (some (.ref (g.2.1 17)))) (Int32.toNatClampNeg 3) (some (.ref (g.2.1 18)))) (Int32.toNatClampNeg 4) (some (.ref (g.2.1 19)))) (Int32.toNatClampNeg 5) (some (.ref (g.2.1 20)))) (Int32.toNatClampNeg 6) (some (.ref (g.2.1 21)))) (Int32.toNatClampNeg 7) (some (.ref (g.2.1 22))))))), M35.2.1 + 1, M35.2.2 + 10))) rfl ?_
  refine rb_aast (g := g) (lk := 23) hB35 rfl rfl (hlt _ (by decide)) (hlm _ (by decide)) (hlit _ (by decide)) (by decide) ?_
  show ml _ _ _ (357, [(0, .ref m0)], [.ref M35.2.1, .ref m0], (va_up M35.1 M35.2.1 (some (.inl (.object "java/lang/String", 10, (va_up (va_up (va_up (va_up (va_up (va_up (va_up (va_up (va_up (fun _ => some .null) (Int32.toNatClampNeg 0) (some (.ref (g.2.1 15)))) (Int32.toNatClampNeg 1) (some (.ref (g.2.1 16)))) (Int32.toNatClampNeg 2) (some (.ref (g.2.1 17)))) (Int32.toNatClampNeg 3) (some (.ref (g.2.1 18)))) (Int32.toNatClampNeg 4) (some (.ref (g.2.1 19)))) (Int32.toNatClampNeg 5) (some (.ref (g.2.1 20)))) (Int32.toNatClampNeg 6) (some (.ref (g.2.1 21)))) (Int32.toNatClampNeg 7) (some (.ref (g.2.1 22)))) (Int32.toNatClampNeg 8) (some (.ref (g.2.1 23))))))), M35.2.1 + 1, M35.2.2 + 10)) _
  refine ml_blk 3 (S' := (362, [(0, .ref m0)], [.ref (g.2.1 24), .int 9, .ref M35.2.1, .ref M35.2.1, .ref m0], (va_up M35.1 M35.2.1 (some (.inl (.object "java/lang/String", 10, (va_up (va_up (va_up (va_up (va_up (va_up (va_up (va_up (va_up (fun _ => some .null) (Int32.toNatClampNeg 0) (some (.ref (g.2.1 15)))) (Int32.toNatClampNeg 1) (some (.ref (g.2.1 16)))) (Int32.toNatClampNeg 2) (some (.ref (g.2.1 17)))) (Int32.toNatClampNeg 3) (some (.ref (g.2.1 18)))) (Int32.toNatClampNeg 4) (some (.ref (g.2.1 19)))) (Int32.toNatClampNeg 5) (some (.ref (g.2.1 20)))) (Int32.toNatClampNeg 6) (some (.ref (g.2.1 21)))) (Int32.toNatClampNeg 7) (some (.ref (g.2.1 22)))) (Int32.toNatClampNeg 8) (some (.ref (g.2.1 23))))))), M35.2.1 + 1, M35.2.2 + 10))) rfl ?_
  refine rb_aast (g := g) (lk := 24) hB35 rfl rfl (hlt _ (by decide)) (hlm _ (by decide)) (hlit _ (by decide)) (by decide) ?_
  show ml _ _ _ (363, [(0, .ref m0)], [.ref M35.2.1, .ref m0], (va_up M35.1 M35.2.1 (some (.inl (.object "java/lang/String", 10, (va_up (va_up (va_up (va_up (va_up (va_up (va_up (va_up (va_up (va_up (fun _ => some .null) (Int32.toNatClampNeg 0) (some (.ref (g.2.1 15)))) (Int32.toNatClampNeg 1) (some (.ref (g.2.1 16)))) (Int32.toNatClampNeg 2) (some (.ref (g.2.1 17)))) (Int32.toNatClampNeg 3) (some (.ref (g.2.1 18)))) (Int32.toNatClampNeg 4) (some (.ref (g.2.1 19)))) (Int32.toNatClampNeg 5) (some (.ref (g.2.1 20)))) (Int32.toNatClampNeg 6) (some (.ref (g.2.1 21)))) (Int32.toNatClampNeg 7) (some (.ref (g.2.1 22)))) (Int32.toNatClampNeg 8) (some (.ref (g.2.1 23)))) (Int32.toNatClampNeg 9) (some (.ref (g.2.1 24))))))), M35.2.1 + 1, M35.2.2 + 10)) _
  refine rb_put (j := 62) (w := 10) hB35 rfl (by decide) (by decide) rfl rfl (fun M36 hB36 => ?_)
  show ml _ _ _ (366, [(0, .ref m0)], [], M36) _
  refine ml_blk 3 (S' := (371, [(0, .ref m0)], [.ref M36.2.1, .ref m0], (va_up M36.1 M36.2.1 (some (.inl (.int, 10, (fun _ => some (.int 0))))), M36.2.1 + 1, M36.2.2 + 10))) rfl ?_
  refine ml_blk 3 (S' := (374, [(0, .ref m0)], [.int 1, .int 0, .ref M36.2.1, .ref M36.2.1, .ref m0], (va_up M36.1 M36.2.1 (some (.inl (.int, 10, (fun _ => some (.int 0))))), M36.2.1 + 1, M36.2.2 + 10))) rfl ?_
  refine rb_ast rfl (by decide) ?_
  show ml _ _ _ (375, [(0, .ref m0)], [.ref M36.2.1, .ref m0], (va_up M36.1 M36.2.1 (some (.inl (.int, 10, (va_up (fun _ => some (.int 0)) (Int32.toNatClampNeg 0) (some (.int 1)))))), M36.2.1 + 1, M36.2.2 + 10)) _
  refine ml_blk 3 (S' := (378, [(0, .ref m0)], [.int 2, .int 1, .ref M36.2.1, .ref M36.2.1, .ref m0], (va_up M36.1 M36.2.1 (some (.inl (.int, 10, (va_up (fun _ => some (.int 0)) (Int32.toNatClampNeg 0) (some (.int 1)))))), M36.2.1 + 1, M36.2.2 + 10))) rfl ?_
  refine rb_ast rfl (by decide) ?_
  show ml _ _ _ (379, [(0, .ref m0)], [.ref M36.2.1, .ref m0], (va_up M36.1 M36.2.1 (some (.inl (.int, 10, (va_up (va_up (fun _ => some (.int 0)) (Int32.toNatClampNeg 0) (some (.int 1))) (Int32.toNatClampNeg 1) (some (.int 2)))))), M36.2.1 + 1, M36.2.2 + 10)) _
  refine ml_blk 3 (S' := (382, [(0, .ref m0)], [.int 2, .int 2, .ref M36.2.1, .ref M36.2.1, .ref m0], (va_up M36.1 M36.2.1 (some (.inl (.int, 10, (va_up (va_up (fun _ => some (.int 0)) (Int32.toNatClampNeg 0) (some (.int 1))) (Int32.toNatClampNeg 1) (some (.int 2)))))), M36.2.1 + 1, M36.2.2 + 10))) rfl ?_
  refine rb_ast rfl (by decide) ?_
  show ml _ _ _ (383, [(0, .ref m0)], [.ref M36.2.1, .ref m0], (va_up M36.1 M36.2.1 (some (.inl (.int, 10, (va_up (va_up (va_up (fun _ => some (.int 0)) (Int32.toNatClampNeg 0) (some (.int 1))) (Int32.toNatClampNeg 1) (some (.int 2))) (Int32.toNatClampNeg 2) (some (.int 2)))))), M36.2.1 + 1, M36.2.2 + 10)) _
  refine ml_blk 3 (S' := (386, [(0, .ref m0)], [.int 3, .int 3, .ref M36.2.1, .ref M36.2.1, .ref m0], (va_up M36.1 M36.2.1 (some (.inl (.int, 10, (va_up (va_up (va_up (fun _ => some (.int 0)) (Int32.toNatClampNeg 0) (some (.int 1))) (Int32.toNatClampNeg 1) (some (.int 2))) (Int32.toNatClampNeg 2) (some (.int 2)))))), M36.2.1 + 1, M36.2.2 + 10))) rfl ?_
  refine rb_ast rfl (by decide) ?_
  show ml _ _ _ (387, [(0, .ref m0)], [.ref M36.2.1, .ref m0], (va_up M36.1 M36.2.1 (some (.inl (.int, 10, (va_up (va_up (va_up (va_up (fun _ => some (.int 0)) (Int32.toNatClampNeg 0) (some (.int 1))) (Int32.toNatClampNeg 1) (some (.int 2))) (Int32.toNatClampNeg 2) (some (.int 2))) (Int32.toNatClampNeg 3) (some (.int 3)))))), M36.2.1 + 1, M36.2.2 + 10)) _
  refine ml_blk 3 (S' := (390, [(0, .ref m0)], [.int 4, .int 4, .ref M36.2.1, .ref M36.2.1, .ref m0], (va_up M36.1 M36.2.1 (some (.inl (.int, 10, (va_up (va_up (va_up (va_up (fun _ => some (.int 0)) (Int32.toNatClampNeg 0) (some (.int 1))) (Int32.toNatClampNeg 1) (some (.int 2))) (Int32.toNatClampNeg 2) (some (.int 2))) (Int32.toNatClampNeg 3) (some (.int 3)))))), M36.2.1 + 1, M36.2.2 + 10))) rfl ?_
  refine rb_ast rfl (by decide) ?_
  show ml _ _ _ (391, [(0, .ref m0)], [.ref M36.2.1, .ref m0], (va_up M36.1 M36.2.1 (some (.inl (.int, 10, (va_up (va_up (va_up (va_up (va_up (fun _ => some (.int 0)) (Int32.toNatClampNeg 0) (some (.int 1))) (Int32.toNatClampNeg 1) (some (.int 2))) (Int32.toNatClampNeg 2) (some (.int 2))) (Int32.toNatClampNeg 3) (some (.int 3))) (Int32.toNatClampNeg 4) (some (.int 4)))))), M36.2.1 + 1, M36.2.2 + 10)) _
  refine ml_blk 3 (S' := (394, [(0, .ref m0)], [.int 4, .int 5, .ref M36.2.1, .ref M36.2.1, .ref m0], (va_up M36.1 M36.2.1 (some (.inl (.int, 10, (va_up (va_up (va_up (va_up (va_up (fun _ => some (.int 0)) (Int32.toNatClampNeg 0) (some (.int 1))) (Int32.toNatClampNeg 1) (some (.int 2))) (Int32.toNatClampNeg 2) (some (.int 2))) (Int32.toNatClampNeg 3) (some (.int 3))) (Int32.toNatClampNeg 4) (some (.int 4)))))), M36.2.1 + 1, M36.2.2 + 10))) rfl ?_
  refine rb_ast rfl (by decide) ?_
  show ml _ _ _ (395, [(0, .ref m0)], [.ref M36.2.1, .ref m0], (va_up M36.1 M36.2.1 (some (.inl (.int, 10, (va_up (va_up (va_up (va_up (va_up (va_up (fun _ => some (.int 0)) (Int32.toNatClampNeg 0) (some (.int 1))) (Int32.toNatClampNeg 1) (some (.int 2))) (Int32.toNatClampNeg 2) (some (.int 2))) (Int32.toNatClampNeg 3) (some (.int 3))) (Int32.toNatClampNeg 4) (some (.int 4))) (Int32.toNatClampNeg 5) (some (.int 4)))))), M36.2.1 + 1, M36.2.2 + 10)) _
  refine ml_blk 3 (S' := (399, [(0, .ref m0)], [.int 4, .int 6, .ref M36.2.1, .ref M36.2.1, .ref m0], (va_up M36.1 M36.2.1 (some (.inl (.int, 10, (va_up (va_up (va_up (va_up (va_up (va_up (fun _ => some (.int 0)) (Int32.toNatClampNeg 0) (some (.int 1))) (Int32.toNatClampNeg 1) (some (.int 2))) (Int32.toNatClampNeg 2) (some (.int 2))) (Int32.toNatClampNeg 3) (some (.int 3))) (Int32.toNatClampNeg 4) (some (.int 4))) (Int32.toNatClampNeg 5) (some (.int 4)))))), M36.2.1 + 1, M36.2.2 + 10))) rfl ?_
  refine rb_ast rfl (by decide) ?_
  show ml _ _ _ (400, [(0, .ref m0)], [.ref M36.2.1, .ref m0], (va_up M36.1 M36.2.1 (some (.inl (.int, 10, (va_up (va_up (va_up (va_up (va_up (va_up (va_up (fun _ => some (.int 0)) (Int32.toNatClampNeg 0) (some (.int 1))) (Int32.toNatClampNeg 1) (some (.int 2))) (Int32.toNatClampNeg 2) (some (.int 2))) (Int32.toNatClampNeg 3) (some (.int 3))) (Int32.toNatClampNeg 4) (some (.int 4))) (Int32.toNatClampNeg 5) (some (.int 4))) (Int32.toNatClampNeg 6) (some (.int 4)))))), M36.2.1 + 1, M36.2.2 + 10)) _
  refine ml_blk 3 (S' := (404, [(0, .ref m0)], [.int 4, .int 7, .ref M36.2.1, .ref M36.2.1, .ref m0], (va_up M36.1 M36.2.1 (some (.inl (.int, 10, (va_up (va_up (va_up (va_up (va_up (va_up (va_up (fun _ => some (.int 0)) (Int32.toNatClampNeg 0) (some (.int 1))) (Int32.toNatClampNeg 1) (some (.int 2))) (Int32.toNatClampNeg 2) (some (.int 2))) (Int32.toNatClampNeg 3) (some (.int 3))) (Int32.toNatClampNeg 4) (some (.int 4))) (Int32.toNatClampNeg 5) (some (.int 4))) (Int32.toNatClampNeg 6) (some (.int 4)))))), M36.2.1 + 1, M36.2.2 + 10))) rfl ?_
  refine rb_ast rfl (by decide) ?_
  show ml _ _ _ (405, [(0, .ref m0)], [.ref M36.2.1, .ref m0], (va_up M36.1 M36.2.1 (some (.inl (.int, 10, (va_up (va_up (va_up (va_up (va_up (va_up (va_up (va_up (fun _ => some (.int 0)) (Int32.toNatClampNeg 0) (some (.int 1))) (Int32.toNatClampNeg 1) (some (.int 2))) (Int32.toNatClampNeg 2) (some (.int 2))) (Int32.toNatClampNeg 3) (some (.int 3))) (Int32.toNatClampNeg 4) (some (.int 4))) (Int32.toNatClampNeg 5) (some (.int 4))) (Int32.toNatClampNeg 6) (some (.int 4))) (Int32.toNatClampNeg 7) (some (.int 4)))))), M36.2.1 + 1, M36.2.2 + 10)) _
  refine ml_blk 3 (S' := (409, [(0, .ref m0)], [.int 4, .int 8, .ref M36.2.1, .ref M36.2.1, .ref m0], (va_up M36.1 M36.2.1 (some (.inl (.int, 10, (va_up (va_up (va_up (va_up (va_up (va_up (va_up (va_up (fun _ => some (.int 0)) (Int32.toNatClampNeg 0) (some (.int 1))) (Int32.toNatClampNeg 1) (some (.int 2))) (Int32.toNatClampNeg 2) (some (.int 2))) (Int32.toNatClampNeg 3) (some (.int 3))) (Int32.toNatClampNeg 4) (some (.int 4))) (Int32.toNatClampNeg 5) (some (.int 4))) (Int32.toNatClampNeg 6) (some (.int 4))) (Int32.toNatClampNeg 7) (some (.int 4)))))), M36.2.1 + 1, M36.2.2 + 10))) rfl ?_
  refine rb_ast rfl (by decide) ?_
  show ml _ _ _ (410, [(0, .ref m0)], [.ref M36.2.1, .ref m0], (va_up M36.1 M36.2.1 (some (.inl (.int, 10, (va_up (va_up (va_up (va_up (va_up (va_up (va_up (va_up (va_up (fun _ => some (.int 0)) (Int32.toNatClampNeg 0) (some (.int 1))) (Int32.toNatClampNeg 1) (some (.int 2))) (Int32.toNatClampNeg 2) (some (.int 2))) (Int32.toNatClampNeg 3) (some (.int 3))) (Int32.toNatClampNeg 4) (some (.int 4))) (Int32.toNatClampNeg 5) (some (.int 4))) (Int32.toNatClampNeg 6) (some (.int 4))) (Int32.toNatClampNeg 7) (some (.int 4))) (Int32.toNatClampNeg 8) (some (.int 4)))))), M36.2.1 + 1, M36.2.2 + 10)) _
  refine ml_blk 3 (S' := (414, [(0, .ref m0)], [.int 4, .int 9, .ref M36.2.1, .ref M36.2.1, .ref m0], (va_up M36.1 M36.2.1 (some (.inl (.int, 10, (va_up (va_up (va_up (va_up (va_up (va_up (va_up (va_up (va_up (fun _ => some (.int 0)) (Int32.toNatClampNeg 0) (some (.int 1))) (Int32.toNatClampNeg 1) (some (.int 2))) (Int32.toNatClampNeg 2) (some (.int 2))) (Int32.toNatClampNeg 3) (some (.int 3))) (Int32.toNatClampNeg 4) (some (.int 4))) (Int32.toNatClampNeg 5) (some (.int 4))) (Int32.toNatClampNeg 6) (some (.int 4))) (Int32.toNatClampNeg 7) (some (.int 4))) (Int32.toNatClampNeg 8) (some (.int 4)))))), M36.2.1 + 1, M36.2.2 + 10))) rfl ?_
  refine rb_ast rfl (by decide) ?_
  show ml _ _ _ (415, [(0, .ref m0)], [.ref M36.2.1, .ref m0], (va_up M36.1 M36.2.1 (some (.inl (.int, 10, (va_up (va_up (va_up (va_up (va_up (va_up (va_up (va_up (va_up (va_up (fun _ => some (.int 0)) (Int32.toNatClampNeg 0) (some (.int 1))) (Int32.toNatClampNeg 1) (some (.int 2))) (Int32.toNatClampNeg 2) (some (.int 2))) (Int32.toNatClampNeg 3) (some (.int 3))) (Int32.toNatClampNeg 4) (some (.int 4))) (Int32.toNatClampNeg 5) (some (.int 4))) (Int32.toNatClampNeg 6) (some (.int 4))) (Int32.toNatClampNeg 7) (some (.int 4))) (Int32.toNatClampNeg 8) (some (.int 4))) (Int32.toNatClampNeg 9) (some (.int 4)))))), M36.2.1 + 1, M36.2.2 + 10)) _
  refine rb_put (j := 63) (w := 10) hB36 rfl (by decide) (by decide) rfl rfl (fun M37 hB37 => ?_)
  show ml _ _ _ (418, [(0, .ref m0)], [], M37) _
  refine ml_blk 3 (S' := (423, [(0, .ref m0)], [.ref M37.2.1, .ref m0], (va_up M37.1 M37.2.1 (some (.inl (.int, 10, (fun _ => some (.int 0))))), M37.2.1 + 1, M37.2.2 + 10))) rfl ?_
  refine ml_blk 3 (S' := (426, [(0, .ref m0)], [.int 0, .int 0, .ref M37.2.1, .ref M37.2.1, .ref m0], (va_up M37.1 M37.2.1 (some (.inl (.int, 10, (fun _ => some (.int 0))))), M37.2.1 + 1, M37.2.2 + 10))) rfl ?_
  refine rb_ast rfl (by decide) ?_
  show ml _ _ _ (427, [(0, .ref m0)], [.ref M37.2.1, .ref m0], (va_up M37.1 M37.2.1 (some (.inl (.int, 10, (va_up (fun _ => some (.int 0)) (Int32.toNatClampNeg 0) (some (.int 0)))))), M37.2.1 + 1, M37.2.2 + 10)) _
  refine ml_blk 3 (S' := (430, [(0, .ref m0)], [.int 0, .int 1, .ref M37.2.1, .ref M37.2.1, .ref m0], (va_up M37.1 M37.2.1 (some (.inl (.int, 10, (va_up (fun _ => some (.int 0)) (Int32.toNatClampNeg 0) (some (.int 0)))))), M37.2.1 + 1, M37.2.2 + 10))) rfl ?_
  refine rb_ast rfl (by decide) ?_
  show ml _ _ _ (431, [(0, .ref m0)], [.ref M37.2.1, .ref m0], (va_up M37.1 M37.2.1 (some (.inl (.int, 10, (va_up (va_up (fun _ => some (.int 0)) (Int32.toNatClampNeg 0) (some (.int 0))) (Int32.toNatClampNeg 1) (some (.int 0)))))), M37.2.1 + 1, M37.2.2 + 10)) _
  refine ml_blk 3 (S' := (434, [(0, .ref m0)], [.int 0, .int 2, .ref M37.2.1, .ref M37.2.1, .ref m0], (va_up M37.1 M37.2.1 (some (.inl (.int, 10, (va_up (va_up (fun _ => some (.int 0)) (Int32.toNatClampNeg 0) (some (.int 0))) (Int32.toNatClampNeg 1) (some (.int 0)))))), M37.2.1 + 1, M37.2.2 + 10))) rfl ?_
  refine rb_ast rfl (by decide) ?_
  show ml _ _ _ (435, [(0, .ref m0)], [.ref M37.2.1, .ref m0], (va_up M37.1 M37.2.1 (some (.inl (.int, 10, (va_up (va_up (va_up (fun _ => some (.int 0)) (Int32.toNatClampNeg 0) (some (.int 0))) (Int32.toNatClampNeg 1) (some (.int 0))) (Int32.toNatClampNeg 2) (some (.int 0)))))), M37.2.1 + 1, M37.2.2 + 10)) _
  refine ml_blk 3 (S' := (439, [(0, .ref m0)], [.int 50, .int 3, .ref M37.2.1, .ref M37.2.1, .ref m0], (va_up M37.1 M37.2.1 (some (.inl (.int, 10, (va_up (va_up (va_up (fun _ => some (.int 0)) (Int32.toNatClampNeg 0) (some (.int 0))) (Int32.toNatClampNeg 1) (some (.int 0))) (Int32.toNatClampNeg 2) (some (.int 0)))))), M37.2.1 + 1, M37.2.2 + 10))) rfl ?_
  refine rb_ast rfl (by decide) ?_
  show ml _ _ _ (440, [(0, .ref m0)], [.ref M37.2.1, .ref m0], (va_up M37.1 M37.2.1 (some (.inl (.int, 10, (va_up (va_up (va_up (va_up (fun _ => some (.int 0)) (Int32.toNatClampNeg 0) (some (.int 0))) (Int32.toNatClampNeg 1) (some (.int 0))) (Int32.toNatClampNeg 2) (some (.int 0))) (Int32.toNatClampNeg 3) (some (.int 50)))))), M37.2.1 + 1, M37.2.2 + 10)) _
  refine ml_blk 3 (S' := (443, [(0, .ref m0)], [.int 0, .int 4, .ref M37.2.1, .ref M37.2.1, .ref m0], (va_up M37.1 M37.2.1 (some (.inl (.int, 10, (va_up (va_up (va_up (va_up (fun _ => some (.int 0)) (Int32.toNatClampNeg 0) (some (.int 0))) (Int32.toNatClampNeg 1) (some (.int 0))) (Int32.toNatClampNeg 2) (some (.int 0))) (Int32.toNatClampNeg 3) (some (.int 50)))))), M37.2.1 + 1, M37.2.2 + 10))) rfl ?_
  refine rb_ast rfl (by decide) ?_
  show ml _ _ _ (444, [(0, .ref m0)], [.ref M37.2.1, .ref m0], (va_up M37.1 M37.2.1 (some (.inl (.int, 10, (va_up (va_up (va_up (va_up (va_up (fun _ => some (.int 0)) (Int32.toNatClampNeg 0) (some (.int 0))) (Int32.toNatClampNeg 1) (some (.int 0))) (Int32.toNatClampNeg 2) (some (.int 0))) (Int32.toNatClampNeg 3) (some (.int 50))) (Int32.toNatClampNeg 4) (some (.int 0)))))), M37.2.1 + 1, M37.2.2 + 10)) _
  refine ml_blk 3 (S' := (448, [(0, .ref m0)], [.int 51, .int 5, .ref M37.2.1, .ref M37.2.1, .ref m0], (va_up M37.1 M37.2.1 (some (.inl (.int, 10, (va_up (va_up (va_up (va_up (va_up (fun _ => some (.int 0)) (Int32.toNatClampNeg 0) (some (.int 0))) (Int32.toNatClampNeg 1) (some (.int 0))) (Int32.toNatClampNeg 2) (some (.int 0))) (Int32.toNatClampNeg 3) (some (.int 50))) (Int32.toNatClampNeg 4) (some (.int 0)))))), M37.2.1 + 1, M37.2.2 + 10))) rfl ?_
  refine rb_ast rfl (by decide) ?_
  show ml _ _ _ (449, [(0, .ref m0)], [.ref M37.2.1, .ref m0], (va_up M37.1 M37.2.1 (some (.inl (.int, 10, (va_up (va_up (va_up (va_up (va_up (va_up (fun _ => some (.int 0)) (Int32.toNatClampNeg 0) (some (.int 0))) (Int32.toNatClampNeg 1) (some (.int 0))) (Int32.toNatClampNeg 2) (some (.int 0))) (Int32.toNatClampNeg 3) (some (.int 50))) (Int32.toNatClampNeg 4) (some (.int 0))) (Int32.toNatClampNeg 5) (some (.int 51)))))), M37.2.1 + 1, M37.2.2 + 10)) _
  refine ml_blk 3 (S' := (454, [(0, .ref m0)], [.int 55, .int 6, .ref M37.2.1, .ref M37.2.1, .ref m0], (va_up M37.1 M37.2.1 (some (.inl (.int, 10, (va_up (va_up (va_up (va_up (va_up (va_up (fun _ => some (.int 0)) (Int32.toNatClampNeg 0) (some (.int 0))) (Int32.toNatClampNeg 1) (some (.int 0))) (Int32.toNatClampNeg 2) (some (.int 0))) (Int32.toNatClampNeg 3) (some (.int 50))) (Int32.toNatClampNeg 4) (some (.int 0))) (Int32.toNatClampNeg 5) (some (.int 51)))))), M37.2.1 + 1, M37.2.2 + 10))) rfl ?_
  refine rb_ast rfl (by decide) ?_
  show ml _ _ _ (455, [(0, .ref m0)], [.ref M37.2.1, .ref m0], (va_up M37.1 M37.2.1 (some (.inl (.int, 10, (va_up (va_up (va_up (va_up (va_up (va_up (va_up (fun _ => some (.int 0)) (Int32.toNatClampNeg 0) (some (.int 0))) (Int32.toNatClampNeg 1) (some (.int 0))) (Int32.toNatClampNeg 2) (some (.int 0))) (Int32.toNatClampNeg 3) (some (.int 50))) (Int32.toNatClampNeg 4) (some (.int 0))) (Int32.toNatClampNeg 5) (some (.int 51))) (Int32.toNatClampNeg 6) (some (.int 55)))))), M37.2.1 + 1, M37.2.2 + 10)) _
  refine ml_blk 3 (S' := (460, [(0, .ref m0)], [.int 55, .int 7, .ref M37.2.1, .ref M37.2.1, .ref m0], (va_up M37.1 M37.2.1 (some (.inl (.int, 10, (va_up (va_up (va_up (va_up (va_up (va_up (va_up (fun _ => some (.int 0)) (Int32.toNatClampNeg 0) (some (.int 0))) (Int32.toNatClampNeg 1) (some (.int 0))) (Int32.toNatClampNeg 2) (some (.int 0))) (Int32.toNatClampNeg 3) (some (.int 50))) (Int32.toNatClampNeg 4) (some (.int 0))) (Int32.toNatClampNeg 5) (some (.int 51))) (Int32.toNatClampNeg 6) (some (.int 55)))))), M37.2.1 + 1, M37.2.2 + 10))) rfl ?_
  refine rb_ast rfl (by decide) ?_
  show ml _ _ _ (461, [(0, .ref m0)], [.ref M37.2.1, .ref m0], (va_up M37.1 M37.2.1 (some (.inl (.int, 10, (va_up (va_up (va_up (va_up (va_up (va_up (va_up (va_up (fun _ => some (.int 0)) (Int32.toNatClampNeg 0) (some (.int 0))) (Int32.toNatClampNeg 1) (some (.int 0))) (Int32.toNatClampNeg 2) (some (.int 0))) (Int32.toNatClampNeg 3) (some (.int 50))) (Int32.toNatClampNeg 4) (some (.int 0))) (Int32.toNatClampNeg 5) (some (.int 51))) (Int32.toNatClampNeg 6) (some (.int 55))) (Int32.toNatClampNeg 7) (some (.int 55)))))), M37.2.1 + 1, M37.2.2 + 10)) _
  refine ml_blk 3 (S' := (466, [(0, .ref m0)], [.int 60, .int 8, .ref M37.2.1, .ref M37.2.1, .ref m0], (va_up M37.1 M37.2.1 (some (.inl (.int, 10, (va_up (va_up (va_up (va_up (va_up (va_up (va_up (va_up (fun _ => some (.int 0)) (Int32.toNatClampNeg 0) (some (.int 0))) (Int32.toNatClampNeg 1) (some (.int 0))) (Int32.toNatClampNeg 2) (some (.int 0))) (Int32.toNatClampNeg 3) (some (.int 50))) (Int32.toNatClampNeg 4) (some (.int 0))) (Int32.toNatClampNeg 5) (some (.int 51))) (Int32.toNatClampNeg 6) (some (.int 55))) (Int32.toNatClampNeg 7) (some (.int 55)))))), M37.2.1 + 1, M37.2.2 + 10))) rfl ?_
  refine rb_ast rfl (by decide) ?_
  show ml _ _ _ (467, [(0, .ref m0)], [.ref M37.2.1, .ref m0], (va_up M37.1 M37.2.1 (some (.inl (.int, 10, (va_up (va_up (va_up (va_up (va_up (va_up (va_up (va_up (va_up (fun _ => some (.int 0)) (Int32.toNatClampNeg 0) (some (.int 0))) (Int32.toNatClampNeg 1) (some (.int 0))) (Int32.toNatClampNeg 2) (some (.int 0))) (Int32.toNatClampNeg 3) (some (.int 50))) (Int32.toNatClampNeg 4) (some (.int 0))) (Int32.toNatClampNeg 5) (some (.int 51))) (Int32.toNatClampNeg 6) (some (.int 55))) (Int32.toNatClampNeg 7) (some (.int 55))) (Int32.toNatClampNeg 8) (some (.int 60)))))), M37.2.1 + 1, M37.2.2 + 10)) _
  refine ml_blk 3 (S' := (472, [(0, .ref m0)], [.int 61, .int 9, .ref M37.2.1, .ref M37.2.1, .ref m0], (va_up M37.1 M37.2.1 (some (.inl (.int, 10, (va_up (va_up (va_up (va_up (va_up (va_up (va_up (va_up (va_up (fun _ => some (.int 0)) (Int32.toNatClampNeg 0) (some (.int 0))) (Int32.toNatClampNeg 1) (some (.int 0))) (Int32.toNatClampNeg 2) (some (.int 0))) (Int32.toNatClampNeg 3) (some (.int 50))) (Int32.toNatClampNeg 4) (some (.int 0))) (Int32.toNatClampNeg 5) (some (.int 51))) (Int32.toNatClampNeg 6) (some (.int 55))) (Int32.toNatClampNeg 7) (some (.int 55))) (Int32.toNatClampNeg 8) (some (.int 60)))))), M37.2.1 + 1, M37.2.2 + 10))) rfl ?_
  refine rb_ast rfl (by decide) ?_
  show ml _ _ _ (473, [(0, .ref m0)], [.ref M37.2.1, .ref m0], (va_up M37.1 M37.2.1 (some (.inl (.int, 10, (va_up (va_up (va_up (va_up (va_up (va_up (va_up (va_up (va_up (va_up (fun _ => some (.int 0)) (Int32.toNatClampNeg 0) (some (.int 0))) (Int32.toNatClampNeg 1) (some (.int 0))) (Int32.toNatClampNeg 2) (some (.int 0))) (Int32.toNatClampNeg 3) (some (.int 50))) (Int32.toNatClampNeg 4) (some (.int 0))) (Int32.toNatClampNeg 5) (some (.int 51))) (Int32.toNatClampNeg 6) (some (.int 55))) (Int32.toNatClampNeg 7) (some (.int 55))) (Int32.toNatClampNeg 8) (some (.int 60))) (Int32.toNatClampNeg 9) (some (.int 61)))))), M37.2.1 + 1, M37.2.2 + 10)) _
  refine rb_put (j := 64) (w := 10) hB37 rfl (by decide) (by decide) rfl rfl (fun M38 hB38 => ?_)
  show ml _ _ _ (476, [(0, .ref m0)], [], M38) _
  refine ml_blk 2 (S' := (478, [(0, .ref m0)], [.int (-1), .ref m0], M38)) rfl ?_
  refine rb_int hB38 (by decide) (by decide) rfl rfl (fun M39 hB39 => ?_)
  show ml _ _ _ (481, [(0, .ref m0)], [], M39) _
  refine ml_blk 2 (S' := (483, [(0, .ref m0)], [.int (-1), .ref m0], M39)) rfl ?_
  refine rb_int hB39 (by decide) (by decide) rfl rfl (fun M40 hB40 => ?_)
  show ml _ _ _ (486, [(0, .ref m0)], [], M40) _
  refine ml_blk 3 (S' := (491, [(0, .ref m0)], [.ref M40.2.1, .ref m0], (va_up M40.1 M40.2.1 (some (.inl (.int, 65540, (fun _ => some (.int 0))))), M40.2.1 + 1, M40.2.2 + 65540))) rfl ?_
  refine rb_put (j := 80) (w := 65540) hB40 rfl (by decide) (by decide) rfl rfl (fun M41 hB41 => ?_)
  show ml _ _ _ (494, [(0, .ref m0)], [], M41) _
  refine ml_blk 3 (S' := (499, [(0, .ref m0)], [.ref M41.2.1, .ref m0], (va_up M41.1 M41.2.1 (some (.inl (.int, 65540, (fun _ => some (.int 0))))), M41.2.1 + 1, M41.2.2 + 65540))) rfl ?_
  refine rb_put (j := 81) (w := 65540) hB41 rfl (by decide) (by decide) rfl rfl (fun M42 hB42 => ?_)
  show ml _ _ _ (502, [(0, .ref m0)], [], M42) _
  exact hk _ hB42
end MIB5
end
section
/-! the reference: how its constructor ends (my own text) -/
section MIB6
def qf (a0 k : Nat) : Nat := a0 + LL.idxOf k
def l63 : List Int32 := [1, 2, 2, 3, 4, 4, 4, 4, 4, 4]
def l64 : List Int32 := [0, 0, 0, 50, 0, 51, 55, 55, 60, 61]
def R09 : rR := fun k i => if k = 63 then some (l63.getD i 0) else if k = 64 then some (l64.getD i 0) else some 0
theorem ll_at' : ∀ k, k < 82 → rx k = true → LL[LL.idxOf k]? = some k := by decide
theorem ll_at {k : Nat} (h : rx k = true) : LL[LL.idxOf k]? = some k := ll_at' k (rx_lt h) h
theorem ll_inj {j k : Nat} (hj : rx j = true) (hk : rx k = true) (e : LL.idxOf j = LL.idxOf k) : j = k := by
  have h1 := ll_at hj
  rw [e, ll_at hk] at h1
  cases h1
  rfl
variable {g : xe_G} {m0 a0 s : Nat} {M0 M : mi_H}
def wk (g : xe_G) (a0 : Nat) (M : mi_H) : mi_H := (va_up M.1 (qf a0 62) (some (.inl (.object "java/lang/String", 10, fun i => (knl[i]?).map (fun j => Value.ref (g.2.1 j))))), M.2)
theorem cc_63 : CC g 63 = .inl (.int, 10, fun i => (R09 63 i).map Value.int) := by
  show Sum.inl (FieldType.int, 10, _) = _
  congr 3
  funext i
  match i with
  | 0 => rfl
  | 1 => rfl
  | 2 => rfl
  | 3 => rfl
  | 4 => rfl
  | 5 => rfl
  | 6 => rfl
  | 7 => rfl
  | 8 => rfl
  | 9 => rfl
  | n + 10 => simp [va_up, R09, l63, Int32.toNatClampNeg]
theorem cc_64 : CC g 64 = .inl (.int, 10, fun i => (R09 64 i).map Value.int) := by
  show Sum.inl (FieldType.int, 10, _) = _
  congr 3
  funext i
  match i with
  | 0 => rfl
  | 1 => rfl
  | 2 => rfl
  | 3 => rfl
  | 4 => rfl
  | 5 => rfl
  | 6 => rfl
  | 7 => rfl
  | 8 => rfl
  | 9 => rfl
  | n + 10 => simp [va_up, R09, l64, Int32.toNatClampNeg]
theorem cc_row {k : Nat} {t : FieldType × Nat} (h : rt k = some t) : CC g k = .inl (t.1, t.2, fun i => (R09 k i).map Value.int) := by
  by_cases e3 : k = 63
  · subst e3
    cases h
    exact cc_63
  by_cases e4 : k = 64
  · subst e4
    cases h
    exact cc_64
  unfold CC R09
  rw [if_neg (rt_62 h), if_neg e3, if_neg e4, h]
  simp only [if_neg e3, if_neg e4]
  rfl
theorem wk_RS (hB : BS m0 a0 (CC g) LL I09 M0 M s) (hlt : ∀ k, rlk k → g.2.1 k < a0) (hlm : ∀ k, rlk k → g.2.1 k ≠ m0) (hlit : ∀ k, rlk k → ∃ f, M0.1 (g.2.1 k) = some (.inr (100 + k, f))) : RS g m0 (qf a0) M.2 I09 R09 (wk g a0 M) := by
  obtain ⟨⟨F, hF, hF1, hF2⟩, hr, ho, hz, hm⟩ := hB
  refine ⟨?_, fun k t ht => ?_, ?_, fun j k hj hk e => ?_, rfl, fun k hk => ?_⟩
  · show va_up M.1 (qf a0 62) _ m0 = _
    rw [va_up, if_neg (by unfold qf; omega), hF]
    congr 3
    funext k
    unfold rfld
    cases hx : rx k with
    | true => exact hF1 _ k (ll_at hx)
    | false => exact hF2 k hx
  · show va_up M.1 (qf a0 62) _ (qf a0 k) = _
    rw [va_up, if_neg (fun e => rt_62 ht (ll_inj (rt_rx ht) rx_62 (by unfold qf at e; omega)))]
    rw [show M.1 (qf a0 k) = some (CC g k) from hr _ k (ll_at (rt_rx ht)), cc_row ht]
  · show va_up M.1 (qf a0 62) _ (qf a0 62) = _
    rw [va_up, if_pos rfl]
  · exact ll_inj hj hk (by unfold qf at e; omega)
  · have h1 := hlt k hk
    obtain ⟨f, h2⟩ := hlit k hk
    refine ⟨f, ?_⟩
    show va_up M.1 (qf a0 62) _ (g.2.1 k) = _
    rw [va_up, if_neg (by unfold qf; omega), ho _ h1 (hlm k hk)]
    exact h2
theorem wk_le (hB : BS m0 a0 (CC g) LL I09 M0 M s) : hle (wk g a0 M) M := by
  obtain ⟨-, hr, -⟩ := hB
  intro a c hc
  by_cases e : a = qf a0 62
  · subst e
    have h1 : va_up M.1 (qf a0 62) _ (qf a0 62) = some c := hc
    rw [va_up, if_pos rfl] at h1
    cases h1
    refine ⟨_, hr _ 62 (ll_at rx_62), rfl, rfl, fun i v h => ?_⟩
    match i, h with
    | 0, h => exact h
    | 1, h => exact h
    | 2, h => exact h
    | 3, h => exact h
    | 4, h => exact h
    | 5, h => exact h
    | 6, h => exact h
    | 7, h => exact h
    | 8, h => exact h
    | 9, h => exact h
    | n + 10, h =>
      exfalso
      have h2 : (knl[n + 10]?).map (fun j => Value.ref (g.2.1 j)) = some v := h
      simp [knl] at h2
  · have h1 : va_up M.1 (qf a0 62) _ a = some c := hc
    rw [va_up, if_neg e] at h1
    exact ⟨c, h1, cle.rf⟩
theorem KW09 : KW I09 R09 := by
  refine ⟨fun k h0 h1 => ?_, fun k h0 h1 => ⟨_, rfl⟩⟩
  have h : k.toInt = 0 ∨ k.toInt = 1 ∨ k.toInt = 2 ∨ k.toInt = 3 ∨ k.toInt = 4 ∨ k.toInt = 5 ∨ k.toInt = 6 ∨ k.toInt = 7 ∨ k.toInt = 8 ∨ k.toInt = 9 := by omega
  rcases h with h | h | h | h | h | h | h | h | h | h
  · rw [show k = 0 from Int32.toInt_inj.mp h]; decide
  · rw [show k = 1 from Int32.toInt_inj.mp h]; decide
  · rw [show k = 2 from Int32.toInt_inj.mp h]; decide
  · rw [show k = 3 from Int32.toInt_inj.mp h]; decide
  · rw [show k = 4 from Int32.toInt_inj.mp h]; decide
  · rw [show k = 5 from Int32.toInt_inj.mp h]; decide
  · rw [show k = 6 from Int32.toInt_inj.mp h]; decide
  · rw [show k = 7 from Int32.toInt_inj.mp h]; decide
  · rw [show k = 8 from Int32.toInt_inj.mp h]; decide
  · rw [show k = 9 from Int32.toInt_inj.mp h]; decide
theorem rm_init {F0 : Nat → Option Value} (h0 : M.1 m0 = some (.inr (12, F0))) (hF0 : ∀ k, rx k = false → F0 k = (I00 k).map Value.int) (hm : m0 < M.2.1) (hlt : ∀ k, rlk k → g.2.1 k < M.2.1) (hlm : ∀ k, rlk k → g.2.1 k ≠ m0) (hlit : ∀ k, rlk k → ∃ f, M.1 (g.2.1 k) = some (.inr (100 + k, f))) {d : Nat} (hd : 4 ≤ d) : mt (mT g) d 173 [.ref m0] M (fun v M' => v = none ∧ ∃ (I' : rI) (R' : rR) (M1 : mi_H), RS g m0 (qf M.2.1) M'.2 I' R' M1 ∧ hle M1 M' ∧ M'.2 = (M.2.1 + 39, M.2.2 + 898568) ∧ eqI [3, 8, 9, 10, 11, 20, 25, 26] I09 I' ∧ eqR [1, 2, 4, 5, 6, 7] R09 R' ∧ CLF I' R') := by
  obtain ⟨d, rfl⟩ : ∃ e, d = e + 1 := ⟨d - 1, by omega⟩
  refine mt_in (b := mb_173 g) rfl rfl ?_
  show ml (mT g) d (mb_173 g).2 (0, [(0, .ref m0)], [], M) _
  refine rm_rows (m0 := m0) (M := M) ⟨⟨F0, h0, fun p k hp => by simp at hp, hF0⟩, fun p k hp => by simp at hp, fun _ _ _ => rfl, rfl, hm⟩ hlt hlm hlit (fun M9 hB9 => ?_)
  have hRS := wk_RS hB9 hlt hlm hlit
  have hz : M9.2 = (M.2.1 + LL.length, _) := hB9.2.2.2.1
  obtain ⟨⟨F9, hF9, -, -⟩, -⟩ := id hB9
  refine ml_blk 1 (S' := (503, [(0, .ref m0)], [.ref m0], M9)) rfl ?_
  refine ml_call (a := [.ref m0]) (rest := []) rfl ?_ rfl rfl (mt.up (y := 195) (by decide) (rm_clear hRS (by omega)) (wk_le hB9)) (fun v M' h => ?_)
  · show mi_okc (some 12) 1 (503, [(0, .ref m0)], [.ref m0], M9) = true
    simp [mi_okc, hF9]
  · obtain ⟨M1, ⟨rfl, I', R', h1, h2, h3, h4⟩, h5, h6⟩ := h
    show ml _ _ _ (506, [(0, .ref m0)], [], M') _
    refine ml_ret rfl rfl ⟨rfl, I', R', M1, by rw [h6]; exact h1, h5, ?_, h2, h3, h4⟩
    rw [h6, hz]
    exact congr (congrArg Prod.mk rfl) (by omega)
end MIB6
end
section
/-! the reference: between calls (laid by wip/p2/c85.py) -/
section MIB7
def RK (g : xe_G) (m0 : Nat) (q : Nat → Nat) (kr : rR) (Ic : rI) (Rc : rR) (cc : Nat) (kn : Int32) (n : Nat) (f : Nat → Int32) (I : rI) (R : rR) : Prop :=
  I 49 = some 0 ∧ (∀ k, k ∈ [9, 47, 48, 73] → ∃ a, I k = some a) ∧ KW I R ∧ R 63 = kr 63 ∧ R 64 = kr 64 ∧ CAN g m0 q kr Ic Rc ∧ I 19 = some (nI cc) ∧ KB 15 cc R ∧ (∃ nf : Nat, nf ≤ 65540 ∧ I 17 = some (nI nf) ∧ KB 13 nf R) ∧ I 18 = some kn ∧ (kn < 0 ∨ KEP g m0 q Ic Rc n f kn R ∧ GD n f I R)
def RKI : List Nat := [9, 17, 18, 19, 47, 48, 49, 73, 3, 8, 16, 25, 26, 51, 52, 53, 54, 58, 61, 65, 66, 67, 68, 69, 70, 71, 72]
def RKR : List Nat := [13, 14, 15, 63, 64, 1, 4, 5, 12, 21, 22, 27, 28, 29, 30, 31, 32, 33, 34, 35, 36, 37, 38, 39, 40, 41, 42, 43, 44, 45, 46]
variable {g : xe_G} {m0 : Nat} {q : Nat → Nat} {z : Nat × Nat} {kr : rR} {Ic : rI} {Rc : rR} {cc : Nat} {kn co : Int32} {n : Nat} {f : Nat → Int32} {I I' : rI} {R R' : rR} {M : mi_H}
theorem RK.mono (h : RK g m0 q kr Ic Rc cc kn n f I R) (hI : ∀ k, k ∈ RKI → I' k = I k) (hR : ∀ k, k ∈ RKR → R' k = R k) : RK g m0 q kr Ic Rc cc kn n f I' R' := by
  obtain ⟨h49, hk, hK, h63, h64, hcan, h19, hb, ⟨nf, a1, a2, a3⟩, h18, hG⟩ := h
  refine ⟨(hI 49 (by decide)).trans h49, fun k hk2 => ?_, hK.mono (fun k hk => by cases hk) (fun k hk => hR k (by revert k; decide)), (hR 63 (by decide)).trans h63, (hR 64 (by decide)).trans h64, hcan, (hI 19 (by decide)).trans h19, hb.eq (hR 15 (by decide)), ⟨nf, a1, (hI 17 (by decide)).trans a2, a3.eq (hR 13 (by decide))⟩, (hI 18 (by decide)).trans h18, hG.imp id (fun ⟨b1, b2⟩ => ⟨⟨b1.1, b1.2.1, fun i hi => by rw [hR 14 (by decide)]; exact b1.2.2.1 i hi, b1.2.2.2⟩, b2.mono (fun k hk => hI k (by revert k; decide)) (fun k hk => hR k (by revert k; decide))⟩)⟩
  rw [hI k (by revert k; decide)]
  exact hk k hk2
/-- the reference between two calls: cc bytes have come -/
def REF (g : xe_G) (m0 : Nat) (q : Nat → Nat) (z : Nat × Nat) (kr : rR) (Ic : rI) (Rc : rR) (cc : Nat) (M : mi_H) : Prop := ∃ (I : rI) (R : rR) (kn co : Int32) (n : Nat) (f : Nat → Int32), RS g m0 q z I R M ∧ RK g m0 q kr Ic Rc cc kn n f I R ∧ I 74 = some co ∧ CUO f n co I R
theorem RK.gd (h : RK g m0 q kr Ic Rc cc kn n f I R) : kn < 0 ∨ GD n f I R := h.2.2.2.2.2.2.2.2.2.2.imp id (fun h => h.2)
theorem RK.k18 (h : RK g m0 q kr Ic Rc cc kn n f I R) : I 18 = some kn := h.2.2.2.2.2.2.2.2.2.1
theorem RK.k9 (h : RK g m0 q kr Ic Rc cc kn n f I R) {k : Nat} (hk : k ∈ [9, 47, 48, 73]) : ∃ a, I k = some a := h.2.1 k hk
theorem mt.imp {T : Nat → Option (Nat × mi_B)} {d y : Nat} {a : List Value} {Q Q' : Option Value → mi_H → Prop} (h : mt T d y a M Q) (k : ∀ v M', Q v M' → Q' v M') : mt T d y a M Q' := by
  obtain ⟨r, h1, h2⟩ := h
  exact ⟨r, h1, k _ _ h2⟩

end MIB7
end
section
/-! the reference: feed, end, read between calls (laid by wip/p2/c85.py) -/
section MIB8
variable {g : xe_G} {m0 : Nat} {q : Nat → Nat} {z : Nat × Nat} {kr : rR} {Ic : rI} {Rc : rR} {cc : Nat} {M : mi_H}
theorem rf_feed {x1 x2 x3 x4 x5 : Int32} (h : REF g m0 q z kr Ic Rc cc M) (hcc : cc + 20 ≤ 65540) {d : Nat} (hd : 2 ≤ d) : mt (mT g) d 205 [.ref m0, .int x1, .int x2, .int x3, .int x4, .int x5] M (fun v M' => v = some (.int (nI (cc + 20))) ∧ REF g m0 q z kr Ic Rc (cc + 20) M' ∧ ∃ I R, RS g m0 q z I R M' ∧ I 0 = some 0) := by
  obtain ⟨I, R, kn, co, n, f, hR, hK, h74, hQ⟩ := h
  refine (rm_feed hR hK.2.2.2.2.2.2.1 hcc hK.2.2.2.2.2.2.2.1 hd).imp (fun v M' hq => ?_)
  obtain ⟨x, I', R', rfl, h1, h2, h3, h4, h5, h6, h7⟩ := hq
  have e : cc + 4 + 4 + 4 + 4 + 4 = cc + 20 := by omega
  rw [e] at h4 h6 h7
  subst h4
  obtain ⟨h49, hk, hKw, h63, h64, hcan, h19, hb, ⟨nf, a1, a2, a3⟩, h18, hG⟩ := hK
  refine ⟨rfl, ⟨I', R', kn, co, n, f, h1, ⟨(h2 49 (by decide)).trans h49, fun k hk2 => ?_, hKw.mono (fun k hk => by cases hk) (cRx h3 (by decide)), (h3 63 (by decide)).trans h63, (h3 64 (by decide)).trans h64, hcan, h6, h7, ⟨nf, a1, (h2 17 (by decide)).trans a2, a3.eq (h3 13 (by decide))⟩, (h2 18 (by decide)).trans h18, hG.imp id (fun ⟨b1, b2⟩ => ⟨⟨b1.1, b1.2.1, fun i hi => by rw [h3 14 (by decide)]; exact b1.2.2.1 i hi, b1.2.2.2⟩, b2.mono (cIx h2 (by decide)) (cRx h3 (by decide))⟩)⟩, (h2 74 (by decide)).trans h74, hQ.mono (cIx h2 (by decide)) (cRx h3 (by decide))⟩, I', R', h1, h5⟩
  rw [h2 k (by revert k; decide)]
  exact hk k hk2
theorem rf_end {x1 : Int32} (h : REF g m0 q z kr Ic Rc cc M) (hcc : cc ≤ 65540) {d : Nat} (hd : 2 ≤ d) : mt (mT g) d 202 [.ref m0, .int x1] M (fun v M' => (∃ x : Int32, v = some (.int x)) ∧ (¬ (0 ≤ x1.toInt ∧ x1.toInt ≤ cc) ∧ REF g m0 q z kr Ic Rc cc M' ∧ (∃ I R, RS g m0 q z I R M' ∧ I 0 = some 1) ∨ (0 ≤ x1.toInt ∧ x1.toInt ≤ cc) ∧ REF g m0 q z kr Ic Rc 0 M' ∧ v = some (.int x1) ∧ ∃ I R, RS g m0 q z I R M' ∧ I 0 = some 0)) := by
  obtain ⟨I, R, kn, co, n, f, hR, hK, h74, hQ⟩ := h
  refine (rm_end hR hK.2.2.2.2.2.2.1 hcc hK.2.2.2.2.2.2.2.1 hd).imp (fun v M' hq => ?_)
  obtain ⟨x, I', R', rfl, h1, h2, h3, h4⟩ := hq
  refine ⟨⟨x, rfl⟩, ?_⟩
  obtain ⟨h49, hk, hKw, h63, h64, hcan, h19, hb, ⟨nf, a1, a2, a3⟩, h18, hG⟩ := hK
  have hk' : ∀ k, k ∈ [9, 47, 48, 73] → ∃ a, I' k = some a := fun k hk2 => by
    rw [h2 k (by revert k; decide)]
    exact hk k hk2
  have hG' : kn < 0 ∨ KEP g m0 q Ic Rc n f kn R' ∧ GD n f I' R' := hG.imp id (fun ⟨b1, b2⟩ => ⟨⟨b1.1, b1.2.1, fun i hi => by rw [h3 14 (by decide)]; exact b1.2.2.1 i hi, b1.2.2.2⟩, b2.mono (cIx h2 (by decide)) (cRx h3 (by decide))⟩)
  have hK' := hKw.mono (I' := I') (R' := R') (fun k hk => by cases hk) (cRx h3 (by decide))
  rcases h4 with ⟨b0, bt, b1, b2, b3⟩ | ⟨b0, b1, bx, bt, b2, b3, b4⟩
  · refine Or.inl ⟨b0, ?_, I', R', h1, bt⟩
    exact ⟨I', R', kn, co, n, f, h1, ⟨(h2 49 (by decide)).trans h49, hk', hK', (h3 63 (by decide)).trans h63, (h3 64 (by decide)).trans h64, hcan, b2.trans h19, hb.eq (h3 15 (by decide)), ⟨nf, a1, b1.trans a2, a3.eq b3⟩, (h2 18 (by decide)).trans h18, hG'⟩, (h2 74 (by decide)).trans h74, hQ.mono (cIx h2 (by decide)) (cRx h3 (by decide))⟩
  · refine Or.inr ⟨⟨b0, b1⟩, ?_, by rw [bx], I', R', h1, bt⟩
    refine ⟨I', R', kn, co, n, f, h1, ⟨(h2 49 (by decide)).trans h49, hk', hK', (h3 63 (by decide)).trans h63, (h3 64 (by decide)).trans h64, hcan, b3, fun i hi => absurd hi (Nat.not_lt_zero i), ⟨x1.toInt.toNat, by omega, ?_, b4⟩, (h2 18 (by decide)).trans h18, hG'⟩, (h2 74 (by decide)).trans h74, hQ.mono (cIx h2 (by decide)) (cRx h3 (by decide))⟩
    rw [b2]
    congr 1
    apply Int32.toInt_inj.mp
    rw [nI_val (by omega)]
    omega
theorem rf_read (h : REF g m0 q z kr Ic Rc cc M) {d : Nat} (hd : 11 ≤ d) : mt (mT g) d 236 [.ref m0] M (fun v M' => (∃ x : Int32, v = some (.int x)) ∧ REF g m0 q z kr Ic Rc cc M') := by
  obtain ⟨I, R, kn, co, n, f, hR, hK, h74, hQ⟩ := h
  obtain ⟨h49, hk, hKw, h63, h64, hcan, h19, hb, ⟨nf, a1, a2, a3⟩, h18, hG⟩ := hK
  obtain ⟨rl, h47⟩ := hk 47 (by decide)
  obtain ⟨wa, h48⟩ := hk 48 (by decide)
  refine (rm_read hR a2 h18 h49 h47 h48 hKw a1 hcan h63 h64 a3 (hG.imp id (fun h => h.1)) hd).imp (fun v M' hq => ?_)
  obtain ⟨x, I', R', rfl, h1, h2, h3, c17, c74, ⟨a73, c73⟩, ⟨a9, c9⟩, ⟨a47, c47⟩, ⟨a48, c48⟩, k9, c18, hk9⟩ := hq
  refine ⟨⟨x, rfl⟩, ?_⟩
  have hk' : ∀ k, k ∈ [9, 47, 48, 73] → ∃ a, I' k = some a := fun k hk2 => by
    simp only [List.mem_cons, List.not_mem_nil, or_false] at hk2
    rcases hk2 with rfl | rfl | rfl | rfl
    · exact ⟨_, c9⟩
    · exact ⟨_, c47⟩
    · exact ⟨_, c48⟩
    · exact ⟨_, c73⟩
  have hK' := hKw.mono (I' := I') (R' := R') (fun k hk => by cases hk) (cRx h3 (by decide))
  have hall : ∀ n f, (k9 < 0 ∨ KEP g m0 q Ic Rc n f k9 R' ∧ GD n f I' R') → REF g m0 q z kr Ic Rc cc M' := fun n f hh => ⟨I', R', k9, -1, n, f, h1, ⟨(h2 49 (by decide)).trans h49, hk', hK', (h3 63 (by decide)).trans h63, (h3 64 (by decide)).trans h64, hcan, (h2 19 (by decide)).trans h19, hb.eq (h3 15 (by decide)), ⟨0, by omega, c17, fun i hi => absurd hi (Nat.not_lt_zero i)⟩, c18, hh⟩, c74, Or.inl rfl⟩
  rcases hk9 with hk9 | ⟨n1, f1', hk9⟩
  · exact hall 0 (fun _ => 0) (Or.inl hk9)
  · exact hall n1 f1' (Or.inr hk9)
end MIB8
end
section
/-! the reference: behind its constructor (my own text) -/
section MIB9
end MIB9
end
section
/-! the class: its constructor (my own text) -/
section MIC1
theorem tq_init {g : xe_G} {M : mi_H} {x : Nat} (hx : M.1 x = some (ob 11 [.null, .int 0, .null, .null, .int 0])) (hxl : x < M.2.1) {d : Nat} (hd : 1 ≤ d) : mt (mT g) d 0 [.ref x] M (fun v M' => v = none ∧ M'.1 x = some (ob 11 [.ref M.2.1, .int 0, .ref g.1, .null, .int (-1)]) ∧ M'.1 M.2.1 = some (ar .byte 1024 (fun _ => 0)) ∧ (∀ a, a ≠ x → a ≠ M.2.1 → M'.1 a = M.1 a) ∧ M'.2 = (M.2.1 + 1, M.2.2 + 1024)) := by
  obtain ⟨d, rfl⟩ : ∃ e, d = e + 1 := ⟨d - 1, by omega⟩
  refine mt_in (b := mb_0 g) rfl rfl ?_
  have hne : x ≠ M.2.1 := by omega
  have h1 : (va_up M.1 M.2.1 (some (ar .byte 1024 (fun _ => 0)))) x = some (ob 11 [.null, .int 0, .null, .null, .int 0]) := by rw [va_up, if_neg hne]; exact hx
  refine ml_blk 5 (S' := (10, [(0, .ref x)], [.ref M.2.1, .ref x], (va_up M.1 M.2.1 (some (ar .byte 1024 (fun _ => 0))), M.2.1 + 1, M.2.2 + 1024))) rfl ?_
  have key : ∀ M1 : mi_H, M1.1 x = some (ob 11 [.null, .int 0, .null, .null, .int 0]) → ml (mT g) d (mb_0 g).2 (10, [(0, .ref x)], [.ref M.2.1, .ref x], M1) (fun v M' => v = none ∧ M' = up (up (up M1 x (ob 11 [.ref M.2.1, .int 0, .null, .null, .int 0])) x (ob 11 [.ref M.2.1, .int 0, .ref g.1, .null, .int 0])) x (ob 11 [.ref M.2.1, .int 0, .ref g.1, .null, .int (-1)])) := by
    intro M1 h1
    refine mo_put (l := [.null, .int 0, .null, .null, .int 0]) (S' := (13, [(0, .ref x)], [], up M1 x (ob 11 [.ref M.2.1, .int 0, .null, .null, .int 0]))) rfl h1 rfl (by decide) rfl ?_
    generalize hM2 : up M1 x (ob 11 [.ref M.2.1, .int 0, .null, .null, .int 0]) = M2
    have h2 : M2.1 x = some (ob 11 [.ref M.2.1, .int 0, .null, .null, .int 0]) := by rw [← hM2]; exact up_at
    refine ml_blk 2 (S' := (17, [(0, .ref x)], [.ref g.1, .ref x], M2)) rfl ?_
    refine mo_put (l := [.ref M.2.1, .int 0, .null, .null, .int 0]) (S' := (20, [(0, .ref x)], [], up M2 x (ob 11 [.ref M.2.1, .int 0, .ref g.1, .null, .int 0]))) rfl h2 rfl (by show 2 < 5; omega) rfl ?_
    generalize hM3 : up M2 x (ob 11 [.ref M.2.1, .int 0, .ref g.1, .null, .int 0]) = M3
    have h3 : M3.1 x = some (ob 11 [.ref M.2.1, .int 0, .ref g.1, .null, .int 0]) := by rw [← hM3]; exact up_at
    refine ml_blk 2 (S' := (22, [(0, .ref x)], [.int (-1), .ref x], M3)) rfl ?_
    refine mo_put (l := [.ref M.2.1, .int 0, .ref g.1, .null, .int 0]) (S' := (25, [(0, .ref x)], [], up M3 x (ob 11 [.ref M.2.1, .int 0, .ref g.1, .null, .int (-1)]))) rfl h3 rfl (by show 4 < 5; omega) rfl ?_
    exact ml_ret rfl rfl ⟨rfl, rfl⟩
  obtain ⟨r, hr, hv, hM⟩ := key (va_up M.1 M.2.1 (some (ar .byte 1024 (fun _ => 0))), M.2.1 + 1, M.2.2 + 1024) h1
  refine ⟨r, hr, hv, ?_, ?_, fun a ha hb => ?_, ?_⟩
  · rw [hM]
    exact up_at
  · rw [hM, up_ne (Ne.symm hne), up_ne (Ne.symm hne), up_ne (Ne.symm hne)]
    show va_up M.1 M.2.1 _ M.2.1 = _
    rw [va_up, if_pos rfl]
  · rw [hM, up_ne ha, up_ne ha, up_ne ha]
    show va_up M.1 M.2.1 _ a = _
    rw [va_up, if_neg hb]
  · rw [hM]
    rfl
end MIC1
end
section
/-! partial runs: what is true of the end, if there is one (my own text) -/
section PPA
variable {T : Nat → Option (Nat × mi_B)} {tb : mi_B} {pc k : Nat} {lv : List (Nat × Value)} {st : List Value} {M : mi_H} {S S1 : mi_S} {Q Q' : Option Value → mi_H → Prop}
/-- whatever ends within k steps ends with Q -/
def pl (T : Nat → Option (Nat × mi_B)) (k : Nat) (tb : mi_B) (S : mi_S) (Q : Option Value → mi_H → Prop) : Prop := ∀ (k' n d : Nat) (r : mi_R), k' ≤ k → mi_loop tb (mi_run T n d) k' S = some r → Q r.1 r.2
def pt (T : Nat → Option (Nat × mi_B)) (y : Nat) (a : List Value) (M : mi_H) (Q : Option Value → mi_H → Prop) : Prop := ∀ (n d : Nat) (r : mi_R), mi_run T n d y a M = some r → Q r.1 r.2
theorem pl_0 : pl T 0 tb S Q := by
  intro k' n d r hk h
  have e : k' = 0 := by omega
  subst e
  cases h
theorem pl.le {j : Nat} (h : pl T k tb S Q) (hj : j ≤ k) : pl T j tb S Q := fun k' n d r hk => h k' n d r (Nat.le_trans hk hj)
theorem pl.mono (h : pl T k tb S Q) (hq : ∀ v M', Q v M' → Q' v M') : pl T k tb S Q' := fun k' n d r hk hr => hq _ _ (h k' n d r hk hr)
theorem pt.mono {y : Nat} {a : List Value} (h : pt T y a M Q) (hq : ∀ v M', Q v M' → Q' v M') : pt T y a M Q' := fun n d r hr => hq _ _ (h n d r hr)
theorem pt.and {y : Nat} {a : List Value} (h : pt T y a M Q) (h' : pt T y a M Q') : pt T y a M (fun v M' => Q v M' ∧ Q' v M') := fun n d r hr => ⟨h n d r hr, h' n d r hr⟩
/-- safe, and what is true of the end -/
theorem mt.also {d y : Nat} {a : List Value} (h : mt T d y a M Q) (h' : pt T y a M Q') : mt T d y a M (fun v M' => Q v M' ∧ Q' v M') := by
  obtain ⟨r, ⟨n0, hr⟩, hq⟩ := h
  exact ⟨r, ⟨n0, hr⟩, hq, h' n0 d r (hr n0 (Nat.le_refl _))⟩
/-- a step, counted -/
theorem pl_s1 {o : mi_O} (h1 : tb.1 pc = some (.inl o)) (kk : ∀ S1, o (pc, lv, st, M) = some S1 → pl T k tb (mi_nk tb.2 S1) Q) : pl T (k + 1) tb (pc, lv, st, M) Q := by
  intro k' n d r hk h
  cases k' with
  | zero => cases h
  | succ k' =>
    rw [mi_loop] at h
    simp only [h1] at h
    split at h
    · rename_i S' hS
      exact kk S' hS k' n d r (by omega) h
    · cases h
theorem pl_st {o : mi_O} (h1 : tb.1 pc = some (.inl o)) (kk : ∀ S1, o (pc, lv, st, M) = some S1 → pl T k tb (mi_nk tb.2 S1) Q) : pl T k tb (pc, lv, st, M) Q := (pl_s1 h1 kk).le (Nat.le_succ k)
theorem pl_ret {f : List Value → Option (Option Value)} (h1 : tb.1 pc = some (.inr (.inr f))) (hq : ∀ v, f st = some v → Q v M) : pl T k tb (pc, lv, st, M) Q := by
  intro k' n d r hk h
  cases k' with
  | zero => cases h
  | succ k' =>
    rw [mi_loop] at h
    simp only [h1] at h
    cases hf : f st with
    | none => rw [hf] at h; cases h
    | some v =>
      rw [hf] at h
      cases h
      exact hq v hf
theorem pl_call {c : Nat × Nat × Option Nat} {a rest : List Value} (h1 : tb.1 pc = some (.inr (.inl c))) (ha : (st.take c.2.1).reverse = a) (hr : st.drop c.2.1 = rest) (hm : pt T c.1 a M Q')
    (kk : ∀ v M', Q' v M' → pl T k tb (mi_nk tb.2 (pc + 3, lv, v.toList ++ rest, M')) Q) : pl T k tb (pc, lv, st, M) Q := by
  intro k' n d r hk h
  cases k' with
  | zero => cases h
  | succ k' =>
    rw [mi_loop] at h
    simp only [h1] at h
    split at h
    · rw [ha, hr] at h
      split at h
      · rename_i r9 h9
        exact kk r9.1 r9.2 (hm n d r9 h9) k' n d r (by omega) h
      · cases h
    · cases h
theorem pt_in {y : Nat} {a : List Value} {b : Nat × mi_B} (hT : T y = some b) (kk : ∀ k, pl T k b.2 (0, lv_args 0 a, [], M) Q) : pt T y a M Q := by
  intro n d r h
  cases d with
  | zero => cases h
  | succ d =>
    rw [mi_run] at h
    simp only [hT] at h
    split at h
    · exact kk n n n d r (Nat.le_refl _) h
    · cases h
theorem pl_is {o : mi_O} {S' : mi_S} (h1 : tb.1 pc = some (.inl o)) (h2 : o (pc, lv, st, M) = some S') (kk : pl T k tb (mi_nk tb.2 S') Q) : pl T k tb (pc, lv, st, M) Q := pl_st h1 (fun S1 h => by rw [h2] at h; cases h; exact kk)
theorem pl_if {f : Int32 → Bool} {t : Nat} {x : Int32} (h1 : tb.1 pc = some (.inl (o_if f t))) (kt : f x = true → pl T k tb (mi_nk tb.2 (t, lv, st, M)) Q) (kf : f x = false → pl T k tb (mi_nk tb.2 (pc + 3, lv, st, M)) Q) : pl T k tb (pc, lv, .int x :: st, M) Q := by
  cases hf : f x with
  | true => exact pl_is h1 (S' := (t, lv, st, M)) (by simp only [o_if, hf]) (kt hf)
  | false => exact pl_is h1 (S' := (pc + 3, lv, st, M)) (by simp only [o_if, hf]) (kf hf)
theorem pl_if2 {f : Int32 → Int32 → Bool} {t : Nat} {x y : Int32} (h1 : tb.1 pc = some (.inl (o_if2 f t))) (kt : f x y = true → pl T k tb (mi_nk tb.2 (t, lv, st, M)) Q) (kf : f x y = false → pl T k tb (mi_nk tb.2 (pc + 3, lv, st, M)) Q) : pl T k tb (pc, lv, .int y :: .int x :: st, M) Q := by
  cases hf : f x y with
  | true => exact pl_is h1 (S' := (t, lv, st, M)) (by simp only [o_if2, hf]) (kt hf)
  | false => exact pl_is h1 (S' := (pc + 3, lv, st, M)) (by simp only [o_if2, hf]) (kf hf)
theorem pl_sw {ps : List (Int × Nat)} {dt : Nat} {x : Int32} (h1 : tb.1 pc = some (.inl (o_sw ps dt))) (kk : ∀ t, mi_sw ps dt x = t → pl T k tb (mi_nk tb.2 (t, lv, st, M)) Q) : pl T k tb (pc, lv, .int x :: st, M) Q := pl_is h1 (S' := (mi_sw ps dt x, lv, st, M)) (by simp only [o_sw]) (kk _ rfl)
/-- cells -/
theorem pl_get {ci j a : Nat} {v : Value} (h1 : tb.1 pc = some (.inl (o_get ci j))) (hv : mi_gf M a ci j = some v) (kk : pl T k tb (mi_nk tb.2 (pc + 3, lv, v :: st, M)) Q) : pl T k tb (pc, lv, .ref a :: st, M) Q := pl_is h1 (S' := (pc + 3, lv, v :: st, M)) (by simp only [o_get, hv]) kk
theorem pl_ald {ty : FieldType} {a n : Nat} {i : Int32} {f : Nat → Int32} (h1 : tb.1 pc = some (.inl (o_ald ty))) (hg : M.1 a = some (ar ty n f)) (kk : ¬ i < 0 → i.toNatClampNeg < n → pl T k tb (mi_nk tb.2 (pc + 1, lv, .int (f i.toNatClampNeg) :: st, M)) Q) : pl T k tb (pc, lv, .int i :: .ref a :: st, M) Q := by
  refine pl_st h1 (fun S1 h => ?_)
  unfold o_ald at h
  simp only [mi_ga, hg, ar, if_true] at h
  split at h
  · cases h
  · rename_i hin
    cases h
    exact kk (fun h9 => hin (Or.inl h9)) (Nat.not_le.mp (fun h9 => hin (Or.inr h9)))
end PPA
section PPB
variable {T : Nat → Option (Nat × mi_B)} {tb : mi_B} {pc k : Nat} {lv : List (Nat × Value)} {st : List Value} {M : mi_H} {S S1 : mi_S} {Q Q' : Option Value → mi_H → Prop}
theorem ps_st {o : mi_O} {S1 S' : mi_S} (h1 : tb.1 pc = some (.inl o)) (h2 : o (pc, lv, st, M) = some S1) (h3 : mi_nk tb.2 S1 = S') (kk : pl T k tb S' Q) : pl T k tb (pc, lv, st, M) Q := by
  subst h3
  exact pl_is h1 h2 kk
theorem ps_if {f : Int32 → Bool} {t : Nat} {x : Int32} {S1 S2 : mi_S} (h1 : tb.1 pc = some (.inl (o_if f t))) (e1 : mi_nk tb.2 (t, lv, st, M) = S1) (e2 : mi_nk tb.2 (pc + 3, lv, st, M) = S2) (kt : f x = true → pl T k tb S1 Q) (kf : f x = false → pl T k tb S2 Q) : pl T k tb (pc, lv, .int x :: st, M) Q := by
  subst e1
  subst e2
  exact pl_if h1 kt kf
theorem ps_if2 {f : Int32 → Int32 → Bool} {t : Nat} {x y : Int32} {S1 S2 : mi_S} (h1 : tb.1 pc = some (.inl (o_if2 f t))) (e1 : mi_nk tb.2 (t, lv, st, M) = S1) (e2 : mi_nk tb.2 (pc + 3, lv, st, M) = S2) (kt : f x y = true → pl T k tb S1 Q) (kf : f x y = false → pl T k tb S2 Q) : pl T k tb (pc, lv, .int y :: .int x :: st, M) Q := by
  subst e1
  subst e2
  exact pl_if2 h1 kt kf
theorem ps_get {ci j a : Nat} {l : List Value} {v : Value} {S' : mi_S} (h1 : tb.1 pc = some (.inl (o_get ci j))) (h : M.1 a = some (ob ci l)) (hv : l[j]? = some v) (e1 : mi_nk tb.2 (pc + 3, lv, v :: st, M) = S') (kk : pl T k tb S' Q) : pl T k tb (pc, lv, .ref a :: st, M) Q := by
  subst e1
  exact pl_get h1 (gf_ob h hv) kk
theorem ps_ald {ty : FieldType} {a n : Nat} {i : Int32} {f : Nat → Int32} {S' : mi_S} (h1 : tb.1 pc = some (.inl (o_ald ty))) (h : M.1 a = some (ar ty n f)) (e1 : mi_nk tb.2 (pc + 1, lv, .int (f i.toNatClampNeg) :: st, M) = S') (kk : ¬ i < 0 → i.toNatClampNeg < n → pl T k tb S' Q) : pl T k tb (pc, lv, .int i :: .ref a :: st, M) Q := by
  subst e1
  exact pl_ald h1 h kk
theorem ps_alen {ty : FieldType} {a n : Nat} {f : Nat → Int32} {S' : mi_S} (h1 : tb.1 pc = some (.inl (o_alen ty))) (h : M.1 a = some (ar ty n f)) (e1 : mi_nk tb.2 (pc + 1, lv, .int (nI n) :: st, M) = S') (kk : pl T k tb S' Q) : pl T k tb (pc, lv, .ref a :: st, M) Q := by
  subst e1
  exact pl_is h1 (S' := (pc + 1, lv, .int (nI n) :: st, M)) (by simp only [o_alen, ga_ar h]; rfl) kk
theorem ps_put {ci j a : Nat} {ty : FieldType} {l l' : List Value} {v : Value} (h1 : tb.1 pc = some (.inl (o_put ci j ty))) (h : M.1 a = some (ob ci l)) (hj : decide (j < l.length) = true) (hl : l.set j v = l')
    (kk : ∀ M2 : mi_H, M2.1 a = some (ob ci l') → (∀ z, z ≠ a → M2.1 z = M.1 z) → M2.2 = M.2 → pl T k tb (mi_nk tb.2 (pc + 3, lv, st, M2)) Q) : pl T k tb (pc, lv, v :: .ref a :: st, M) Q := by
  refine pl_st h1 (fun S1 hS => ?_)
  unfold o_put at hS
  simp only [h, ob] at hS
  split at hS
  · cases hS
    refine kk _ ?_ (fun z hz => by simp [va_up, hz]) rfl
    rw [← hl, ob, ← ob_set (of_decide_eq_true hj)]
    simp [va_up]
  · cases hS
theorem ps_ast {ty : FieldType} {nar : Int32 → Int32} {a n : Nat} {i x : Int32} {f : Nat → Int32} (h1 : tb.1 pc = some (.inl (o_ast ty nar))) (h : M.1 a = some (ar ty n f))
    (kk : ∀ M2 : mi_H, ¬ i < 0 → i.toNatClampNeg < n → M2.1 a = some (ar ty n (upd f i.toNatClampNeg (nar x))) → (∀ z, z ≠ a → M2.1 z = M.1 z) → M2.2 = M.2 → pl T k tb (mi_nk tb.2 (pc + 1, lv, st, M2)) Q) : pl T k tb (pc, lv, .int x :: .int i :: .ref a :: st, M) Q := by
  refine pl_st h1 (fun S1 hS => ?_)
  unfold o_ast at hS
  simp only [ga_ar h] at hS
  split at hS
  · cases hS
  · rename_i hin
    cases hS
    refine kk _ (fun h9 => hin (Or.inl h9)) (Nat.not_le.mp (fun h9 => hin (Or.inr h9))) ?_ (fun z hz => by simp [va_up, hz]) rfl
    simp only [va_up, if_true]
    rw [ar, ← ar_set]
theorem ps_new {ci N : Nat} {ds : List Value} (h1 : tb.1 pc = some (.inl (o_new ci N ds))) (kk : ∀ M2 : mi_H, M2.1 M.2.1 = some (ob ci ds) → (∀ z, z ≠ M.2.1 → M2.1 z = M.1 z) → M2.2 = (M.2.1 + 1, M.2.2 + N) → pl T k tb (mi_nk tb.2 (pc + 3, lv, .ref M.2.1 :: st, M2)) Q) : pl T k tb (pc, lv, st, M) Q := by
  refine pl_st h1 (fun S1 hS => ?_)
  cases hS
  exact kk _ (by simp [va_up, ob]) (fun z hz => by simp [va_up, hz]) rfl
theorem ps_ret {f : List Value → Option (Option Value)} {v : Option Value} (h1 : tb.1 pc = some (.inr (.inr f))) (h2 : f st = some v) (hq : Q v M) : pl T k tb (pc, lv, st, M) Q := pl_ret h1 (fun v' hv => by rw [h2] at hv; cases hv; exact hq)
/-- a contract of the small machine, as one of whatever ends -/
theorem mt.pt {d y : Nat} {a : List Value} (h : mt T d y a M Q) : pt T y a M Q := by
  intro n d' r hr
  obtain ⟨r0, ⟨n0, h0⟩, hq⟩ := h
  have up1 : ∀ e, mi_run T (max n n0) (d + e) y a M = some r0 := fun e => by
    induction e with
    | zero => exact h0 _ (Nat.le_max_right _ _)
    | succ e ih => exact mi_run_mono _ _ _ _ _ ih
  have up2 : ∀ e, mi_run T (max n n0) (d' + e) y a M = some r := fun e => by
    induction e with
    | zero => exact mi_run_le (Nat.le_max_left _ _) hr
    | succ e ih => exact mi_run_mono _ _ _ _ _ ih
  have e1 := up1 d'
  have e2 := up2 d
  rw [Nat.add_comm] at e2
  rw [e1] at e2
  cases e2
  exact hq
theorem ob_ne {a b ci cj : Nat} {l l' : List Value} (h1 : M.1 a = some (ob ci l)) (h2 : M.1 b = some (ob cj l')) (h : ci ≠ cj) : a ≠ b := by
  intro e
  rw [e, h2] at h1
  simp only [ob, Option.some.injEq, Sum.inr.injEq, Prod.mk.injEq] at h1
  exact h h1.1.symm
theorem ob_ar {a b ci n : Nat} {l : List Value} {ty : FieldType} {f : Nat → Int32} (h1 : M.1 a = some (ob ci l)) (h2 : M.1 b = some (ar ty n f)) : a ≠ b := by
  intro e
  rw [e, h2] at h1
  cases h1
/-- what is left alone: all but these cells, and no room taken -/
def fm (S : List Nat) (M M' : mi_H) : Prop := (∀ z, z ∉ S → M'.1 z = M.1 z) ∧ M'.2 = M.2
theorem fm.rf {S : List Nat} : fm S M M := ⟨fun _ _ => rfl, rfl⟩
theorem fm.up {S : List Nat} {M1 M2 : mi_H} {a : Nat} (h : fm S M M1) (ha : a ∈ S) (h1 : ∀ z, z ≠ a → M2.1 z = M1.1 z) (h2 : M2.2 = M1.2) : fm S M M2 := ⟨fun z hz => (h1 z (fun e => hz (e ▸ ha))).trans (h.1 z hz), h2.trans h.2⟩
theorem fm.tr {S S' : List Nat} {M1 M2 : mi_H} (h : fm S M M1) (h' : fm S' M1 M2) (hs : ∀ z, z ∈ S' → z ∈ S) : fm S M M2 := ⟨fun z hz => (h'.1 z (fun q => hz (hs z q))).trans (h.1 z hz), h'.2.trans h.2⟩
end PPB
section PPC
variable {T : Nat → Option (Nat × mi_B)} {tb : mi_B} {pc k : Nat} {lv : List (Nat × Value)} {st : List Value} {M : mi_H} {Q : Option Value → mi_H → Prop}
theorem ps_st1 {o : mi_O} {S1 S' : mi_S} (h1 : tb.1 pc = some (.inl o)) (h2 : o (pc, lv, st, M) = some S1) (h3 : mi_nk tb.2 S1 = S') (kk : pl T k tb S' Q) : pl T (k + 1) tb (pc, lv, st, M) Q := by
  subst h3
  exact pl_s1 h1 (fun S2 h => by rw [h2] at h; cases h; exact kk)
theorem ar_ne {a b n n' : Nat} {ty ty' : FieldType} {f f' : Nat → Int32} (h1 : M.1 a = some (ar ty n f)) (h2 : M.1 b = some (ar ty' n' f')) (h : ty ≠ ty') : a ≠ b := by
  intro e
  rw [e, h2] at h1
  simp only [ar, Option.some.injEq, Sum.inl.injEq, Prod.mk.injEq] at h1
  exact h h1.1.symm
theorem nin1 {a b : Nat} (h : a ≠ b) : a ∉ [b] := by simp [h]
theorem nin2 {a b c : Nat} (h : a ≠ b) (h' : a ≠ c) : a ∉ [b, c] := by simp [h, h']
theorem nin3 {a b c d : Nat} (h : a ≠ b) (h' : a ≠ c) (h'' : a ≠ d) : a ∉ [b, c, d] := by simp [h, h', h'']
end PPC
theorem nin4 {a b c d e : Nat} (h1 : a ≠ b) (h2 : a ≠ c) (h3 : a ≠ d) (h4 : a ≠ e) : a ∉ [b, c, d, e] := by simp [h1, h2, h3, h4]
theorem nin6 {a b c d e f g : Nat} (h1 : a ≠ b) (h2 : a ≠ c) (h3 : a ≠ d) (h4 : a ≠ e) (h5 : a ≠ f) (h6 : a ≠ g) : a ∉ [b, c, d, e, f, g] := by simp [h1, h2, h3, h4, h5, h6]
theorem nin8 {a b c d e f g i j : Nat} (h1 : a ≠ b) (h2 : a ≠ c) (h3 : a ≠ d) (h4 : a ≠ e) (h5 : a ≠ f) (h6 : a ≠ g) (h7 : a ≠ i) (h8 : a ≠ j) : a ∉ [b, c, d, e, f, g, i, j] := by simp [h1, h2, h3, h4, h5, h6, h7, h8]
section PPD
variable {T : Nat → Option (Nat × mi_B)} {tb : mi_B} {pc k : Nat} {lv : List (Nat × Value)} {st : List Value} {M : mi_H} {Q : Option Value → mi_H → Prop}
theorem ps_newa {ty : FieldType} {n : Int32} {z : Nat} (h1 : tb.1 pc = some (.inl (o_newa ty))) (hz : M.2.1 = z) (kk : ∀ M2 : mi_H, ¬ n < 0 → M2.1 z = some (ar ty n.toNatClampNeg (fun _ => 0)) → (∀ y, y ≠ z → M2.1 y = M.1 y) → M2.2.1 = z + 1 → pl T k tb (mi_nk tb.2 (pc + 2, lv, .ref z :: st, M2)) Q) : pl T k tb (pc, lv, .int n :: st, M) Q := by
  subst hz
  refine pl_st h1 (fun S1 hS => ?_)
  unfold o_newa at hS
  dsimp only at hS
  split at hS
  · cases hS
  · rename_i hin
    cases hS
    exact kk _ (fun h9 => hin (Or.inl h9)) (by simp [va_up, ar]) (fun y hy => by simp [va_up, hy]) rfl
theorem ps_newz {ci N z : Nat} {ds : List Value} (h1 : tb.1 pc = some (.inl (o_new ci N ds))) (hz : M.2.1 = z) (kk : ∀ M2 : mi_H, M2.1 z = some (ob ci ds) → (∀ y, y ≠ z → M2.1 y = M.1 y) → M2.2.1 = z + 1 → pl T k tb (mi_nk tb.2 (pc + 3, lv, .ref z :: st, M2)) Q) : pl T k tb (pc, lv, st, M) Q := by
  subst hz
  exact ps_new h1 (fun M2 a1 a2 a3 => kk M2 a1 a2 (by rw [a3]))
/-- what is left alone of what was there; new cells may come -/
def gm (S : List Nat) (M M' : mi_H) : Prop := (∀ z, z < M.2.1 → z ∉ S → M'.1 z = M.1 z) ∧ M.2.1 ≤ M'.2.1
theorem gm.rf {S : List Nat} : gm S M M := ⟨fun _ _ _ => rfl, Nat.le_refl _⟩
theorem gm.up {S : List Nat} {M1 M2 : mi_H} {a : Nat} (h : gm S M M1) (ha : a ∈ S ∨ M.2.1 ≤ a) (h1 : ∀ z, z ≠ a → M2.1 z = M1.1 z) (h2 : M1.2.1 ≤ M2.2.1) : gm S M M2 := ⟨fun z hl hz => (h1 z (fun e => ha.elim (fun q => hz (e ▸ q)) (fun q => by omega))).trans (h.1 z hl hz), Nat.le_trans h.2 h2⟩
theorem gm.trf {S S' : List Nat} {M1 M2 : mi_H} (h : gm S M M1) (h' : fm S' M1 M2) (hs : ∀ z, z ∈ S' → z ∈ S ∨ M.2.1 ≤ z) : gm S M M2 := ⟨fun z hl hz => (h'.1 z (fun q => (hs z q).elim hz (fun e => by omega))).trans (h.1 z hl hz), by rw [h'.2]; exact h.2⟩
theorem gm.tr {S S' : List Nat} {M1 M2 : mi_H} (h : gm S M M1) (h' : gm S' M1 M2) (hs : ∀ z, z ∈ S' → z ∈ S ∨ M.2.1 ≤ z) : gm S M M2 := ⟨fun z hl hz => (h'.1 z (Nat.lt_of_lt_of_le hl h.2) (fun q => (hs z q).elim hz (fun e => by omega))).trans (h.1 z hl hz), Nat.le_trans h.2 h'.2⟩
theorem fm.gm {S : List Nat} {M' : mi_H} (h : fm S M M') : gm S M M' := ⟨fun z _ hz => h.1 z hz, by rw [h.2]; exact Nat.le_refl _⟩
end PPD
end
section
/-! bytes as numbers (my own text) -/
section SPA
theorem nI_bv {x : Nat} : (nI x).toBitVec = BitVec.ofNat 32 x := rfl
theorem nI_cat {x y s : Nat} (hs : s < 32) (hx : x * 2 ^ s < 2 ^ 32) (hy : y < 2 ^ s) : (nI x <<< nI s ||| nI y) = nI (x * 2 ^ s + y) := by
  apply Int32.toBitVec_inj.mp
  rw [Int32.toBitVec_or, nI_bv, nI_bv]
  apply BitVec.eq_of_toNat_eq
  have hp : 0 < 2 ^ s := Nat.two_pow_pos s
  have hx2 : x < 2 ^ 32 := Nat.lt_of_le_of_lt (Nat.le_mul_of_pos_right x hp) hx
  have hs2 : 2 ^ s < 2 ^ 32 := Nat.pow_lt_pow_right (by decide) hs
  have e : (nI x <<< nI s).toBitVec.toNat = x * 2 ^ s := by
    rw [Int32.toBitVec_shiftLeft, nI_bv, nI_bv]
    have e1 : (BitVec.ofNat 32 s).smod 32 = BitVec.ofNat 32 s := by
      have hsm : ∀ s, s < 32 → (BitVec.ofNat 32 s).smod 32 = BitVec.ofNat 32 s := by decide +kernel
      exact hsm s hs
    rw [e1]
    simp only [BitVec.shiftLeft_eq', BitVec.toNat_shiftLeft, BitVec.toNat_ofNat]
    rw [Nat.mod_eq_of_lt hx2, Nat.mod_eq_of_lt (show s < 2 ^ 32 by omega), Nat.shiftLeft_eq, Nat.mod_eq_of_lt hx]
  rw [BitVec.toNat_or, e]
  simp only [BitVec.toNat_ofNat]
  rw [Nat.mod_eq_of_lt (show y < 2 ^ 32 by omega)]
  have hlt : x * 2 ^ s + y < 2 ^ 32 := by
    have h1 : (x + 1) * 2 ^ s ≤ 2 ^ 32 := by
      have h2 : x < 2 ^ (32 - s) := by
        rw [← Nat.mul_lt_mul_right hp, ← Nat.pow_add, show 32 - s + s = 32 by omega]
        exact hx
      have h3 : (x + 1) * 2 ^ s ≤ 2 ^ (32 - s) * 2 ^ s := Nat.mul_le_mul_right _ h2
      rw [← Nat.pow_add, show 32 - s + s = 32 by omega] at h3
      exact h3
    rw [Nat.add_mul, Nat.one_mul] at h1
    omega
  rw [Nat.mod_eq_of_lt hlt, ← Nat.shiftLeft_eq, ← Nat.shiftLeft_add_eq_or_of_lt hy]
def by1 (f : Nat → Int32) (p : Nat) : Nat := (f p &&& 255).toInt.toNat
def by2 (f : Nat → Int32) (p : Nat) : Nat := by1 f p * 256 + by1 f (p + 1)
def by4 (f : Nat → Int32) (p : Nat) : Nat := by2 f p * 65536 + by2 f (p + 2)
theorem and255 (x : Int32) : 0 ≤ (x &&& 255).toInt ∧ (x &&& 255).toInt < 256 := by
  obtain ⟨j, hj, e⟩ := pk_andE x (m := 255) 8 (by decide)
  rw [e]
  show 0 ≤ (Int32.ofNat j).toInt ∧ (Int32.ofNat j).toInt < 256
  rw [Int32.toInt_ofNat_of_lt (by omega)]
  omega
theorem by1_lt (f : Nat → Int32) (p : Nat) : by1 f p < 256 := by
  have := and255 (f p)
  unfold by1
  omega
set_option maxRecDepth 4000 in
theorem by1_eq (f : Nat → Int32) (p : Nat) : f p &&& 255 = nI (by1 f p) := by
  apply Int32.toInt_inj.mp
  have := and255 (f p)
  rw [nI_val (by have := by1_lt f p; omega)]
  unfold by1
  omega
theorem by2_lt (f : Nat → Int32) (p : Nat) : by2 f p < 65536 := by
  have := by1_lt f p
  have := by1_lt f (p + 1)
  unfold by2
  omega
theorem by4_lt (f : Nat → Int32) (p : Nat) : by4 f p < 4294967296 := by
  have := by2_lt f p
  have := by2_lt f (p + 2)
  unfold by4
  omega
theorem lt_nI {p n : Nat} (hp : p < 1073741824) (hn : n < 1073741824) : nI p < nI n ↔ p < n := by
  rw [Int32.lt_iff_toInt_lt, nI_val hp, nI_val hn]
  omega
theorem nI_sub {p k : Nat} {x : Int32} (hx : x.toInt = k) (hk : k < 1073741824) (h : p < 1073741824) : (nI p - x).toInt = (p : Int) - k := by
  rw [Int32.toInt_sub, nI_val h, hx]
  exact Int.bmod_eq_of_le (by omega) (by omega)
theorem nI_n0 {p : Nat} (h : p < 1073741824) : ¬ nI p < 0 := fun h9 => by
  have h2 := Int32.lt_iff_toInt_lt.mp h9
  rw [nI_val h] at h2
  have h4 : (0 : Int32).toInt = 0 := rfl
  omega
theorem u1_nI {f : Nat → Int32} {n p : Nat} (hn : n ≤ 65540) (h : p < n) : sp_u1 n f (nI p) = nI (by1 f p) := by
  unfold sp_u1
  rw [if_neg (nI_n0 (by omega)), if_pos ((lt_nI (by omega) (by omega)).mpr h), nI_toNat (by omega), by1_eq]
theorem nI_add1 {p k : Nat} {x : Int32} (hx : x = nI k) (h : p + k < 1073741824) : nI p + x = nI (p + k) := by
  subst hx
  exact nI_plus (nI_val (by omega)) h
theorem u2_nI {f : Nat → Int32} {n p : Nat} (hn : n ≤ 65540) (h : p + 2 ≤ n) : sp_u2 n f (nI p) = nI (by2 f p) := by
  unfold sp_u2
  have h1 : nI p < nI n - 1 := by
    rw [Int32.lt_iff_toInt_lt, nI_sub (k := 1) rfl (by decide) (by omega), nI_val (by omega)]
    omega
  rw [if_neg (nI_n0 (by omega)), if_pos h1, nI_toNat (by omega), nI_plus (j := 1) rfl (by omega), nI_toNat (by omega), by1_eq, by1_eq]
  have := by1_lt f p
  exact nI_cat (x := by1 f p) (y := by1 f (p + 1)) (s := 8) (by decide) (by omega) (by1_lt f (p + 1))
theorem nI_or {x y : Nat} : nI x ||| nI y = nI (x ||| y) := by
  apply Int32.toBitVec_inj.mp
  rw [Int32.toBitVec_or, nI_bv, nI_bv, nI_bv]
  apply BitVec.eq_of_toNat_eq
  rw [BitVec.toNat_or]
  simp only [BitVec.toNat_ofNat]
  rw [Nat.or_mod_two_pow]
theorem nI_shl {x s : Nat} (hs : s < 32) (hx : x * 2 ^ s < 2 ^ 32) : nI x <<< nI s = nI (x * 2 ^ s) := by
  have h := nI_cat (y := 0) hs hx (Nat.two_pow_pos s)
  rw [show nI 0 = (0 : Int32) from rfl, Int32.or_zero, Nat.add_zero] at h
  exact h
theorem shl24 (x : Int32) : x <<< nI 24 = (x &&& 255) <<< nI 24 := by
  apply Int32.toBitVec_inj.mp
  rw [Int32.toBitVec_shiftLeft, Int32.toBitVec_shiftLeft, Int32.toBitVec_and]
  generalize x.toBitVec = y
  apply BitVec.eq_of_toNat_eq
  have e1 : ((nI 24).toBitVec).smod 32 = 24#32 := by decide
  rw [e1]
  simp only [BitVec.shiftLeft_eq', BitVec.toNat_shiftLeft, BitVec.toNat_and]
  have e2 : (255 : Int32).toBitVec.toNat = 2 ^ 8 - 1 := by decide
  rw [e2, Nat.and_two_pow_sub_one_eq_mod]
  have e3 : (24#32).toNat = 24 := by decide
  rw [e3, Nat.shiftLeft_eq, Nat.shiftLeft_eq]
  omega
theorem or4 {a b c d : Nat} (hb : b < 256) (hc : c < 256) (hd : d < 256) : a * 2 ^ 24 ||| b * 2 ^ 16 ||| c * 2 ^ 8 ||| d = (a * 256 + b) * 65536 + (c * 256 + d) := by
  have h1 : a * 2 ^ 24 ||| b * 2 ^ 16 = (a * 256 + b) * 2 ^ 16 := by
    rw [← Nat.shiftLeft_eq a, ← Nat.shiftLeft_add_eq_or_of_lt (show b * 2 ^ 16 < 2 ^ 24 by omega), Nat.shiftLeft_eq]
    omega
  have h2 : (a * 256 + b) * 2 ^ 16 ||| c * 2 ^ 8 = ((a * 256 + b) * 256 + c) * 2 ^ 8 := by
    rw [← Nat.shiftLeft_eq (a * 256 + b), ← Nat.shiftLeft_add_eq_or_of_lt (show c * 2 ^ 8 < 2 ^ 16 by omega), Nat.shiftLeft_eq]
    omega
  rw [h1, h2, ← Nat.shiftLeft_eq ((a * 256 + b) * 256 + c), ← Nat.shiftLeft_add_eq_or_of_lt (show d < 2 ^ 8 by omega), Nat.shiftLeft_eq]
  omega
theorem u4_nI {f : Nat → Int32} {n p : Nat} (hn : n ≤ 65540) (h : p + 4 ≤ n) : sp_u4 n f (nI p) = nI (by4 f p) := by
  unfold sp_u4
  have h1 : nI p < nI n - 3 := by
    rw [Int32.lt_iff_toInt_lt, nI_sub (k := 3) rfl (by decide) (by omega), nI_val (by omega)]
    omega
  rw [if_neg (nI_n0 (by omega)), if_pos h1, nI_toNat (by omega), nI_plus (j := 1) rfl (by omega), nI_plus (j := 2) rfl (by omega), nI_plus (j := 3) rfl (by omega), nI_toNat (by omega), nI_toNat (by omega), nI_toNat (by omega), show (24 &&& 31 : Int32) = nI 24 by decide, show (16 &&& 31 : Int32) = nI 16 by decide, show (8 &&& 31 : Int32) = nI 8 by decide, shl24, by1_eq, by1_eq, by1_eq, by1_eq]
  have h1 := by1_lt f p
  have h2 := by1_lt f (p + 1)
  have h3 := by1_lt f (p + 2)
  have h4 := by1_lt f (p + 3)
  rw [nI_shl (s := 24) (by decide) (by omega), nI_shl (s := 16) (by decide) (by omega), nI_shl (s := 8) (by decide) (by omega), nI_or, nI_or, nI_or, or4 h2 h3 h4]
  rfl
end SPA
section SPB
theorem sz_eq {n : Nat} {f : Nat → Int32} : sp_size n f = nI n := rfl
theorem le_sz {n p k : Nat} {f : Nat → Int32} {x : Int32} (hx : x.toInt = k) (hk : k < 1000000) (hn : n ≤ 65540) (hp : p ≤ n) : x ≤ sp_size n f - nI p ↔ p + k ≤ n := by
  have e : (nI n - nI p).toInt = (n : Int) - p := by
    rw [Int32.toInt_sub, nI_val (by omega), nI_val (by omega)]
    exact Int.bmod_eq_of_le (by omega) (by omega)
  rw [sz_eq, Int32.le_iff_toInt_le, e, hx]
  omega
end SPB
section SPC
theorem le_nI {p n : Nat} (hp : p < 1073741824) (hn : n < 1073741824) : nI p ≤ nI n ↔ p ≤ n := by
  rw [Int32.le_iff_toInt_le, nI_val hp, nI_val hn]
  omega
theorem eq_nI {p n : Nat} (hp : p < 1073741824) (hn : n < 1073741824) : nI p = nI n ↔ p = n := by
  refine ⟨fun h => ?_, fun h => by rw [h]⟩
  have h2 := congrArg Int32.toInt h
  rw [nI_val hp, nI_val hn] at h2
  omega
theorem nI_big {p n : Nat} (hp : p < 4294967296) (hn : n < 4294967296) : nI p = nI n ↔ p = n := by
  refine ⟨fun h => ?_, fun h => by rw [h]⟩
  have h2 := congrArg (fun x : Int32 => x.toBitVec.toNat) h
  have h3 : p % 2 ^ 32 = n % 2 ^ 32 := h2
  omega
end SPC
section SPE
theorem nI_val31 {x : Nat} (h : x < 2147483648) : (nI x).toInt = x := by
  show (Int32.ofNat x).toInt = x
  exact Int32.toInt_ofNat_of_lt h
theorem neg_nI {x : Nat} (h : x < 4294967296) : nI x < 0 ↔ 2147483648 ≤ x := by
  rw [Int32.lt_iff_toInt_lt]
  have h4 : (0 : Int32).toInt = 0 := rfl
  by_cases h1 : x < 2147483648
  · rw [nI_val31 h1]
    omega
  · have e : (nI x).toInt = (x : Int) - 4294967296 := by
      show (Int32.ofNat x).toInt = _
      rw [Int32.toInt_ofNat', show Int32.size = 4294967296 from rfl]
      unfold Int.bmod
      dsimp only
      split <;> omega
    rw [e]
    omega
theorem le_szn {n p x : Nat} {f : Nat → Int32} (hx : x < 2147483648) (hn : n ≤ 65540) (hp : p ≤ n) : nI x ≤ sp_size n f - nI p ↔ p + x ≤ n := by
  have e : (nI n - nI p).toInt = (n : Int) - p := by
    rw [Int32.toInt_sub, nI_val (by omega), nI_val (by omega)]
    exact Int.bmod_eq_of_le (by omega) (by omega)
  rw [sz_eq, Int32.le_iff_toInt_le, e, nI_val31 hx]
  omega
end SPE
section SPF
theorem nmin_nI {a b : Nat} (ha : a < 1073741824) (hb : b < 1073741824) : (if nI b < nI a then nI b else nI a) = nI (min a b) := by
  split
  · rename_i h
    have := (lt_nI hb ha).mp h
    rw [Nat.min_eq_right (by omega)]
  · rename_i h
    have : ¬ b < a := fun h9 => h ((lt_nI hb ha).mpr h9)
    rw [Nat.min_eq_left (by omega)]
theorem nmax_nI {a b : Nat} (ha : a < 1073741824) (hb : b < 1073741824) : (if nI a < nI b then nI b else nI a) = nI (max a b) := by
  split
  · rename_i h
    have := (lt_nI ha hb).mp h
    rw [Nat.max_eq_right (by omega)]
  · rename_i h
    have : ¬ a < b := fun h9 => h ((lt_nI ha hb).mpr h9)
    rw [Nat.max_eq_left (by omega)]
theorem ndiv_nI {a k : Nat} {x : Int32} (hx : x.toInt = k) (hk : 0 < k) (ha : a < 1073741824) : nI a / x = nI (a / k) := by
  apply Int32.toInt_inj.mp
  have h1 : a / k ≤ a := Nat.div_le_self a k
  rw [Int32.toInt_div, nI_val ha, hx, nI_val (by omega)]
  rw [show (a : Int).tdiv (k : Int) = ((a / k : Nat) : Int) from (Int.ofNat_tdiv a k).symm]
  generalize a / k = y at *
  exact Int.bmod_eq_of_le (by omega) (by omega)
end SPF
theorem nmax0 {a : Nat} (ha : a < 1073741824) : (if (0 : Int32) < nI a then nI a else 0) = nI a := by
  have h := nmax_nI (a := 0) (b := a) (by decide) ha
  rw [Nat.max_eq_right (Nat.zero_le a)] at h
  exact h
end
section
/-! what a file must hold: the parts in their order (my own text) -/
section SPD
/-- the head: (rule, place), rule 0 where nothing is wrong -/
def s_head (f : Nat → Int32) (n : Nat) : Nat × Nat :=
  if n < 4 then (1, 0) else if ¬ by4 f 0 = 3405691582 then (2, 0) else if n < 6 then (1, 4) else if n < 8 then (1, 6) else
  if by2 f 6 < 45 ∨ 61 < by2 f 6 ∨ (56 ≤ by2 f 6 ∧ ¬ by2 f 4 = 0) then (3, 4) else (0, 0)
/-- c attributes from p on: where they end, or what is wrong -/
def s_atts (f : Nat → Int32) (n : Nat) : Nat → Nat → (Nat × Nat) ⊕ Nat
  | 0, p => .inr p
  | c + 1, p => if n < p + 2 then .inl (1, p) else if n < p + 6 then .inl (1, p + 2) else if n < p + 6 + by4 f (p + 2) then .inl (1, p + 6) else s_atts f n c (p + 6 + by4 f (p + 2))
def s_attributes (f : Nat → Int32) (n p : Nat) : (Nat × Nat) ⊕ Nat := if n < p + 2 then .inl (1, p) else s_atts f n (by2 f p) (p + 2)
def s_mems (f : Nat → Int32) (n : Nat) : Nat → Nat → (Nat × Nat) ⊕ Nat
  | 0, p => .inr p
  | c + 1, p => if n < p + 2 then .inl (1, p) else if n < p + 4 then .inl (1, p + 2) else if n < p + 6 then .inl (1, p + 4) else
    match s_attributes f n (p + 6) with
    | .inl e => .inl e
    | .inr p' => s_mems f n c p'
/-- c items of two bytes -/
def s_two (n : Nat) : Nat → Nat → (Nat × Nat) ⊕ Nat
  | 0, p => .inr p
  | c + 1, p => if n < p + 2 then .inl (1, p) else s_two n c (p + 2)
def s_class (f : Nat → Int32) (n p : Nat) : (Nat × Nat) ⊕ Nat := if n < p + 2 then .inl (1, p) else if n < p + 4 then .inl (1, p + 2) else if n < p + 6 then .inl (1, p + 4) else if n < p + 8 then .inl (1, p + 6) else s_two n (by2 f (p + 6)) (p + 8)
theorem s_atts_le {f : Nat → Int32} {n : Nat} : ∀ {c p p' : Nat}, p ≤ n → s_atts f n c p = .inr p' → p ≤ p' ∧ p' ≤ n := by
  intro c
  induction c with
  | zero => intro p p' hp h; cases h; omega
  | succ c ih =>
    intro p p' hp h
    unfold s_atts at h
    split at h
    · cases h
    · split at h
      · cases h
      · split at h
        · cases h
        · have := ih (by omega) h
          omega
end SPD
def dst5 (q1 q2 q3 q4 q5 : Nat) : Prop := (q1 ≠ q2 ∧ q1 ≠ q3 ∧ q1 ≠ q4 ∧ q1 ≠ q5) ∧ (q2 ≠ q3 ∧ q2 ≠ q4 ∧ q2 ≠ q5) ∧ (q3 ≠ q4 ∧ q3 ≠ q5) ∧ q4 ≠ q5
theorem nar16n {c : Nat} (h : c < 65536) : (nI c).toUInt32.toUInt16.toUInt32.toInt32 = nI c := by
  apply Int32.toBitVec_inj.mp
  apply BitVec.eq_of_toNat_eq
  have e : (nI c).toUInt32.toNat = c % 2 ^ 32 := rfl
  have e2 : (nI c).toUInt32.toUInt16.toNat = c % 2 ^ 32 % 2 ^ 16 := by
    rw [UInt32.toNat_toUInt16, e]
  have e3 : (nI c).toUInt32.toUInt16.toUInt32.toNat = c % 2 ^ 32 % 2 ^ 16 := by
    rw [UInt16.toNat_toUInt32, e2]
  have e4 : (nI c).toUInt32.toUInt16.toUInt32.toInt32.toBitVec.toNat = (nI c).toUInt32.toUInt16.toUInt32.toNat := rfl
  rw [e4, e3]
  show c % 2 ^ 32 % 2 ^ 16 = c % 2 ^ 32
  omega
theorem nar_char {c : Nat} (h : c < 65536) : vp_nar .char (nI c) = nI c := nar16n h
theorem i2c_nI {c : Nat} (h : c < 65536) : (Int32.toUInt32 (nI c) % 65536).toInt32 = nI c := by
  apply Int32.toBitVec_inj.mp
  apply BitVec.eq_of_toNat_eq
  have e : (nI c).toUInt32.toNat = c % 2 ^ 32 := rfl
  have e4 : (Int32.toUInt32 (nI c) % 65536).toInt32.toBitVec.toNat = (Int32.toUInt32 (nI c) % 65536).toNat := rfl
  rw [e4, UInt32.toNat_mod, e]
  show c % 2 ^ 32 % 65536 = c % 2 ^ 32
  omega
/-- a byte that goes on with a character -/
def go8 (f : Nat → Int32) (e q : Nat) : Prop := q < e ∧ f q &&& 192 = 128
theorem goesOn_nI {f : Nat → Int32} {n e q : Nat} (hn : n ≤ 65540) (he : e ≤ n) (hq : q < 1000000) : (go8 f e q ∧ sp_goesOn n f (nI q) (nI e) = 1) ∨ (¬ go8 f e q ∧ sp_goesOn n f (nI q) (nI e) = 0) := by
  unfold sp_goesOn go8
  rw [if_neg (nI_n0 (by omega))]
  by_cases h1 : q < e
  · rw [if_neg (fun h => absurd ((le_nI (by omega) (by omega)).mp h) (by omega)), if_neg (fun h => absurd ((le_nI (by omega) (by omega)).mp h) (by omega)), nI_toNat (by omega)]
    by_cases h2 : f q &&& 192 = 128
    · exact Or.inl ⟨⟨h1, h2⟩, by rw [if_neg (fun h => h h2)]⟩
    · exact Or.inr ⟨fun h => h2 h.2, by rw [if_pos h2]⟩
  · exact Or.inr ⟨fun h => h1 h.1, by rw [if_pos ((le_nI (by omega) (by omega)).mpr (by omega))]⟩
/-- how many bytes the character at p has, of a text that ends at e; 0: none -/
def u8k (f : Nat → Int32) (e p : Nat) : Nat :=
  if by1 f p < 128 then (if by1 f p = 0 then 0 else 1) else if by1 f p < 192 then 0 else if 240 ≤ by1 f p then 0 else if ¬ (p + 1 < e ∧ f (p + 1) &&& 192 = 128) then 0 else if by1 f p < 224 then 2 else if p + 2 < e ∧ f (p + 2) &&& 192 = 128 then 3 else 0
theorem u8k_le {f : Nat → Int32} {e p : Nat} (h : p < e) : u8k f e p ≤ 3 ∧ p + u8k f e p ≤ e := by
  unfold u8k
  split
  · split <;> omega
  · split
    · omega
    · split
      · omega
      · split
        · omega
        · rename_i h4
          have h4 := Decidable.not_not.mp h4
          split
          · omega
          · split
            · rename_i h6
              omega
            · omega
/-- the character of k bytes at p -/
def u8c (f : Nat → Int32) (p k : Nat) : Int32 :=
  if k = 1 then nI (by1 f p) else if k = 2 then (nI (by1 f p) &&& 31) <<< (6 &&& 31) ||| (nI (by1 f (p + 1)) &&& 63) else (nI (by1 f p) &&& 15) <<< (12 &&& 31) ||| (nI (by1 f (p + 1)) &&& 63) <<< (6 &&& 31) ||| (nI (by1 f (p + 2)) &&& 63)
theorem u8c_nat (f : Nat → Int32) (p k : Nat) : ∃ c, c < 65536 ∧ u8c f p k = nI c := by
  unfold u8c
  have h0 := by1_lt f p
  split
  · exact ⟨by1 f p, by omega, rfl⟩
  · split
    · obtain ⟨a, ha, e1⟩ := pk_andE (nI (by1 f p)) (m := 31) 5 (by decide)
      obtain ⟨b, hb, e2⟩ := pk_andE (nI (by1 f (p + 1))) (m := 63) 6 (by decide)
      refine ⟨a * 2 ^ 6 + b, by omega, ?_⟩
      rw [e1, e2]
      exact nI_cat (s := 6) (by decide) (by omega) hb
    · obtain ⟨a, ha, e1⟩ := pk_andE (nI (by1 f p)) (m := 15) 4 (by decide)
      obtain ⟨b, hb, e2⟩ := pk_andE (nI (by1 f (p + 1))) (m := 63) 6 (by decide)
      obtain ⟨c, hc, e3⟩ := pk_andE (nI (by1 f (p + 2))) (m := 63) 6 (by decide)
      refine ⟨(a * 2 ^ 6 + b) * 2 ^ 6 + c, by omega, ?_⟩
      rw [e1, e2, e3]
      have h1 : nI a <<< (12 &&& 31 : Int32) ||| nI b <<< (6 &&& 31 : Int32) = nI ((a * 2 ^ 6 + b) * 2 ^ 6) := by
        have e6 : nI b <<< (6 &&& 31 : Int32) = nI (b * 2 ^ 6) := nI_shl (s := 6) (by decide) (by omega)
        rw [e6]
        have := nI_cat (x := a) (y := b * 2 ^ 6) (s := 12) (by decide) (by omega) (by omega)
        rw [show (a * 2 ^ 6 + b) * 2 ^ 6 = a * 2 ^ 12 + b * 2 ^ 6 by omega]
        exact this
      have h2 := nI_cat (x := a * 2 ^ 6 + b) (y := c) (s := 6) (by decide) (by omega) hc
      rw [nI_shl (s := 6) (by decide) (by omega)] at h2
      show nI a <<< (12 &&& 31 : Int32) ||| nI b <<< (6 &&& 31 : Int32) ||| nI c = _
      rw [h1]
      exact h2
def u8n (f : Nat → Int32) (p k : Nat) : Nat := (u8c f p k).toInt.toNat
theorem u8n_eq (f : Nat → Int32) (p k : Nat) : u8c f p k = nI (u8n f p k) ∧ u8n f p k < 65536 := by
  obtain ⟨c, hc, e⟩ := u8c_nat f p k
  unfold u8n
  rw [e, nI_val (by omega)]
  exact ⟨by congr 1, by omega⟩
/-- a text from p to e: its characters, or the place where it is wrong (r: no fewer than its bytes) -/
def s_text (f : Nat → Int32) (e : Nat) : Nat → Nat → List Nat → Nat ⊕ List Nat
  | 0, _, l => .inr l
  | r + 1, p, l => if e ≤ p then .inr l else if u8k f e p = 0 then .inl p else s_text f e r (p + u8k f e p) (l ++ [u8n f p (u8k f e p)])
theorem s_text_0 {f : Nat → Int32} {e r p : Nat} {l : List Nat} (h : e ≤ p) : s_text f e r p l = .inr l := by
  cases r with
  | zero => rfl
  | succ r => unfold s_text; rw [if_pos h]
theorem s_text_fuel {f : Nat → Int32} {e : Nat} : ∀ {r r' p : Nat} {l : List Nat}, e - p ≤ r → e - p ≤ r' → s_text f e r p l = s_text f e r' p l := by
  intro r
  induction r with
  | zero =>
    intro r' p l h h'
    rw [s_text_0 (show e ≤ p by omega), s_text_0 (show e ≤ p by omega)]
  | succ r ih =>
    intro r' p l h h'
    by_cases h1 : e ≤ p
    · rw [s_text_0 h1, s_text_0 h1]
    · cases r' with
      | zero => omega
      | succ r' =>
        unfold s_text
        rw [if_neg h1, if_neg h1]
        split
        · rfl
        · rename_i h2
          exact ih (by omega) (by omega)
theorem s_text_step {f : Nat → Int32} {e p : Nat} {l : List Nat} (h : p < e) (hk : ¬ u8k f e p = 0) : s_text f e (e - p) p l = s_text f e (e - (p + u8k f e p)) (p + u8k f e p) (l ++ [u8n f p (u8k f e p)]) := by
  have h2 := u8k_le (f := f) h
  rw [show e - p = (e - p - 1) + 1 by omega]
  conv => lhs; unfold s_text
  rw [if_neg (by omega), if_neg hk]
  exact s_text_fuel (by omega) (by omega)
theorem s_text_bad {f : Nat → Int32} {e p : Nat} {l : List Nat} (h : p < e) (hk : u8k f e p = 0) : s_text f e (e - p) p l = .inl p := by
  rw [show e - p = (e - p - 1) + 1 by omega]
  unfold s_text
  rw [if_neg (by omega), if_pos hk]
/-- numbers written from c on -/
def wr (F : Nat → Int32) (c : Nat) (l : List Nat) : Nat → Int32 := fun j => if c ≤ j ∧ j < c + l.length then nI (l.getD (j - c) 0) else F j
theorem wr_nil {F : Nat → Int32} {c : Nat} : wr F c [] = F := by
  funext j
  unfold wr
  rw [if_neg (fun h => by have h1 := h.1; have h2 := h.2; simp only [List.length_nil] at h2; omega)]
theorem wr_snoc {F : Nat → Int32} {c x : Nat} {l : List Nat} : upd (wr F c l) (c + l.length) (nI x) = wr F c (l ++ [x]) := by
  funext j
  unfold upd wr
  by_cases h : j = c + l.length
  · subst h
    rw [if_pos rfl, if_pos (by simp), Nat.add_sub_cancel_left]
    simp
  · rw [if_neg h]
    by_cases h1 : c ≤ j ∧ j < c + l.length
    · rw [if_pos h1, if_pos (by simp; omega)]
      congr 1
      simp only [List.getD_eq_getElem?_getD]
      rw [List.getElem?_append_left (by omega)]
    · rw [if_neg h1, if_neg (by simp; omega)]
def s_utf (f : Nat → Int32) (n p : Nat) : (Nat × Nat) ⊕ List Nat :=
  if n < p + 2 then .inl (1, p) else if n < p + 2 + by2 f p then .inl (1, p + 2) else
  match s_text f (p + 2 + by2 f p) (by2 f p) (p + 2) [] with
  | .inl w => .inl (6, w)
  | .inr l => .inr l
theorem s_utf_ok {f : Nat → Int32} {n p : Nat} {l : List Nat} (h0 : ¬ n < p + 2) (h1 : ¬ n < p + 2 + by2 f p) (h : s_text f (p + 2 + by2 f p) (by2 f p) (p + 2) [] = .inr l) : s_utf f n p = .inr l := by
  unfold s_utf
  rw [if_neg h0, if_neg h1, h]
theorem s_utf_bad {f : Nat → Int32} {n p w : Nat} (h0 : ¬ n < p + 2) (h1 : ¬ n < p + 2 + by2 f p) (h : s_text f (p + 2 + by2 f p) (by2 f p) (p + 2) [] = .inl w) : s_utf f n p = .inl (6, w) := by
  unfold s_utf
  rw [if_neg h0, if_neg h1, h]
theorem sw_nat {ps : List (Int × Nat)} {dt y t : Nat} (ht : t < 1073741824) (h : mi_sw ps dt (nI t) = y) : (((t : Int), y) ∈ ps) ∨ (y = dt ∧ ∀ q ∈ ps, ¬ q.1 = (t : Int)) := by
  unfold mi_sw at h
  rw [nI_val ht] at h
  split at h
  · rename_i q hq
    have h1 := List.find?_some hq
    have h2 := List.mem_of_find?_eq_some hq
    have h3 : q.1 = (t : Int) := by simpa using h1
    subst h
    exact Or.inl (by rw [← h3]; exact h2)
  · rename_i hq
    refine Or.inr ⟨h.symm, fun q hm e => ?_⟩
    have := List.find?_eq_none.mp hq q hm
    simp [e] at this
/-- the tags of a version -/
abbrev tgOk (mj t : Nat) : Prop := (t = 15 ∨ t = 16 ∨ t = 18) ∧ 51 ≤ mj ∨ (t = 19 ∨ t = 20) ∧ 53 ≤ mj ∨ t = 17 ∧ 55 ≤ mj ∨ t = 1 ∨ (3 ≤ t ∧ t ≤ 12)
/-- the indexes of an entry with tag t, from p on: where it ends, its two numbers -/
def s_ix (f : Nat → Int32) (n t p : Nat) : (Nat × Nat) ⊕ (Nat × Nat × Nat) :=
  if t = 15 then (if n < p + 1 then .inl (1, p) else if n < p + 3 then .inl (1, p + 1) else .inr (p + 3, by1 f p, by2 f (p + 1))) else
  if n < p + 2 then .inl (1, p) else if t = 7 ∨ t = 8 ∨ t = 16 ∨ t = 19 ∨ t = 20 then .inr (p + 2, by2 f p, 0) else
  if n < p + 4 then .inl (1, p + 2) else .inr (p + 4, by2 f p, by2 f (p + 2))
/-- an entry with number k at p: where it ends; a text tells its characters, an entry of indexes its numbers -/
def s_entry (f : Nat → Int32) (n mj N k p : Nat) : (Nat × Nat) ⊕ (Nat × ((List Nat) ⊕ (Option (Nat × Nat)))) :=
  if n < p + 1 then .inl (1, p) else if ¬ tgOk mj (by1 f p) then .inl (5, p) else if (by1 f p = 5 ∨ by1 f p = 6) ∧ N ≤ k + 1 then .inl (7, p) else
  if by1 f p = 1 then (match s_utf f n (p + 1) with | .inl e => .inl e | .inr l => .inr (p + 3 + by2 f (p + 1), .inl l)) else
  if by1 f p = 3 ∨ by1 f p = 4 then (if n < p + 5 then .inl (1, p + 1) else .inr (p + 5, .inr none)) else
  if by1 f p = 5 ∨ by1 f p = 6 then (if n < p + 5 then .inl (1, p + 1) else if n < p + 9 then .inl (1, p + 5) else .inr (p + 9, .inr none)) else
  match s_ix f n (by1 f p) (p + 1) with
  | .inl e => .inl e
  | .inr (p', x, y) => .inr (p', .inr (some (x, y)))
/-- entries from number k at p on (r: no fewer than are left): where they end, and each with its place -/
def s_ents (f : Nat → Int32) (n mj N : Nat) : Nat → Nat → Nat → List (Nat × Nat) → (Nat × Nat) ⊕ (Nat × List (Nat × Nat))
  | 0, _, p, E => .inr (p, E)
  | r + 1, k, p, E => if N ≤ k then .inr (p, E) else
    match s_entry f n mj N k p with
    | .inl e => .inl e
    | .inr (p', _) => s_ents f n mj N r (if by1 f p = 5 ∨ by1 f p = 6 then k + 2 else k + 1) p' (E ++ [(k, p)])
theorem s_ents_0 {f : Nat → Int32} {n mj N r k p : Nat} {E : List (Nat × Nat)} (h : N ≤ k) : s_ents f n mj N r k p E = .inr (p, E) := by
  cases r with
  | zero => rfl
  | succ r => unfold s_ents; rw [if_pos h]
theorem s_ents_fuel {f : Nat → Int32} {n mj N : Nat} : ∀ {r r' k p : Nat} {E : List (Nat × Nat)}, N - k ≤ r → N - k ≤ r' → s_ents f n mj N r k p E = s_ents f n mj N r' k p E := by
  intro r
  induction r with
  | zero => intro r' k p E h h'; rw [s_ents_0 (show N ≤ k by omega), s_ents_0 (show N ≤ k by omega)]
  | succ r ih =>
    intro r' k p E h h'
    by_cases h1 : N ≤ k
    · rw [s_ents_0 h1, s_ents_0 h1]
    · cases r' with
      | zero => omega
      | succ r' =>
        unfold s_ents
        rw [if_neg h1, if_neg h1]
        cases s_entry f n mj N k p with
        | inl e => rfl
        | inr x =>
          dsimp only
          exact ih (by split <;> omega) (by split <;> omega)
theorem s_ents_step {f : Nat → Int32} {n mj N k p p' : Nat} {x : (List Nat) ⊕ (Option (Nat × Nat))} {E : List (Nat × Nat)} (h : k < N) (he : s_entry f n mj N k p = .inr (p', x)) : s_ents f n mj N (N - k) k p E = s_ents f n mj N (N - (if by1 f p = 5 ∨ by1 f p = 6 then k + 2 else k + 1)) (if by1 f p = 5 ∨ by1 f p = 6 then k + 2 else k + 1) p' (E ++ [(k, p)]) := by
  rw [show N - k = (N - k - 1) + 1 by omega]
  conv => lhs; unfold s_ents
  rw [if_neg (by omega), he]
  exact s_ents_fuel (by split <;> omega) (by split <;> omega)
theorem s_ents_bad {f : Nat → Int32} {n mj N k p : Nat} {e : Nat × Nat} {E : List (Nat × Nat)} (h : k < N) (he : s_entry f n mj N k p = .inl e) : s_ents f n mj N (N - k) k p E = .inl e := by
  rw [show N - k = (N - k - 1) + 1 by omega]
  unfold s_ents
  rw [if_neg (by omega), he]
/-- what the class's pool keeps of an entry -/
def entC (f : Nat → Int32) (n : Nat) (F1 F2 F3 F4 F6 : Nat → Int32) (cc k p : Nat) : Prop :=
  F1 k = nI (by1 f p) ∧ F2 k = nI p ∧ (by1 f p = 1 → ∃ (l : List Nat) (c : Nat), s_utf f n (p + 1) = .inr l ∧ F3 k = nI c ∧ F4 k = nI l.length ∧ c + l.length ≤ cc ∧ ∀ i, i < l.length → F6 (c + i) = nI (l.getD i 0)) ∧
  (7 ≤ by1 f p → ∃ p' x y, s_ix f n (by1 f p) (p + 1) = .inr (p', x, y) ∧ F3 k = nI x ∧ F4 k = nI y)
def poolC (f : Nat → Int32) (n : Nat) (F1 F2 F3 F4 F6 : Nat → Int32) (cc k : Nat) (E : List (Nat × Nat)) : Prop :=
  (∀ q ∈ E, q.1 < k ∧ entC f n F1 F2 F3 F4 F6 cc q.1 q.2) ∧ ∀ j, (∀ q ∈ E, ¬ q.1 = j) → F1 j = 0
theorem updq_ne {F : Nat → Int32} {k j : Nat} {x : Int32} (h : ¬ j = k) : upd F k x j = F j := by simp [upd, h]
theorem updq_at {F : Nat → Int32} {k : Nat} {x : Int32} : upd F k x k = x := by simp [upd]
theorem wr_lo {F : Nat → Int32} {c j : Nat} {l : List Nat} (h : j < c) : wr F c l j = F j := by
  unfold wr
  rw [if_neg (by omega)]
theorem wr_in {F : Nat → Int32} {c i : Nat} {l : List Nat} (h : i < l.length) : wr F c l (c + i) = nI (l.getD i 0) := by
  unfold wr
  rw [if_pos (by omega), Nat.add_sub_cancel_left]
theorem poolC.add {f : Nat → Int32} {n : Nat} {F1 F2 F3 F4 F6 G3 G4 G6 : Nat → Int32} {cc cc' k k' p : Nat} {E : List (Nat × Nat)} (h : poolC f n F1 F2 F3 F4 F6 cc k E) (hk : k < k') (hc : cc ≤ cc')
    (h3 : ∀ j, ¬ j = k → G3 j = F3 j) (h4 : ∀ j, ¬ j = k → G4 j = F4 j) (h6 : ∀ j, j < cc → G6 j = F6 j) (hn : entC f n (upd F1 k (nI (by1 f p))) (upd F2 k (nI p)) G3 G4 G6 cc' k p) :
    poolC f n (upd F1 k (nI (by1 f p))) (upd F2 k (nI p)) G3 G4 G6 cc' k' (E ++ [(k, p)]) := by
  refine ⟨fun q hq => ?_, fun j hj => ?_⟩
  · rcases List.mem_append.mp hq with hq | hq
    · obtain ⟨a0, a1, a2, a3, a4⟩ := h.1 q hq
      have ne : ¬ q.1 = k := by omega
      refine ⟨by omega, by rw [updq_ne ne]; exact a1, by rw [updq_ne ne]; exact a2, fun ht => ?_, fun ht => ?_⟩
      · obtain ⟨l, c, b1, b2, b3, b4, b5⟩ := a3 ht
        exact ⟨l, c, b1, by rw [h3 _ ne]; exact b2, by rw [h4 _ ne]; exact b3, by omega, fun i hi => by rw [h6 _ (by omega)]; exact b5 i hi⟩
      · obtain ⟨p', x, y, b1, b2, b3⟩ := a4 ht
        exact ⟨p', x, y, b1, by rw [h3 _ ne]; exact b2, by rw [h4 _ ne]; exact b3⟩
    · have : q = (k, p) := by simpa using hq
      subst this
      exact ⟨hk, hn⟩
  · have h1 : ¬ k = j := hj (k, p) (by simp)
    rw [updq_ne (fun e => h1 e.symm)]
    exact h.2 j (fun q hq => hj q (List.mem_append_left _ hq))
def hldC (f : Nat → Int32) (n : Nat) : Nat := min (by2 f 8) (n / 3 + 1)
/-- the pool, from place 8 on -/
def s_pool (f : Nat → Int32) (n mj : Nat) : (Nat × Nat) ⊕ (Nat × List (Nat × Nat)) := if n < 10 then .inl (1, 8) else if by2 f 8 = 0 then .inl (4, 8) else s_ents f n mj (by2 f 8) (by2 f 8 - 1) 1 10 []
theorem s_entry_txt {f : Nat → Int32} {n mj N k p p' : Nat} {l : List Nat} (h : s_entry f n mj N k p = .inr (p', .inl l)) : by1 f p = 1 ∧ s_utf f n (p + 1) = .inr l ∧ p' = p + 3 + by2 f (p + 1) := by
  unfold s_entry at h
  split at h
  · cases h
  · split at h
    · cases h
    · split at h
      · cases h
      · split at h
        · rename_i h1
          split at h
          · cases h
          · rename_i l' h2
            cases h
            exact ⟨h1, h2, rfl⟩
        · split at h
          · split at h <;> cases h
          · split at h
            · split at h
              · cases h
              · split at h <;> cases h
            · split at h <;> cases h
theorem s_entry_pl {f : Nat → Int32} {n mj N k p p' : Nat} (h : s_entry f n mj N k p = .inr (p', .inr none)) : (by1 f p = 3 ∨ by1 f p = 4) ∧ p' = p + 5 ∨ (by1 f p = 5 ∨ by1 f p = 6) ∧ p' = p + 9 ∧ k + 1 < N := by
  unfold s_entry at h
  split at h
  · cases h
  · split at h
    · cases h
    · split at h
      · cases h
      · rename_i h7
        split at h
        · split at h <;> cases h
        · split at h
          · rename_i h1
            split at h
            · cases h
            · cases h
              exact Or.inl ⟨h1, rfl⟩
          · split at h
            · rename_i h1
              split at h
              · cases h
              · split at h
                · cases h
                · cases h
                  exact Or.inr ⟨h1, rfl, by omega⟩
            · split at h <;> cases h
theorem s_entry_ix {f : Nat → Int32} {n mj N k p p' x y : Nat} (h : s_entry f n mj N k p = .inr (p', .inr (some (x, y)))) : s_ix f n (by1 f p) (p + 1) = .inr (p', x, y) ∧ 7 ≤ by1 f p := by
  unfold s_entry at h
  split at h
  · cases h
  · split at h
    · cases h
    · rename_i h0
      have h0 := Decidable.not_not.mp h0
      split at h
      · cases h
      · split at h
        · split at h <;> cases h
        · split at h
          · split at h <;> cases h
          · split at h
            · split at h
              · cases h
              · split at h <;> cases h
            · split at h
              · cases h
              · rename_i p2 x2 y2 h2
                cases h
                exact ⟨h2, by unfold tgOk at h0; omega⟩
end
section
/-! the reader, exactly (laid by wip/p4/d1.py) -/
set_option maxHeartbeats 1000000 in
theorem dx_wrong {g : xe_G} {M : mi_H} {vd : Nat} {ru wa x1 x2 : Int32} (h_vd : M.1 vd = some (ob 10 [.int ru, .int wa]))  : pt (mT g) 172 [.ref vd, .int x1, .int x2] M (fun v M' => (v = some (.int 0) ∧ M'.1 vd = some (ob 10 [.int x1, .int x2]) ∧ fm [vd] M M')) := by
  refine pt_in (b := mb_172 g) rfl (fun kf => ?_)
  show pl (mT g) kf (mb_172 g).2 (0, [(0, .ref vd), (1, .int x1), (2, .int x2)], [], M) _
  have hF : fm [vd] M M := fm.rf
  refine ps_st (S' := (1, [(0, .ref vd), (1, .int x1), (2, .int x2)], [.ref vd], M)) rfl rfl rfl ?_
  refine ps_st (S' := (2, [(0, .ref vd), (1, .int x1), (2, .int x2)], [.int x1, .ref vd], M)) rfl rfl rfl ?_
  refine ps_put (l' := [.int x1, .int wa]) rfl h_vd rfl rfl (fun M1 h2 f3 z4 => ?_)
  have hF5 := hF.up (by simp) f3 z4
  show pl _ _ _ (5, [(0, .ref vd), (1, .int x1), (2, .int x2)], [], M1) _
  refine ps_st (S' := (6, [(0, .ref vd), (1, .int x1), (2, .int x2)], [.ref vd], M1)) rfl rfl rfl ?_
  refine ps_st (S' := (7, [(0, .ref vd), (1, .int x1), (2, .int x2)], [.int x2, .ref vd], M1)) rfl rfl rfl ?_
  refine ps_put (l' := [.int x1, .int x2]) rfl h2 rfl rfl (fun M6 h7 f8 z9 => ?_)
  have hF10 := hF5.up (by simp) f8 z9
  show pl _ _ _ (10, [(0, .ref vd), (1, .int x1), (2, .int x2)], [], M6) _
  refine ps_st (S' := (11, [(0, .ref vd), (1, .int x1), (2, .int x2)], [.int 0], M6)) rfl rfl rfl ?_
  exact ps_ret rfl rfl (⟨rfl, h7, hF10⟩)
theorem dx_size {g : xe_G} {M : mi_H} {b da n : Nat} {f : Nat → Int32}  (h_b : M.1 b = some (ob 1 [.ref da])) (h_da : M.1 da = some (ar .byte n f)) (hn : n ≤ 65540) : pt (mT g) 47 [.ref b] M (fun v M' => (v = some (.int (sp_size n f )) ∧ fm [] M M')) := by
  exact (ct_size ⟨h_b, h_da, by omega⟩ (d := 3) (by decide)).pt.mono (fun v M' h => ⟨h.1, by rw [h.2]; exact fm.rf⟩)
theorem dx_u1 {g : xe_G} {M : mi_H} {b da n : Nat} {f : Nat → Int32} {x1 : Int32} (h_b : M.1 b = some (ob 1 [.ref da])) (h_da : M.1 da = some (ar .byte n f)) (hn : n ≤ 65540) : pt (mT g) 48 [.ref b, .int x1] M (fun v M' => (v = some (.int (sp_u1 n f x1)) ∧ fm [] M M')) := by
  exact (ct_u1 ⟨h_b, h_da, by omega⟩ (d := 3) (by decide)).pt.mono (fun v M' h => ⟨h.1, by rw [h.2]; exact fm.rf⟩)
theorem dx_u2 {g : xe_G} {M : mi_H} {b da n : Nat} {f : Nat → Int32} {x1 : Int32} (h_b : M.1 b = some (ob 1 [.ref da])) (h_da : M.1 da = some (ar .byte n f)) (hn : n ≤ 65540) : pt (mT g) 49 [.ref b, .int x1] M (fun v M' => (v = some (.int (sp_u2 n f x1)) ∧ fm [] M M')) := by
  exact (ct_u2 ⟨h_b, h_da, by omega⟩ (d := 3) (by decide)).pt.mono (fun v M' h => ⟨h.1, by rw [h.2]; exact fm.rf⟩)
theorem dx_u4 {g : xe_G} {M : mi_H} {b da n : Nat} {f : Nat → Int32} {x1 : Int32} (h_b : M.1 b = some (ob 1 [.ref da])) (h_da : M.1 da = some (ar .byte n f)) (hn : n ≤ 65540) : pt (mT g) 50 [.ref b, .int x1] M (fun v M' => (v = some (.int (sp_u4 n f x1)) ∧ fm [] M M')) := by
  exact (ct_u4 ⟨h_b, h_da, by omega⟩ (d := 3) (by decide)).pt.mono (fun v M' h => ⟨h.1, by rw [h.2]; exact fm.rf⟩)
theorem dx_goesOn {g : xe_G} {M : mi_H} {b da n : Nat} {f : Nat → Int32} {x1 x2 : Int32} (h_b : M.1 b = some (ob 1 [.ref da])) (h_da : M.1 da = some (ar .byte n f)) (hn : n ≤ 65540) : pt (mT g) 46 [.ref b, .int x1, .int x2] M (fun v M' => (v = some (.int (sp_goesOn n f x1 x2)) ∧ fm [] M M')) := by
  exact (ct_goesOn ⟨h_b, h_da, by omega⟩ (d := 3) (by decide)).pt.mono (fun v M' h => ⟨h.1, by rw [h.2]; exact fm.rf⟩)
set_option maxHeartbeats 1000000 in
theorem dx_takes1 {g : xe_G} {M : mi_H} {r c b vd da n p : Nat} {f : Nat → Int32} {it ru wa : Int32} (h_r : M.1 r = some (ob 9 [.ref c, .ref b, .ref vd, .int (nI p), .int it])) (h_b : M.1 b = some (ob 1 [.ref da])) (h_da : M.1 da = some (ar .byte n f)) (h_vd : M.1 vd = some (ob 10 [.int ru, .int wa])) (hn : n ≤ 65540) (hp : p ≤ n) : pt (mT g) 159 [.ref r, .int 1] M (fun v M' => ((p + 1 ≤ n) ∧ v = some (.int 1) ∧ M'.1 r = some (ob 9 [.ref c, .ref b, .ref vd, .int (nI (p + 1)), .int (nI (by1 f p))]) ∧ M'.1 vd = some (ob 10 [.int ru, .int wa]) ∧ fm [r, vd] M M') ∨ ((n < p + 1) ∧ v = some (.int 0) ∧ M'.1 r = some (ob 9 [.ref c, .ref b, .ref vd, .int (nI p), .int it]) ∧ M'.1 vd = some (ob 10 [.int 1, .int (nI p)]) ∧ fm [r, vd] M M')) := by
  refine pt_in (b := mb_159 g) rfl (fun kf => ?_)
  show pl (mT g) kf (mb_159 g).2 (0, [(0, .ref r), (1, .int 1)], [], M) _
  have hF : fm [r, vd] M M := fm.rf
  refine ps_st (S' := (1, [(0, .ref r), (1, .int 1)], [.int 1], M)) rfl rfl rfl ?_
  refine ps_st (S' := (2, [(0, .ref r), (1, .int 1)], [.ref r, .int 1], M)) rfl rfl rfl ?_
  refine ps_get (S' := (5, [(0, .ref r), (1, .int 1)], [.ref b, .int 1], M)) rfl h_r rfl rfl ?_
  refine pl_call (a := [.ref b]) (rest := [.int 1]) rfl rfl rfl (dx_size h_b h_da (hn)) (fun v1 M2 q3 => ?_)
  obtain ⟨rfl, f4⟩ := q3
  have h6 := (f4.1 r (by simp)).trans h_r
  have h7 := (f4.1 b (by simp)).trans h_b
  have h8 := (f4.1 da (by simp)).trans h_da
  have h9 := (f4.1 vd (by simp)).trans h_vd
  have hF10 := hF.tr f4 (by simp)
  show pl _ _ _ (8, [(0, .ref r), (1, .int 1)], [.int (sp_size n f ), .int 1], M2) _
  refine ps_st (S' := (9, [(0, .ref r), (1, .int 1)], [.ref r, .int (sp_size n f ), .int 1], M2)) rfl rfl rfl ?_
  refine ps_get (S' := (12, [(0, .ref r), (1, .int 1)], [.int (nI p), .int (sp_size n f ), .int 1], M2)) rfl h6 rfl rfl ?_
  refine ps_st (S' := (13, [(0, .ref r), (1, .int 1)], [.int ((sp_size n f ) - (nI p)), .int 1], M2)) rfl rfl rfl ?_
  refine ps_if2 (S1 := (29, [(0, .ref r), (1, .int 1)], [], M2)) (S2 := (16, [(0, .ref r), (1, .int 1)], [], M2)) rfl rfl rfl (fun c_13 => ?_) (fun c_13 => ?_)
  · have c_13 : 1 ≤ ((sp_size n f ) - (nI p)) := of_decide_eq_true c_13
    have n_13 : p + 1 ≤ n := (le_szn (x := 1) (p := p) (f := f) (by decide) hn (by omega)).mp c_13
    refine ps_st (S' := (30, [(0, .ref r), (1, .int 1)], [.int 1], M2)) rfl rfl rfl ?_
    refine ps_st (S' := (31, [(0, .ref r), (1, .int 1)], [.int 1, .int 1], M2)) rfl rfl rfl ?_
    refine ps_if2 (S1 := (52, [(0, .ref r), (1, .int 1)], [], M2)) (S2 := (34, [(0, .ref r), (1, .int 1)], [], M2)) rfl rfl rfl (fun c_31 => ?_) (fun c_31 => ?_)
    · exact absurd (of_decide_eq_true c_31) (fun h => h rfl)
    refine ps_st (S' := (35, [(0, .ref r), (1, .int 1)], [.ref r], M2)) rfl rfl rfl ?_
    refine ps_st (S' := (36, [(0, .ref r), (1, .int 1)], [.ref r, .ref r], M2)) rfl rfl rfl ?_
    refine ps_get (S' := (39, [(0, .ref r), (1, .int 1)], [.ref b, .ref r], M2)) rfl h6 rfl rfl ?_
    refine ps_st (S' := (40, [(0, .ref r), (1, .int 1)], [.ref r, .ref b, .ref r], M2)) rfl rfl rfl ?_
    refine ps_get (S' := (43, [(0, .ref r), (1, .int 1)], [.int (nI p), .ref b, .ref r], M2)) rfl h6 rfl rfl ?_
    refine pl_call (a := [.ref b, .int (nI p)]) (rest := [.ref r]) rfl rfl rfl (dx_u1 h7 h8 (hn)) (fun v11 M12 q13 => ?_)
    obtain ⟨rfl, f14⟩ := q13
    have h16 := (f14.1 r (by simp)).trans h6
    have h17 := (f14.1 b (by simp)).trans h7
    have h18 := (f14.1 da (by simp)).trans h8
    have h19 := (f14.1 vd (by simp)).trans h9
    have hF20 := hF10.tr f14 (by simp)
    show pl _ _ _ (46, [(0, .ref r), (1, .int 1)], [.int (sp_u1 n f (nI p)), .ref r], M12) _
    refine ps_put (l' := [.ref c, .ref b, .ref vd, .int (nI p), .int (sp_u1 n f (nI p))]) rfl h16 rfl rfl (fun M21 h22 f23 z24 => ?_)
    have h25 := (f23 b (ob_ne h17 h16 (by decide))).trans h17
    have h26 := (f23 da (Ne.symm (ob_ar h16 h18))).trans h18
    have h27 := (f23 vd (ob_ne h19 h16 (by decide))).trans h19
    have hF28 := hF20.up (by simp) f23 z24
    show pl _ _ _ (49, [(0, .ref r), (1, .int 1)], [], M21) _
    refine ps_st (S' := (86, [(0, .ref r), (1, .int 1)], [], M21)) rfl rfl rfl ?_
    refine ps_st (S' := (87, [(0, .ref r), (1, .int 1)], [.ref r], M21)) rfl rfl rfl ?_
    refine ps_st (S' := (88, [(0, .ref r), (1, .int 1)], [.ref r, .ref r], M21)) rfl rfl rfl ?_
    refine ps_get (S' := (91, [(0, .ref r), (1, .int 1)], [.int (nI p), .ref r], M21)) rfl h22 rfl rfl ?_
    refine ps_st (S' := (92, [(0, .ref r), (1, .int 1)], [.int 1, .int (nI p), .ref r], M21)) rfl rfl rfl ?_
    refine ps_st (S' := (93, [(0, .ref r), (1, .int 1)], [.int ((nI p) + 1), .ref r], M21)) rfl rfl rfl ?_
    refine ps_put (l' := [.ref c, .ref b, .ref vd, .int ((nI p) + 1), .int (sp_u1 n f (nI p))]) rfl h22 rfl rfl (fun M29 h30 f31 z32 => ?_)
    have h33 := (f31 b (ob_ne h25 h22 (by decide))).trans h25
    have h34 := (f31 da (Ne.symm (ob_ar h22 h26))).trans h26
    have h35 := (f31 vd (ob_ne h27 h22 (by decide))).trans h27
    have hF36 := hF28.up (by simp) f31 z32
    show pl _ _ _ (96, [(0, .ref r), (1, .int 1)], [], M29) _
    refine ps_st (S' := (97, [(0, .ref r), (1, .int 1)], [.int 1], M29)) rfl rfl rfl ?_
    exact ps_ret rfl rfl (have ok := (le_sz (k := 1) rfl (by decide) hn hp).mp c_13; Or.inl ⟨ok, rfl, by rw [h30, nI_plus (j := 1) rfl (by omega), u1_nI hn (by omega)], h35, hF36⟩)
  · have c_13 : ¬ (1 ≤ ((sp_size n f ) - (nI p))) := of_decide_eq_false c_13
    have n_13 : ¬ (p + 1 ≤ n) := fun h9 => c_13 ((le_szn (x := 1) (p := p) (f := f) (by decide) hn (by omega)).mpr h9)
    refine ps_st (S' := (17, [(0, .ref r), (1, .int 1)], [.ref r], M2)) rfl rfl rfl ?_
    refine ps_get (S' := (20, [(0, .ref r), (1, .int 1)], [.ref vd], M2)) rfl h6 rfl rfl ?_
    refine ps_st (S' := (21, [(0, .ref r), (1, .int 1)], [.int 1, .ref vd], M2)) rfl rfl rfl ?_
    refine ps_st (S' := (22, [(0, .ref r), (1, .int 1)], [.ref r, .int 1, .ref vd], M2)) rfl rfl rfl ?_
    refine ps_get (S' := (25, [(0, .ref r), (1, .int 1)], [.int (nI p), .int 1, .ref vd], M2)) rfl h6 rfl rfl ?_
    refine pl_call (a := [.ref vd, .int 1, .int (nI p)]) (rest := []) rfl rfl rfl (dx_wrong h9) (fun v37 M38 q39 => ?_)
    obtain ⟨rfl, h40, f41⟩ := q39
    have h43 := (f41.1 r (nin1 (ob_ne h6 h9 (by decide)))).trans h6
    have h44 := (f41.1 b (nin1 (ob_ne h7 h9 (by decide)))).trans h7
    have h45 := (f41.1 da (nin1 (Ne.symm (ob_ar h9 h8)))).trans h8
    have hF46 := hF10.tr f41 (by simp)
    show pl _ _ _ (28, [(0, .ref r), (1, .int 1)], [.int 0], M38) _
    exact ps_ret rfl rfl (Or.inr ⟨Nat.not_le.mp (fun h => c_13 ((le_sz (k := 1) rfl (by decide) hn hp).mpr h)), rfl, h43, h40, hF46⟩)
set_option maxHeartbeats 1000000 in
theorem dx_takes2 {g : xe_G} {M : mi_H} {r c b vd da n p : Nat} {f : Nat → Int32} {it ru wa : Int32} (h_r : M.1 r = some (ob 9 [.ref c, .ref b, .ref vd, .int (nI p), .int it])) (h_b : M.1 b = some (ob 1 [.ref da])) (h_da : M.1 da = some (ar .byte n f)) (h_vd : M.1 vd = some (ob 10 [.int ru, .int wa])) (hn : n ≤ 65540) (hp : p ≤ n) : pt (mT g) 159 [.ref r, .int 2] M (fun v M' => ((p + 2 ≤ n) ∧ v = some (.int 1) ∧ M'.1 r = some (ob 9 [.ref c, .ref b, .ref vd, .int (nI (p + 2)), .int (nI (by2 f p))]) ∧ M'.1 vd = some (ob 10 [.int ru, .int wa]) ∧ fm [r, vd] M M') ∨ ((n < p + 2) ∧ v = some (.int 0) ∧ M'.1 r = some (ob 9 [.ref c, .ref b, .ref vd, .int (nI p), .int it]) ∧ M'.1 vd = some (ob 10 [.int 1, .int (nI p)]) ∧ fm [r, vd] M M')) := by
  refine pt_in (b := mb_159 g) rfl (fun kf => ?_)
  show pl (mT g) kf (mb_159 g).2 (0, [(0, .ref r), (1, .int 2)], [], M) _
  have hF : fm [r, vd] M M := fm.rf
  refine ps_st (S' := (1, [(0, .ref r), (1, .int 2)], [.int 2], M)) rfl rfl rfl ?_
  refine ps_st (S' := (2, [(0, .ref r), (1, .int 2)], [.ref r, .int 2], M)) rfl rfl rfl ?_
  refine ps_get (S' := (5, [(0, .ref r), (1, .int 2)], [.ref b, .int 2], M)) rfl h_r rfl rfl ?_
  refine pl_call (a := [.ref b]) (rest := [.int 2]) rfl rfl rfl (dx_size h_b h_da (hn)) (fun v1 M2 q3 => ?_)
  obtain ⟨rfl, f4⟩ := q3
  have h6 := (f4.1 r (by simp)).trans h_r
  have h7 := (f4.1 b (by simp)).trans h_b
  have h8 := (f4.1 da (by simp)).trans h_da
  have h9 := (f4.1 vd (by simp)).trans h_vd
  have hF10 := hF.tr f4 (by simp)
  show pl _ _ _ (8, [(0, .ref r), (1, .int 2)], [.int (sp_size n f ), .int 2], M2) _
  refine ps_st (S' := (9, [(0, .ref r), (1, .int 2)], [.ref r, .int (sp_size n f ), .int 2], M2)) rfl rfl rfl ?_
  refine ps_get (S' := (12, [(0, .ref r), (1, .int 2)], [.int (nI p), .int (sp_size n f ), .int 2], M2)) rfl h6 rfl rfl ?_
  refine ps_st (S' := (13, [(0, .ref r), (1, .int 2)], [.int ((sp_size n f ) - (nI p)), .int 2], M2)) rfl rfl rfl ?_
  refine ps_if2 (S1 := (29, [(0, .ref r), (1, .int 2)], [], M2)) (S2 := (16, [(0, .ref r), (1, .int 2)], [], M2)) rfl rfl rfl (fun c_13 => ?_) (fun c_13 => ?_)
  · have c_13 : 2 ≤ ((sp_size n f ) - (nI p)) := of_decide_eq_true c_13
    have n_13 : p + 2 ≤ n := (le_szn (x := 2) (p := p) (f := f) (by decide) hn (by omega)).mp c_13
    refine ps_st (S' := (30, [(0, .ref r), (1, .int 2)], [.int 2], M2)) rfl rfl rfl ?_
    refine ps_st (S' := (31, [(0, .ref r), (1, .int 2)], [.int 1, .int 2], M2)) rfl rfl rfl ?_
    refine ps_if2 (S1 := (52, [(0, .ref r), (1, .int 2)], [], M2)) (S2 := (34, [(0, .ref r), (1, .int 2)], [], M2)) rfl rfl rfl (fun c_31 => ?_) (fun c_31 => ?_)
    rotate_left
    · exact absurd (by decide) (of_decide_eq_false c_31)
    refine ps_st (S' := (53, [(0, .ref r), (1, .int 2)], [.ref r], M2)) rfl rfl rfl ?_
    refine ps_st (S' := (54, [(0, .ref r), (1, .int 2)], [.int 2, .ref r], M2)) rfl rfl rfl ?_
    refine ps_st (S' := (55, [(0, .ref r), (1, .int 2)], [.int 2, .int 2, .ref r], M2)) rfl rfl rfl ?_
    refine ps_if2 (S1 := (72, [(0, .ref r), (1, .int 2)], [.ref r], M2)) (S2 := (58, [(0, .ref r), (1, .int 2)], [.ref r], M2)) rfl rfl rfl (fun c_55 => ?_) (fun c_55 => ?_)
    · exact absurd (of_decide_eq_true c_55) (fun h => h rfl)
    refine ps_st (S' := (59, [(0, .ref r), (1, .int 2)], [.ref r, .ref r], M2)) rfl rfl rfl ?_
    refine ps_get (S' := (62, [(0, .ref r), (1, .int 2)], [.ref b, .ref r], M2)) rfl h6 rfl rfl ?_
    refine ps_st (S' := (63, [(0, .ref r), (1, .int 2)], [.ref r, .ref b, .ref r], M2)) rfl rfl rfl ?_
    refine ps_get (S' := (66, [(0, .ref r), (1, .int 2)], [.int (nI p), .ref b, .ref r], M2)) rfl h6 rfl rfl ?_
    refine pl_call (a := [.ref b, .int (nI p)]) (rest := [.ref r]) rfl rfl rfl (dx_u2 h7 h8 (hn)) (fun v11 M12 q13 => ?_)
    obtain ⟨rfl, f14⟩ := q13
    have h16 := (f14.1 r (by simp)).trans h6
    have h17 := (f14.1 b (by simp)).trans h7
    have h18 := (f14.1 da (by simp)).trans h8
    have h19 := (f14.1 vd (by simp)).trans h9
    have hF20 := hF10.tr f14 (by simp)
    show pl _ _ _ (69, [(0, .ref r), (1, .int 2)], [.int (sp_u2 n f (nI p)), .ref r], M12) _
    refine ps_st (S' := (83, [(0, .ref r), (1, .int 2)], [.int (sp_u2 n f (nI p)), .ref r], M12)) rfl rfl rfl ?_
    refine ps_put (l' := [.ref c, .ref b, .ref vd, .int (nI p), .int (sp_u2 n f (nI p))]) rfl h16 rfl rfl (fun M21 h22 f23 z24 => ?_)
    have h25 := (f23 b (ob_ne h17 h16 (by decide))).trans h17
    have h26 := (f23 da (Ne.symm (ob_ar h16 h18))).trans h18
    have h27 := (f23 vd (ob_ne h19 h16 (by decide))).trans h19
    have hF28 := hF20.up (by simp) f23 z24
    show pl _ _ _ (86, [(0, .ref r), (1, .int 2)], [], M21) _
    refine ps_st (S' := (87, [(0, .ref r), (1, .int 2)], [.ref r], M21)) rfl rfl rfl ?_
    refine ps_st (S' := (88, [(0, .ref r), (1, .int 2)], [.ref r, .ref r], M21)) rfl rfl rfl ?_
    refine ps_get (S' := (91, [(0, .ref r), (1, .int 2)], [.int (nI p), .ref r], M21)) rfl h22 rfl rfl ?_
    refine ps_st (S' := (92, [(0, .ref r), (1, .int 2)], [.int 2, .int (nI p), .ref r], M21)) rfl rfl rfl ?_
    refine ps_st (S' := (93, [(0, .ref r), (1, .int 2)], [.int ((nI p) + 2), .ref r], M21)) rfl rfl rfl ?_
    refine ps_put (l' := [.ref c, .ref b, .ref vd, .int ((nI p) + 2), .int (sp_u2 n f (nI p))]) rfl h22 rfl rfl (fun M29 h30 f31 z32 => ?_)
    have h33 := (f31 b (ob_ne h25 h22 (by decide))).trans h25
    have h34 := (f31 da (Ne.symm (ob_ar h22 h26))).trans h26
    have h35 := (f31 vd (ob_ne h27 h22 (by decide))).trans h27
    have hF36 := hF28.up (by simp) f31 z32
    show pl _ _ _ (96, [(0, .ref r), (1, .int 2)], [], M29) _
    refine ps_st (S' := (97, [(0, .ref r), (1, .int 2)], [.int 1], M29)) rfl rfl rfl ?_
    exact ps_ret rfl rfl (have ok := (le_sz (k := 2) rfl (by decide) hn hp).mp c_13; Or.inl ⟨ok, rfl, by rw [h30, nI_plus (j := 2) rfl (by omega), u2_nI hn (by omega)], h35, hF36⟩)
  · have c_13 : ¬ (2 ≤ ((sp_size n f ) - (nI p))) := of_decide_eq_false c_13
    have n_13 : ¬ (p + 2 ≤ n) := fun h9 => c_13 ((le_szn (x := 2) (p := p) (f := f) (by decide) hn (by omega)).mpr h9)
    refine ps_st (S' := (17, [(0, .ref r), (1, .int 2)], [.ref r], M2)) rfl rfl rfl ?_
    refine ps_get (S' := (20, [(0, .ref r), (1, .int 2)], [.ref vd], M2)) rfl h6 rfl rfl ?_
    refine ps_st (S' := (21, [(0, .ref r), (1, .int 2)], [.int 1, .ref vd], M2)) rfl rfl rfl ?_
    refine ps_st (S' := (22, [(0, .ref r), (1, .int 2)], [.ref r, .int 1, .ref vd], M2)) rfl rfl rfl ?_
    refine ps_get (S' := (25, [(0, .ref r), (1, .int 2)], [.int (nI p), .int 1, .ref vd], M2)) rfl h6 rfl rfl ?_
    refine pl_call (a := [.ref vd, .int 1, .int (nI p)]) (rest := []) rfl rfl rfl (dx_wrong h9) (fun v37 M38 q39 => ?_)
    obtain ⟨rfl, h40, f41⟩ := q39
    have h43 := (f41.1 r (nin1 (ob_ne h6 h9 (by decide)))).trans h6
    have h44 := (f41.1 b (nin1 (ob_ne h7 h9 (by decide)))).trans h7
    have h45 := (f41.1 da (nin1 (Ne.symm (ob_ar h9 h8)))).trans h8
    have hF46 := hF10.tr f41 (by simp)
    show pl _ _ _ (28, [(0, .ref r), (1, .int 2)], [.int 0], M38) _
    exact ps_ret rfl rfl (Or.inr ⟨Nat.not_le.mp (fun h => c_13 ((le_sz (k := 2) rfl (by decide) hn hp).mpr h)), rfl, h43, h40, hF46⟩)
set_option maxHeartbeats 1000000 in
theorem dx_takes4 {g : xe_G} {M : mi_H} {r c b vd da n p : Nat} {f : Nat → Int32} {it ru wa : Int32} (h_r : M.1 r = some (ob 9 [.ref c, .ref b, .ref vd, .int (nI p), .int it])) (h_b : M.1 b = some (ob 1 [.ref da])) (h_da : M.1 da = some (ar .byte n f)) (h_vd : M.1 vd = some (ob 10 [.int ru, .int wa])) (hn : n ≤ 65540) (hp : p ≤ n) : pt (mT g) 159 [.ref r, .int 4] M (fun v M' => ((p + 4 ≤ n) ∧ v = some (.int 1) ∧ M'.1 r = some (ob 9 [.ref c, .ref b, .ref vd, .int (nI (p + 4)), .int (nI (by4 f p))]) ∧ M'.1 vd = some (ob 10 [.int ru, .int wa]) ∧ fm [r, vd] M M') ∨ ((n < p + 4) ∧ v = some (.int 0) ∧ M'.1 r = some (ob 9 [.ref c, .ref b, .ref vd, .int (nI p), .int it]) ∧ M'.1 vd = some (ob 10 [.int 1, .int (nI p)]) ∧ fm [r, vd] M M')) := by
  refine pt_in (b := mb_159 g) rfl (fun kf => ?_)
  show pl (mT g) kf (mb_159 g).2 (0, [(0, .ref r), (1, .int 4)], [], M) _
  have hF : fm [r, vd] M M := fm.rf
  refine ps_st (S' := (1, [(0, .ref r), (1, .int 4)], [.int 4], M)) rfl rfl rfl ?_
  refine ps_st (S' := (2, [(0, .ref r), (1, .int 4)], [.ref r, .int 4], M)) rfl rfl rfl ?_
  refine ps_get (S' := (5, [(0, .ref r), (1, .int 4)], [.ref b, .int 4], M)) rfl h_r rfl rfl ?_
  refine pl_call (a := [.ref b]) (rest := [.int 4]) rfl rfl rfl (dx_size h_b h_da (hn)) (fun v1 M2 q3 => ?_)
  obtain ⟨rfl, f4⟩ := q3
  have h6 := (f4.1 r (by simp)).trans h_r
  have h7 := (f4.1 b (by simp)).trans h_b
  have h8 := (f4.1 da (by simp)).trans h_da
  have h9 := (f4.1 vd (by simp)).trans h_vd
  have hF10 := hF.tr f4 (by simp)
  show pl _ _ _ (8, [(0, .ref r), (1, .int 4)], [.int (sp_size n f ), .int 4], M2) _
  refine ps_st (S' := (9, [(0, .ref r), (1, .int 4)], [.ref r, .int (sp_size n f ), .int 4], M2)) rfl rfl rfl ?_
  refine ps_get (S' := (12, [(0, .ref r), (1, .int 4)], [.int (nI p), .int (sp_size n f ), .int 4], M2)) rfl h6 rfl rfl ?_
  refine ps_st (S' := (13, [(0, .ref r), (1, .int 4)], [.int ((sp_size n f ) - (nI p)), .int 4], M2)) rfl rfl rfl ?_
  refine ps_if2 (S1 := (29, [(0, .ref r), (1, .int 4)], [], M2)) (S2 := (16, [(0, .ref r), (1, .int 4)], [], M2)) rfl rfl rfl (fun c_13 => ?_) (fun c_13 => ?_)
  · have c_13 : 4 ≤ ((sp_size n f ) - (nI p)) := of_decide_eq_true c_13
    have n_13 : p + 4 ≤ n := (le_szn (x := 4) (p := p) (f := f) (by decide) hn (by omega)).mp c_13
    refine ps_st (S' := (30, [(0, .ref r), (1, .int 4)], [.int 4], M2)) rfl rfl rfl ?_
    refine ps_st (S' := (31, [(0, .ref r), (1, .int 4)], [.int 1, .int 4], M2)) rfl rfl rfl ?_
    refine ps_if2 (S1 := (52, [(0, .ref r), (1, .int 4)], [], M2)) (S2 := (34, [(0, .ref r), (1, .int 4)], [], M2)) rfl rfl rfl (fun c_31 => ?_) (fun c_31 => ?_)
    rotate_left
    · exact absurd (by decide) (of_decide_eq_false c_31)
    refine ps_st (S' := (53, [(0, .ref r), (1, .int 4)], [.ref r], M2)) rfl rfl rfl ?_
    refine ps_st (S' := (54, [(0, .ref r), (1, .int 4)], [.int 4, .ref r], M2)) rfl rfl rfl ?_
    refine ps_st (S' := (55, [(0, .ref r), (1, .int 4)], [.int 2, .int 4, .ref r], M2)) rfl rfl rfl ?_
    refine ps_if2 (S1 := (72, [(0, .ref r), (1, .int 4)], [.ref r], M2)) (S2 := (58, [(0, .ref r), (1, .int 4)], [.ref r], M2)) rfl rfl rfl (fun c_55 => ?_) (fun c_55 => ?_)
    rotate_left
    · exact absurd (by decide) (of_decide_eq_false c_55)
    refine ps_st (S' := (73, [(0, .ref r), (1, .int 4)], [.ref r, .ref r], M2)) rfl rfl rfl ?_
    refine ps_get (S' := (76, [(0, .ref r), (1, .int 4)], [.ref b, .ref r], M2)) rfl h6 rfl rfl ?_
    refine ps_st (S' := (77, [(0, .ref r), (1, .int 4)], [.ref r, .ref b, .ref r], M2)) rfl rfl rfl ?_
    refine ps_get (S' := (80, [(0, .ref r), (1, .int 4)], [.int (nI p), .ref b, .ref r], M2)) rfl h6 rfl rfl ?_
    refine pl_call (a := [.ref b, .int (nI p)]) (rest := [.ref r]) rfl rfl rfl (dx_u4 h7 h8 (hn)) (fun v11 M12 q13 => ?_)
    obtain ⟨rfl, f14⟩ := q13
    have h16 := (f14.1 r (by simp)).trans h6
    have h17 := (f14.1 b (by simp)).trans h7
    have h18 := (f14.1 da (by simp)).trans h8
    have h19 := (f14.1 vd (by simp)).trans h9
    have hF20 := hF10.tr f14 (by simp)
    show pl _ _ _ (83, [(0, .ref r), (1, .int 4)], [.int (sp_u4 n f (nI p)), .ref r], M12) _
    refine ps_put (l' := [.ref c, .ref b, .ref vd, .int (nI p), .int (sp_u4 n f (nI p))]) rfl h16 rfl rfl (fun M21 h22 f23 z24 => ?_)
    have h25 := (f23 b (ob_ne h17 h16 (by decide))).trans h17
    have h26 := (f23 da (Ne.symm (ob_ar h16 h18))).trans h18
    have h27 := (f23 vd (ob_ne h19 h16 (by decide))).trans h19
    have hF28 := hF20.up (by simp) f23 z24
    show pl _ _ _ (86, [(0, .ref r), (1, .int 4)], [], M21) _
    refine ps_st (S' := (87, [(0, .ref r), (1, .int 4)], [.ref r], M21)) rfl rfl rfl ?_
    refine ps_st (S' := (88, [(0, .ref r), (1, .int 4)], [.ref r, .ref r], M21)) rfl rfl rfl ?_
    refine ps_get (S' := (91, [(0, .ref r), (1, .int 4)], [.int (nI p), .ref r], M21)) rfl h22 rfl rfl ?_
    refine ps_st (S' := (92, [(0, .ref r), (1, .int 4)], [.int 4, .int (nI p), .ref r], M21)) rfl rfl rfl ?_
    refine ps_st (S' := (93, [(0, .ref r), (1, .int 4)], [.int ((nI p) + 4), .ref r], M21)) rfl rfl rfl ?_
    refine ps_put (l' := [.ref c, .ref b, .ref vd, .int ((nI p) + 4), .int (sp_u4 n f (nI p))]) rfl h22 rfl rfl (fun M29 h30 f31 z32 => ?_)
    have h33 := (f31 b (ob_ne h25 h22 (by decide))).trans h25
    have h34 := (f31 da (Ne.symm (ob_ar h22 h26))).trans h26
    have h35 := (f31 vd (ob_ne h27 h22 (by decide))).trans h27
    have hF36 := hF28.up (by simp) f31 z32
    show pl _ _ _ (96, [(0, .ref r), (1, .int 4)], [], M29) _
    refine ps_st (S' := (97, [(0, .ref r), (1, .int 4)], [.int 1], M29)) rfl rfl rfl ?_
    exact ps_ret rfl rfl (have ok := (le_sz (k := 4) rfl (by decide) hn hp).mp c_13; Or.inl ⟨ok, rfl, by rw [h30, nI_plus (j := 4) rfl (by omega), u4_nI hn (by omega)], h35, hF36⟩)
  · have c_13 : ¬ (4 ≤ ((sp_size n f ) - (nI p))) := of_decide_eq_false c_13
    have n_13 : ¬ (p + 4 ≤ n) := fun h9 => c_13 ((le_szn (x := 4) (p := p) (f := f) (by decide) hn (by omega)).mpr h9)
    refine ps_st (S' := (17, [(0, .ref r), (1, .int 4)], [.ref r], M2)) rfl rfl rfl ?_
    refine ps_get (S' := (20, [(0, .ref r), (1, .int 4)], [.ref vd], M2)) rfl h6 rfl rfl ?_
    refine ps_st (S' := (21, [(0, .ref r), (1, .int 4)], [.int 1, .ref vd], M2)) rfl rfl rfl ?_
    refine ps_st (S' := (22, [(0, .ref r), (1, .int 4)], [.ref r, .int 1, .ref vd], M2)) rfl rfl rfl ?_
    refine ps_get (S' := (25, [(0, .ref r), (1, .int 4)], [.int (nI p), .int 1, .ref vd], M2)) rfl h6 rfl rfl ?_
    refine pl_call (a := [.ref vd, .int 1, .int (nI p)]) (rest := []) rfl rfl rfl (dx_wrong h9) (fun v37 M38 q39 => ?_)
    obtain ⟨rfl, h40, f41⟩ := q39
    have h43 := (f41.1 r (nin1 (ob_ne h6 h9 (by decide)))).trans h6
    have h44 := (f41.1 b (nin1 (ob_ne h7 h9 (by decide)))).trans h7
    have h45 := (f41.1 da (nin1 (Ne.symm (ob_ar h9 h8)))).trans h8
    have hF46 := hF10.tr f41 (by simp)
    show pl _ _ _ (28, [(0, .ref r), (1, .int 4)], [.int 0], M38) _
    exact ps_ret rfl rfl (Or.inr ⟨Nat.not_le.mp (fun h => c_13 ((le_sz (k := 4) rfl (by decide) hn hp).mpr h)), rfl, h43, h40, hF46⟩)
end
section
/-! the reader's ways through a file (laid by wip/p4/d2.py) -/
set_option maxHeartbeats 1000000 in
theorem dx_takesHead {g : xe_G} {M : mi_H} {r c b vd da n : Nat} {f : Nat → Int32} {it ru wa mi ma fa ic ac aa k1 k2 k3 k4 k5 k6 k7 : Int32} {u1 u6 u7 : Value} (h_r : M.1 r = some (ob 9 [.ref c, .ref b, .ref vd, .int (nI 0), .int it])) (h_b : M.1 b = some (ob 1 [.ref da])) (h_da : M.1 da = some (ar .byte n f)) (h_vd : M.1 vd = some (ob 10 [.int ru, .int wa])) (h_c : M.1 c = some (ob 3 [.ref b, u1, .int mi, .int ma, .int fa, .int ic, u6, u7, .int ac, .int aa, .int k1, .int k2, .int k3, .int k4, .int k5, .int k6, .int k7])) (hn : n ≤ 65540) : pt (mT g) 165 [.ref r] M (fun v M' => ((s_head f n = (0, 0)) ∧ v = some (.int 1) ∧ M'.1 r = some (ob 9 [.ref c, .ref b, .ref vd, .int (nI 8), .int (nI (by2 f 6))]) ∧ M'.1 vd = some (ob 10 [.int ru, .int wa]) ∧ M'.1 c = some (ob 3 [.ref b, u1, .int (nI (by2 f 4)), .int (nI (by2 f 6)), .int fa, .int ic, u6, u7, .int ac, .int aa, .int k1, .int k2, .int k3, .int k4, .int k5, .int k6, .int k7]) ∧ fm [r, vd, c] M M') ∨ (∃ (e1 e2 : Nat), (s_head f n = (e1, e2)) ∧ (¬ e1 = 0) ∧ v = some (.int 0) ∧ M'.1 vd = some (ob 10 [.int (nI e1), .int (nI e2)]) ∧ fm [r, vd, c] M M')) := by
  refine pt_in (b := mb_165 g) rfl (fun kf => ?_)
  show pl (mT g) kf (mb_165 g).2 (0, [(0, .ref r)], [], M) _
  have hF : fm [r, vd, c] M M := fm.rf
  refine ps_st (S' := (1, [(0, .ref r)], [.ref r], M)) rfl rfl rfl ?_
  refine ps_st (S' := (2, [(0, .ref r)], [.int 4, .ref r], M)) rfl rfl rfl ?_
  refine pl_call (a := [.ref r, .int 4]) (rest := []) rfl rfl rfl (dx_takes4 h_r h_b h_da h_vd (hn) (by omega)) (fun v1 M2 q3 => ?_)
  rcases q3 with q3 | q3
  · skip
    obtain ⟨q2_ok, rfl, h4, h5, f6⟩ := q3
    have h8 := (f6.1 b (nin2 (ob_ne h_b h_r (by decide)) (ob_ne h_b h_vd (by decide)))).trans h_b
    have h9 := (f6.1 da (nin2 (Ne.symm (ob_ar h_r h_da)) (Ne.symm (ob_ar h_vd h_da)))).trans h_da
    have h10 := (f6.1 c (nin2 (ob_ne h_c h_r (by decide)) (ob_ne h_c h_vd (by decide)))).trans h_c
    have hF11 := hF.tr f6 (by simp)
    show pl _ _ _ (5, [(0, .ref r)], [.int 1], M2) _
    refine ps_if (S1 := (10, [(0, .ref r)], [], M2)) (S2 := (8, [(0, .ref r)], [], M2)) rfl rfl rfl (fun c_5 => ?_) (fun c_5 => ?_)
    rotate_left
    · exact absurd (by decide) (of_decide_eq_false c_5)
    refine ps_st (S' := (11, [(0, .ref r)], [.ref r], M2)) rfl rfl rfl ?_
    refine ps_get (S' := (14, [(0, .ref r)], [.int (nI (by4 f 0))], M2)) rfl h4 rfl rfl ?_
    refine ps_st (S' := (16, [(0, .ref r)], [.int (-889275714), .int (nI (by4 f 0))], M2)) rfl rfl rfl ?_
    refine ps_if2 (S1 := (29, [(0, .ref r)], [], M2)) (S2 := (19, [(0, .ref r)], [], M2)) rfl rfl rfl (fun c_16 => ?_) (fun c_16 => ?_)
    · have c_16 : (nI (by4 f 0)) = (-889275714) := of_decide_eq_true c_16
      have n_16 : by4 f 0 = 3405691582 := (nI_big (p := by4 f 0) (n := 3405691582) (by4_lt _ _) (by decide)).mp c_16
      refine ps_st (S' := (30, [(0, .ref r)], [.ref r], M2)) rfl rfl rfl ?_
      refine ps_st (S' := (31, [(0, .ref r)], [.int 2, .ref r], M2)) rfl rfl rfl ?_
      refine pl_call (a := [.ref r, .int 2]) (rest := []) rfl rfl rfl (dx_takes2 h4 h8 h9 h5 (hn) (by omega)) (fun v12 M13 q14 => ?_)
      rcases q14 with q14 | q14
      · skip
        obtain ⟨q31_ok, rfl, h15, h16, f17⟩ := q14
        have h19 := (f17.1 b (nin2 (ob_ne h8 h4 (by decide)) (ob_ne h8 h5 (by decide)))).trans h8
        have h20 := (f17.1 da (nin2 (Ne.symm (ob_ar h4 h9)) (Ne.symm (ob_ar h5 h9)))).trans h9
        have h21 := (f17.1 c (nin2 (ob_ne h10 h4 (by decide)) (ob_ne h10 h5 (by decide)))).trans h10
        have hF22 := hF11.tr f17 (by simp)
        show pl _ _ _ (34, [(0, .ref r)], [.int 1], M13) _
        refine ps_if (S1 := (39, [(0, .ref r)], [], M13)) (S2 := (37, [(0, .ref r)], [], M13)) rfl rfl rfl (fun c_34 => ?_) (fun c_34 => ?_)
        rotate_left
        · exact absurd (by decide) (of_decide_eq_false c_34)
        refine ps_st (S' := (40, [(0, .ref r)], [.ref r], M13)) rfl rfl rfl ?_
        refine ps_get (S' := (43, [(0, .ref r)], [.ref c], M13)) rfl h15 rfl rfl ?_
        refine ps_st (S' := (44, [(0, .ref r)], [.ref r, .ref c], M13)) rfl rfl rfl ?_
        refine ps_get (S' := (47, [(0, .ref r)], [.int (nI (by2 f 4)), .ref c], M13)) rfl h15 rfl rfl ?_
        refine ps_put (l' := [.ref b, u1, .int (nI (by2 f 4)), .int ma, .int fa, .int ic, u6, u7, .int ac, .int aa, .int k1, .int k2, .int k3, .int k4, .int k5, .int k6, .int k7]) rfl h21 rfl rfl (fun M23 h24 f25 z26 => ?_)
        have h27 := (f25 r (ob_ne h15 h21 (by decide))).trans h15
        have h28 := (f25 b (ob_ne h19 h21 (by decide))).trans h19
        have h29 := (f25 da (Ne.symm (ob_ar h21 h20))).trans h20
        have h30 := (f25 vd (ob_ne h16 h21 (by decide))).trans h16
        have hF31 := hF22.up (by simp) f25 z26
        show pl _ _ _ (50, [(0, .ref r)], [], M23) _
        refine ps_st (S' := (51, [(0, .ref r)], [.ref r], M23)) rfl rfl rfl ?_
        refine ps_st (S' := (52, [(0, .ref r)], [.int 2, .ref r], M23)) rfl rfl rfl ?_
        refine pl_call (a := [.ref r, .int 2]) (rest := []) rfl rfl rfl (dx_takes2 h27 h28 h29 h30 (hn) (by omega)) (fun v32 M33 q34 => ?_)
        rcases q34 with q34 | q34
        · skip
          obtain ⟨q52_ok, rfl, h35, h36, f37⟩ := q34
          have h39 := (f37.1 b (nin2 (ob_ne h28 h27 (by decide)) (ob_ne h28 h30 (by decide)))).trans h28
          have h40 := (f37.1 da (nin2 (Ne.symm (ob_ar h27 h29)) (Ne.symm (ob_ar h30 h29)))).trans h29
          have h41 := (f37.1 c (nin2 (ob_ne h24 h27 (by decide)) (ob_ne h24 h30 (by decide)))).trans h24
          have hF42 := hF31.tr f37 (by simp)
          show pl _ _ _ (55, [(0, .ref r)], [.int 1], M33) _
          refine ps_if (S1 := (60, [(0, .ref r)], [], M33)) (S2 := (58, [(0, .ref r)], [], M33)) rfl rfl rfl (fun c_55 => ?_) (fun c_55 => ?_)
          rotate_left
          · exact absurd (by decide) (of_decide_eq_false c_55)
          refine ps_st (S' := (61, [(0, .ref r)], [.ref r], M33)) rfl rfl rfl ?_
          refine ps_get (S' := (64, [(0, .ref r)], [.ref c], M33)) rfl h35 rfl rfl ?_
          refine ps_st (S' := (65, [(0, .ref r)], [.ref r, .ref c], M33)) rfl rfl rfl ?_
          refine ps_get (S' := (68, [(0, .ref r)], [.int (nI (by2 f 6)), .ref c], M33)) rfl h35 rfl rfl ?_
          refine ps_put (l' := [.ref b, u1, .int (nI (by2 f 4)), .int (nI (by2 f 6)), .int fa, .int ic, u6, u7, .int ac, .int aa, .int k1, .int k2, .int k3, .int k4, .int k5, .int k6, .int k7]) rfl h41 rfl rfl (fun M43 h44 f45 z46 => ?_)
          have h47 := (f45 r (ob_ne h35 h41 (by decide))).trans h35
          have h48 := (f45 b (ob_ne h39 h41 (by decide))).trans h39
          have h49 := (f45 da (Ne.symm (ob_ar h41 h40))).trans h40
          have h50 := (f45 vd (ob_ne h36 h41 (by decide))).trans h36
          have hF51 := hF42.up (by simp) f45 z46
          show pl _ _ _ (71, [(0, .ref r)], [], M43) _
          refine ps_st (S' := (72, [(0, .ref r)], [.ref r], M43)) rfl rfl rfl ?_
          refine ps_get (S' := (75, [(0, .ref r)], [.int (nI (by2 f 6))], M43)) rfl h47 rfl rfl ?_
          refine ps_st (S' := (77, [(0, .ref r)], [.int 45, .int (nI (by2 f 6))], M43)) rfl rfl rfl ?_
          refine ps_if2 (S1 := (108, [(0, .ref r)], [], M43)) (S2 := (80, [(0, .ref r)], [], M43)) rfl rfl rfl (fun c_77 => ?_) (fun c_77 => ?_)
          · have c_77 : (nI (by2 f 6)) < 45 := of_decide_eq_true c_77
            have n_77 : by2 f 6 < 45 := (lt_nI (p := by2 f 6) (n := 45) (Nat.lt_trans (by2_lt _ _) (by decide)) (by decide)).mp c_77
            refine ps_st (S' := (109, [(0, .ref r)], [.ref r], M43)) rfl rfl rfl ?_
            refine ps_get (S' := (112, [(0, .ref r)], [.ref vd], M43)) rfl h47 rfl rfl ?_
            refine ps_st (S' := (113, [(0, .ref r)], [.int 3, .ref vd], M43)) rfl rfl rfl ?_
            refine ps_st (S' := (114, [(0, .ref r)], [.int 4, .int 3, .ref vd], M43)) rfl rfl rfl ?_
            refine pl_call (a := [.ref vd, .int 3, .int 4]) (rest := []) rfl rfl rfl (dx_wrong h50) (fun v52 M53 q54 => ?_)
            obtain ⟨rfl, h55, f56⟩ := q54
            have h58 := (f56.1 r (nin1 (ob_ne h47 h50 (by decide)))).trans h47
            have h59 := (f56.1 b (nin1 (ob_ne h48 h50 (by decide)))).trans h48
            have h60 := (f56.1 da (nin1 (Ne.symm (ob_ar h50 h49)))).trans h49
            have h61 := (f56.1 c (nin1 (ob_ne h44 h50 (by decide)))).trans h44
            have hF62 := hF51.tr f56 (by simp)
            show pl _ _ _ (117, [(0, .ref r)], [.int 0], M53) _
            exact ps_ret rfl rfl (Or.inr ⟨3, 4, by
                have b6 := by2_lt f 6
                have b4 := by2_lt f 4
                unfold s_head
                repeat' split
                all_goals first | rfl | (exfalso; omega), by decide, rfl, h55, hF62⟩)
          · have c_77 : ¬ ((nI (by2 f 6)) < 45) := of_decide_eq_false c_77
            have n_77 : ¬ (by2 f 6 < 45) := fun h9 => c_77 ((lt_nI (p := by2 f 6) (n := 45) (Nat.lt_trans (by2_lt _ _) (by decide)) (by decide)).mpr h9)
            refine ps_st (S' := (81, [(0, .ref r)], [.ref r], M43)) rfl rfl rfl ?_
            refine ps_get (S' := (84, [(0, .ref r)], [.int (nI (by2 f 6))], M43)) rfl h47 rfl rfl ?_
            refine ps_st (S' := (86, [(0, .ref r)], [.int 61, .int (nI (by2 f 6))], M43)) rfl rfl rfl ?_
            refine ps_if2 (S1 := (108, [(0, .ref r)], [], M43)) (S2 := (89, [(0, .ref r)], [], M43)) rfl rfl rfl (fun c_86 => ?_) (fun c_86 => ?_)
            · have c_86 : 61 < (nI (by2 f 6)) := of_decide_eq_true c_86
              have n_86 : 61 < by2 f 6 := (lt_nI (p := 61) (n := by2 f 6) (by decide) (Nat.lt_trans (by2_lt _ _) (by decide))).mp c_86
              refine ps_st (S' := (109, [(0, .ref r)], [.ref r], M43)) rfl rfl rfl ?_
              refine ps_get (S' := (112, [(0, .ref r)], [.ref vd], M43)) rfl h47 rfl rfl ?_
              refine ps_st (S' := (113, [(0, .ref r)], [.int 3, .ref vd], M43)) rfl rfl rfl ?_
              refine ps_st (S' := (114, [(0, .ref r)], [.int 4, .int 3, .ref vd], M43)) rfl rfl rfl ?_
              refine pl_call (a := [.ref vd, .int 3, .int 4]) (rest := []) rfl rfl rfl (dx_wrong h50) (fun v63 M64 q65 => ?_)
              obtain ⟨rfl, h66, f67⟩ := q65
              have h69 := (f67.1 r (nin1 (ob_ne h47 h50 (by decide)))).trans h47
              have h70 := (f67.1 b (nin1 (ob_ne h48 h50 (by decide)))).trans h48
              have h71 := (f67.1 da (nin1 (Ne.symm (ob_ar h50 h49)))).trans h49
              have h72 := (f67.1 c (nin1 (ob_ne h44 h50 (by decide)))).trans h44
              have hF73 := hF51.tr f67 (by simp)
              show pl _ _ _ (117, [(0, .ref r)], [.int 0], M64) _
              exact ps_ret rfl rfl (Or.inr ⟨3, 4, by
                  have b6 := by2_lt f 6
                  have b4 := by2_lt f 4
                  unfold s_head
                  repeat' split
                  all_goals first | rfl | (exfalso; omega), by decide, rfl, h66, hF73⟩)
            · have c_86 : ¬ (61 < (nI (by2 f 6))) := of_decide_eq_false c_86
              have n_86 : ¬ (61 < by2 f 6) := fun h9 => c_86 ((lt_nI (p := 61) (n := by2 f 6) (by decide) (Nat.lt_trans (by2_lt _ _) (by decide))).mpr h9)
              refine ps_st (S' := (90, [(0, .ref r)], [.ref r], M43)) rfl rfl rfl ?_
              refine ps_get (S' := (93, [(0, .ref r)], [.int (nI (by2 f 6))], M43)) rfl h47 rfl rfl ?_
              refine ps_st (S' := (95, [(0, .ref r)], [.int 56, .int (nI (by2 f 6))], M43)) rfl rfl rfl ?_
              refine ps_if2 (S1 := (118, [], [], M43)) (S2 := (98, [(0, .ref r)], [], M43)) rfl rfl rfl (fun c_95 => ?_) (fun c_95 => ?_)
              · have c_95 : (nI (by2 f 6)) < 56 := of_decide_eq_true c_95
                have n_95 : by2 f 6 < 56 := (lt_nI (p := by2 f 6) (n := 56) (Nat.lt_trans (by2_lt _ _) (by decide)) (by decide)).mp c_95
                refine ps_st (S' := (119, [], [.int 1], M43)) rfl rfl rfl ?_
                exact ps_ret rfl rfl (Or.inl ⟨by
                    have b6 := by2_lt f 6
                    have b4 := by2_lt f 4
                    unfold s_head
                    repeat' split
                    all_goals first | rfl | (exfalso; omega), rfl, h47, h50, h44, hF51⟩)
              · have c_95 : ¬ ((nI (by2 f 6)) < 56) := of_decide_eq_false c_95
                have n_95 : ¬ (by2 f 6 < 56) := fun h9 => c_95 ((lt_nI (p := by2 f 6) (n := 56) (Nat.lt_trans (by2_lt _ _) (by decide)) (by decide)).mpr h9)
                refine ps_st (S' := (99, [(0, .ref r)], [.ref r], M43)) rfl rfl rfl ?_
                refine ps_get (S' := (102, [(0, .ref r)], [.ref c], M43)) rfl h47 rfl rfl ?_
                refine ps_get (S' := (105, [(0, .ref r)], [.int (nI (by2 f 4))], M43)) rfl h44 rfl rfl ?_
                refine ps_if (S1 := (118, [], [], M43)) (S2 := (108, [(0, .ref r)], [], M43)) rfl rfl rfl (fun c_105 => ?_) (fun c_105 => ?_)
                · have c_105 : (nI (by2 f 4)) = 0 := of_decide_eq_true c_105
                  have n_105 : by2 f 4 = 0 := (eq_nI (p := by2 f 4) (n := 0) (Nat.lt_trans (by2_lt _ _) (by decide)) (by decide)).mp c_105
                  refine ps_st (S' := (119, [], [.int 1], M43)) rfl rfl rfl ?_
                  exact ps_ret rfl rfl (Or.inl ⟨by
                      have b6 := by2_lt f 6
                      have b4 := by2_lt f 4
                      unfold s_head
                      repeat' split
                      all_goals first | rfl | (exfalso; omega), rfl, h47, h50, h44, hF51⟩)
                · have c_105 : ¬ ((nI (by2 f 4)) = 0) := of_decide_eq_false c_105
                  have n_105 : ¬ (by2 f 4 = 0) := fun h9 => c_105 ((eq_nI (p := by2 f 4) (n := 0) (Nat.lt_trans (by2_lt _ _) (by decide)) (by decide)).mpr h9)
                  refine ps_st (S' := (109, [(0, .ref r)], [.ref r], M43)) rfl rfl rfl ?_
                  refine ps_get (S' := (112, [(0, .ref r)], [.ref vd], M43)) rfl h47 rfl rfl ?_
                  refine ps_st (S' := (113, [(0, .ref r)], [.int 3, .ref vd], M43)) rfl rfl rfl ?_
                  refine ps_st (S' := (114, [(0, .ref r)], [.int 4, .int 3, .ref vd], M43)) rfl rfl rfl ?_
                  refine pl_call (a := [.ref vd, .int 3, .int 4]) (rest := []) rfl rfl rfl (dx_wrong h50) (fun v74 M75 q76 => ?_)
                  obtain ⟨rfl, h77, f78⟩ := q76
                  have h80 := (f78.1 r (nin1 (ob_ne h47 h50 (by decide)))).trans h47
                  have h81 := (f78.1 b (nin1 (ob_ne h48 h50 (by decide)))).trans h48
                  have h82 := (f78.1 da (nin1 (Ne.symm (ob_ar h50 h49)))).trans h49
                  have h83 := (f78.1 c (nin1 (ob_ne h44 h50 (by decide)))).trans h44
                  have hF84 := hF51.tr f78 (by simp)
                  show pl _ _ _ (117, [(0, .ref r)], [.int 0], M75) _
                  exact ps_ret rfl rfl (Or.inr ⟨3, 4, by
                      have b6 := by2_lt f 6
                      have b4 := by2_lt f 4
                      unfold s_head
                      repeat' split
                      all_goals first | rfl | (exfalso; omega), by decide, rfl, h77, hF84⟩)
        · skip
          obtain ⟨q52_no, rfl, h85, h86, f87⟩ := q34
          have h89 := (f87.1 b (nin2 (ob_ne h28 h27 (by decide)) (ob_ne h28 h30 (by decide)))).trans h28
          have h90 := (f87.1 da (nin2 (Ne.symm (ob_ar h27 h29)) (Ne.symm (ob_ar h30 h29)))).trans h29
          have h91 := (f87.1 c (nin2 (ob_ne h24 h27 (by decide)) (ob_ne h24 h30 (by decide)))).trans h24
          have hF92 := hF31.tr f87 (by simp)
          show pl _ _ _ (55, [(0, .ref r)], [.int 0], M33) _
          refine ps_if (S1 := (60, [(0, .ref r)], [], M33)) (S2 := (58, [(0, .ref r)], [], M33)) rfl rfl rfl (fun c_55 => ?_) (fun c_55 => ?_)
          · exact absurd (of_decide_eq_true c_55) (by decide)
          refine ps_st (S' := (59, [(0, .ref r)], [.int 0], M33)) rfl rfl rfl ?_
          exact ps_ret rfl rfl (Or.inr ⟨1, 6, by
              have b6 := by2_lt f 6
              have b4 := by2_lt f 4
              unfold s_head
              repeat' split
              all_goals first | rfl | (exfalso; omega), by decide, rfl, h86, hF92⟩)
      · skip
        obtain ⟨q31_no, rfl, h93, h94, f95⟩ := q14
        have h97 := (f95.1 b (nin2 (ob_ne h8 h4 (by decide)) (ob_ne h8 h5 (by decide)))).trans h8
        have h98 := (f95.1 da (nin2 (Ne.symm (ob_ar h4 h9)) (Ne.symm (ob_ar h5 h9)))).trans h9
        have h99 := (f95.1 c (nin2 (ob_ne h10 h4 (by decide)) (ob_ne h10 h5 (by decide)))).trans h10
        have hF100 := hF11.tr f95 (by simp)
        show pl _ _ _ (34, [(0, .ref r)], [.int 0], M13) _
        refine ps_if (S1 := (39, [(0, .ref r)], [], M13)) (S2 := (37, [(0, .ref r)], [], M13)) rfl rfl rfl (fun c_34 => ?_) (fun c_34 => ?_)
        · exact absurd (of_decide_eq_true c_34) (by decide)
        refine ps_st (S' := (38, [(0, .ref r)], [.int 0], M13)) rfl rfl rfl ?_
        exact ps_ret rfl rfl (Or.inr ⟨1, 4, by
            have b6 := by2_lt f 6
            have b4 := by2_lt f 4
            unfold s_head
            repeat' split
            all_goals first | rfl | (exfalso; omega), by decide, rfl, h94, hF100⟩)
    · have c_16 : ¬ ((nI (by4 f 0)) = (-889275714)) := of_decide_eq_false c_16
      have n_16 : ¬ (by4 f 0 = 3405691582) := fun h9 => c_16 ((nI_big (p := by4 f 0) (n := 3405691582) (by4_lt _ _) (by decide)).mpr h9)
      refine ps_st (S' := (20, [(0, .ref r)], [.ref r], M2)) rfl rfl rfl ?_
      refine ps_get (S' := (23, [(0, .ref r)], [.ref vd], M2)) rfl h4 rfl rfl ?_
      refine ps_st (S' := (24, [(0, .ref r)], [.int 2, .ref vd], M2)) rfl rfl rfl ?_
      refine ps_st (S' := (25, [(0, .ref r)], [.int 0, .int 2, .ref vd], M2)) rfl rfl rfl ?_
      refine pl_call (a := [.ref vd, .int 2, .int 0]) (rest := []) rfl rfl rfl (dx_wrong h5) (fun v101 M102 q103 => ?_)
      obtain ⟨rfl, h104, f105⟩ := q103
      have h107 := (f105.1 r (nin1 (ob_ne h4 h5 (by decide)))).trans h4
      have h108 := (f105.1 b (nin1 (ob_ne h8 h5 (by decide)))).trans h8
      have h109 := (f105.1 da (nin1 (Ne.symm (ob_ar h5 h9)))).trans h9
      have h110 := (f105.1 c (nin1 (ob_ne h10 h5 (by decide)))).trans h10
      have hF111 := hF11.tr f105 (by simp)
      show pl _ _ _ (28, [(0, .ref r)], [.int 0], M102) _
      exact ps_ret rfl rfl (Or.inr ⟨2, 0, by
          have b6 := by2_lt f 6
          have b4 := by2_lt f 4
          unfold s_head
          repeat' split
          all_goals first | rfl | (exfalso; omega), by decide, rfl, h104, hF111⟩)
  · skip
    obtain ⟨q2_no, rfl, h112, h113, f114⟩ := q3
    have h116 := (f114.1 b (nin2 (ob_ne h_b h_r (by decide)) (ob_ne h_b h_vd (by decide)))).trans h_b
    have h117 := (f114.1 da (nin2 (Ne.symm (ob_ar h_r h_da)) (Ne.symm (ob_ar h_vd h_da)))).trans h_da
    have h118 := (f114.1 c (nin2 (ob_ne h_c h_r (by decide)) (ob_ne h_c h_vd (by decide)))).trans h_c
    have hF119 := hF.tr f114 (by simp)
    show pl _ _ _ (5, [(0, .ref r)], [.int 0], M2) _
    refine ps_if (S1 := (10, [(0, .ref r)], [], M2)) (S2 := (8, [(0, .ref r)], [], M2)) rfl rfl rfl (fun c_5 => ?_) (fun c_5 => ?_)
    · exact absurd (of_decide_eq_true c_5) (by decide)
    refine ps_st (S' := (9, [(0, .ref r)], [.int 0], M2)) rfl rfl rfl ?_
    exact ps_ret rfl rfl (Or.inr ⟨1, 0, by
        have b6 := by2_lt f 6
        have b4 := by2_lt f 4
        unfold s_head
        repeat' split
        all_goals first | rfl | (exfalso; omega), by decide, rfl, h113, hF119⟩)
set_option maxHeartbeats 1000000 in
theorem dx_takesAttributes {g : xe_G} {M : mi_H} {r c b vd da n p : Nat} {f : Nat → Int32} {it ru wa : Int32} (h_r : M.1 r = some (ob 9 [.ref c, .ref b, .ref vd, .int (nI p), .int it])) (h_b : M.1 b = some (ob 1 [.ref da])) (h_da : M.1 da = some (ar .byte n f)) (h_vd : M.1 vd = some (ob 10 [.int ru, .int wa])) (hn : n ≤ 65540) (hp : p ≤ n) : pt (mT g) 160 [.ref r] M (fun v M' => (∃ (p' : Nat) (it' : Int32), (s_attributes f n p = .inr p') ∧ v = some (.int 1) ∧ M'.1 r = some (ob 9 [.ref c, .ref b, .ref vd, .int (nI p'), .int it']) ∧ M'.1 vd = some (ob 10 [.int ru, .int wa]) ∧ fm [r, vd] M M') ∨ (∃ (e : Nat × Nat), (s_attributes f n p = .inl e) ∧ v = some (.int 0) ∧ M'.1 vd = some (ob 10 [.int (nI e.1), .int (nI e.2)]) ∧ fm [r, vd] M M')) := by
  refine pt_in (b := mb_160 g) rfl (fun kf => ?_)
  show pl (mT g) kf (mb_160 g).2 (0, [(0, .ref r)], [], M) _
  have hF : fm [r, vd] M M := fm.rf
  have hb2 := by2_lt f p
  have L17 : ∀ (kf : Nat) (i p1 : Nat) (it1 : Int32) (M1 : mi_H), (M1.1 r = some (ob 9 [.ref c, .ref b, .ref vd, .int (nI p1), .int it1])) → (M1.1 b = some (ob 1 [.ref da])) → (M1.1 da = some (ar .byte n f)) → (M1.1 vd = some (ob 10 [.int ru, .int wa])) → (fm [r, vd] M M1) → (i ≤ by2 f p) → (p1 ≤ n) → (p + 2 ≤ n) → (s_atts f n (by2 f p - i) p1 = s_atts f n (by2 f p) (p + 2)) → pl (mT g) kf (mb_160 g).2 (17, [(0, .ref r), (1, .int (nI (by2 f p))), (2, .int (nI i))], [], M1) (fun v M' => (∃ (p' : Nat) (it' : Int32), (s_attributes f n p = .inr p') ∧ v = some (.int 1) ∧ M'.1 r = some (ob 9 [.ref c, .ref b, .ref vd, .int (nI p'), .int it']) ∧ M'.1 vd = some (ob 10 [.int ru, .int wa]) ∧ fm [r, vd] M M') ∨ (∃ (e : Nat × Nat), (s_attributes f n p = .inl e) ∧ v = some (.int 0) ∧ M'.1 vd = some (ob 10 [.int (nI e.1), .int (nI e.2)]) ∧ fm [r, vd] M M')) := by
    intro kf
    induction kf with
    | zero => intros; exact pl_0
    | succ kf ih =>
      intro i p1 it1 M1 hl_r hl_b hl_da hl_vd hF1 hi hp1 hp2 hs
      have hb2 := by2_lt f p
      refine ps_st1 (S' := (18, [(0, .ref r), (1, .int (nI (by2 f p))), (2, .int (nI i))], [.int (nI i)], M1)) rfl rfl rfl ?_
      refine ps_st (S' := (19, [(0, .ref r), (1, .int (nI (by2 f p))), (2, .int (nI i))], [.int (nI (by2 f p)), .int (nI i)], M1)) rfl rfl rfl ?_
      refine ps_if2 (S1 := (98, [(0, .ref r), (1, .int (nI (by2 f p))), (2, .int (nI i))], [], M1)) (S2 := (22, [(0, .ref r), (1, .int (nI (by2 f p))), (2, .int (nI i))], [], M1)) rfl rfl rfl (fun c_19 => ?_) (fun c_19 => ?_)
      · have c_19 : (nI (by2 f p)) ≤ (nI i) := of_decide_eq_true c_19
        have n_19 : by2 f p ≤ i := (le_nI (p := by2 f p) (n := i) (Nat.lt_trans (by2_lt _ _) (by decide)) (by omega)).mp c_19
        refine ps_st (S' := (99, [(0, .ref r), (1, .int (nI (by2 f p))), (2, .int (nI i))], [.int 1], M1)) rfl rfl rfl ?_
        exact ps_ret rfl rfl (Or.inl ⟨p1, it1, by unfold s_attributes; rw [if_neg (by omega), ← hs, show by2 f p - i = 0 by omega]; rfl, rfl, hl_r, hl_vd, hF1⟩)
      · have c_19 : ¬ ((nI (by2 f p)) ≤ (nI i)) := of_decide_eq_false c_19
        have n_19 : ¬ (by2 f p ≤ i) := fun h9 => c_19 ((le_nI (p := by2 f p) (n := i) (Nat.lt_trans (by2_lt _ _) (by decide)) (by omega)).mpr h9)
        refine ps_st (S' := (23, [(0, .ref r), (1, .int (nI (by2 f p))), (2, .int (nI i))], [.ref r], M1)) rfl rfl rfl ?_
        refine ps_st (S' := (24, [(0, .ref r), (1, .int (nI (by2 f p))), (2, .int (nI i))], [.int 2, .ref r], M1)) rfl rfl rfl ?_
        refine pl_call (a := [.ref r, .int 2]) (rest := []) rfl rfl rfl (dx_takes2 hl_r hl_b hl_da hl_vd (hn) (by omega)) (fun v1 M2 q3 => ?_)
        rcases q3 with q3 | q3
        · skip
          obtain ⟨q24_ok, rfl, h4, h5, f6⟩ := q3
          have h8 := (f6.1 b (nin2 (ob_ne hl_b hl_r (by decide)) (ob_ne hl_b hl_vd (by decide)))).trans hl_b
          have h9 := (f6.1 da (nin2 (Ne.symm (ob_ar hl_r hl_da)) (Ne.symm (ob_ar hl_vd hl_da)))).trans hl_da
          have hF10 := hF1.tr f6 (by simp)
          show pl _ _ _ (27, [(0, .ref r), (1, .int (nI (by2 f p))), (2, .int (nI i))], [.int 1], M2) _
          refine ps_if (S1 := (38, [], [], M2)) (S2 := (30, [(0, .ref r), (1, .int (nI (by2 f p))), (2, .int (nI i))], [], M2)) rfl rfl rfl (fun c_27 => ?_) (fun c_27 => ?_)
          · exact absurd (of_decide_eq_true c_27) (by decide)
          refine ps_st (S' := (31, [(0, .ref r), (1, .int (nI (by2 f p))), (2, .int (nI i))], [.ref r], M2)) rfl rfl rfl ?_
          refine ps_st (S' := (32, [(0, .ref r), (1, .int (nI (by2 f p))), (2, .int (nI i))], [.int 4, .ref r], M2)) rfl rfl rfl ?_
          refine pl_call (a := [.ref r, .int 4]) (rest := []) rfl rfl rfl (dx_takes4 h4 h8 h9 h5 (hn) (by omega)) (fun v11 M12 q13 => ?_)
          rcases q13 with q13 | q13
          · skip
            obtain ⟨q32_ok, rfl, h14, h15, f16⟩ := q13
            have h18 := (f16.1 b (nin2 (ob_ne h8 h4 (by decide)) (ob_ne h8 h5 (by decide)))).trans h8
            have h19 := (f16.1 da (nin2 (Ne.symm (ob_ar h4 h9)) (Ne.symm (ob_ar h5 h9)))).trans h9
            have hF20 := hF10.tr f16 (by simp)
            show pl _ _ _ (35, [(0, .ref r), (1, .int (nI (by2 f p))), (2, .int (nI i))], [.int 1], M12) _
            refine ps_if (S1 := (40, [(0, .ref r), (1, .int (nI (by2 f p))), (2, .int (nI i))], [], M12)) (S2 := (38, [], [], M12)) rfl rfl rfl (fun c_35 => ?_) (fun c_35 => ?_)
            rotate_left
            · exact absurd (by decide) (of_decide_eq_false c_35)
            refine ps_st (S' := (41, [(0, .ref r), (1, .int (nI (by2 f p))), (2, .int (nI i))], [.ref r], M12)) rfl rfl rfl ?_
            refine ps_get (S' := (44, [(0, .ref r), (1, .int (nI (by2 f p))), (2, .int (nI i))], [.int (nI (by4 f (p1 + 2)))], M12)) rfl h14 rfl rfl ?_
            refine ps_if (S1 := (66, [(0, .ref r)], [], M12)) (S2 := (47, [(0, .ref r), (1, .int (nI (by2 f p))), (2, .int (nI i))], [], M12)) rfl rfl rfl (fun c_44 => ?_) (fun c_44 => ?_)
            · have c_44 : (nI (by4 f (p1 + 2))) < 0 := of_decide_eq_true c_44
              have n_44 : 2147483648 ≤ by4 f (p1 + 2) := (neg_nI (by4_lt _ _)).mp c_44
              refine ps_st (S' := (67, [(0, .ref r)], [.ref r], M12)) rfl rfl rfl ?_
              refine ps_get (S' := (70, [(0, .ref r)], [.ref vd], M12)) rfl h14 rfl rfl ?_
              refine ps_st (S' := (71, [(0, .ref r)], [.int 1, .ref vd], M12)) rfl rfl rfl ?_
              refine ps_st (S' := (72, [(0, .ref r)], [.ref r, .int 1, .ref vd], M12)) rfl rfl rfl ?_
              refine ps_get (S' := (75, [(0, .ref r)], [.int (nI (p1 + 6)), .int 1, .ref vd], M12)) rfl h14 rfl rfl ?_
              refine pl_call (a := [.ref vd, .int 1, .int (nI (p1 + 6))]) (rest := []) rfl rfl rfl (dx_wrong h15) (fun v21 M22 q23 => ?_)
              obtain ⟨rfl, h24, f25⟩ := q23
              have h27 := (f25.1 r (nin1 (ob_ne h14 h15 (by decide)))).trans h14
              have h28 := (f25.1 b (nin1 (ob_ne h18 h15 (by decide)))).trans h18
              have h29 := (f25.1 da (nin1 (Ne.symm (ob_ar h15 h19)))).trans h19
              have hF30 := hF20.tr f25 (by simp)
              show pl _ _ _ (78, [(0, .ref r)], [.int 0], M22) _
              exact ps_ret rfl rfl (Or.inr ⟨(1, p1 + 6), by
                  unfold s_attributes
                  rw [if_neg (by omega), ← hs, show by2 f p - i = (by2 f p - (i + 1)) + 1 by omega]
                  unfold s_atts
                  repeat' split
                  all_goals first | rfl | (exfalso; omega), rfl, h24, hF30⟩)
            · have c_44 : ¬ ((nI (by4 f (p1 + 2))) < 0) := of_decide_eq_false c_44
              have n_44 : ¬ (2147483648 ≤ by4 f (p1 + 2)) := fun h9 => c_44 ((neg_nI (by4_lt _ _)).mpr h9)
              refine ps_st (S' := (48, [(0, .ref r), (1, .int (nI (by2 f p))), (2, .int (nI i))], [.ref r], M12)) rfl rfl rfl ?_
              refine ps_get (S' := (51, [(0, .ref r), (1, .int (nI (by2 f p))), (2, .int (nI i))], [.int (nI (by4 f (p1 + 2)))], M12)) rfl h14 rfl rfl ?_
              refine ps_st (S' := (52, [(0, .ref r), (1, .int (nI (by2 f p))), (2, .int (nI i))], [.ref r, .int (nI (by4 f (p1 + 2)))], M12)) rfl rfl rfl ?_
              refine ps_get (S' := (55, [(0, .ref r), (1, .int (nI (by2 f p))), (2, .int (nI i))], [.ref b, .int (nI (by4 f (p1 + 2)))], M12)) rfl h14 rfl rfl ?_
              refine pl_call (a := [.ref b]) (rest := [.int (nI (by4 f (p1 + 2)))]) rfl rfl rfl (dx_size h18 h19 (hn)) (fun v31 M32 q33 => ?_)
              obtain ⟨rfl, f34⟩ := q33
              have h36 := (f34.1 r (by simp)).trans h14
              have h37 := (f34.1 b (by simp)).trans h18
              have h38 := (f34.1 da (by simp)).trans h19
              have h39 := (f34.1 vd (by simp)).trans h15
              have hF40 := hF20.tr f34 (by simp)
              show pl _ _ _ (58, [(0, .ref r), (1, .int (nI (by2 f p))), (2, .int (nI i))], [.int (sp_size n f ), .int (nI (by4 f (p1 + 2)))], M32) _
              refine ps_st (S' := (59, [(0, .ref r), (1, .int (nI (by2 f p))), (2, .int (nI i))], [.ref r, .int (sp_size n f ), .int (nI (by4 f (p1 + 2)))], M32)) rfl rfl rfl ?_
              refine ps_get (S' := (62, [(0, .ref r), (1, .int (nI (by2 f p))), (2, .int (nI i))], [.int (nI (p1 + 6)), .int (sp_size n f ), .int (nI (by4 f (p1 + 2)))], M32)) rfl h36 rfl rfl ?_
              refine ps_st (S' := (63, [(0, .ref r), (1, .int (nI (by2 f p))), (2, .int (nI i))], [.int ((sp_size n f ) - (nI (p1 + 6))), .int (nI (by4 f (p1 + 2)))], M32)) rfl rfl rfl ?_
              refine ps_if2 (S1 := (79, [(0, .ref r), (1, .int (nI (by2 f p))), (2, .int (nI i))], [], M32)) (S2 := (66, [(0, .ref r)], [], M32)) rfl rfl rfl (fun c_63 => ?_) (fun c_63 => ?_)
              · have c_63 : (nI (by4 f (p1 + 2))) ≤ ((sp_size n f ) - (nI (p1 + 6))) := of_decide_eq_true c_63
                have n_63 : p1 + 6 + by4 f (p1 + 2) ≤ n := (le_szn (x := by4 f (p1 + 2)) (p := p1 + 6) (f := f) (by omega) hn (by omega)).mp c_63
                refine ps_st (S' := (80, [(0, .ref r), (1, .int (nI (by2 f p))), (2, .int (nI i))], [.ref r], M32)) rfl rfl rfl ?_
                refine ps_st (S' := (81, [(0, .ref r), (1, .int (nI (by2 f p))), (2, .int (nI i))], [.ref r, .ref r], M32)) rfl rfl rfl ?_
                refine ps_get (S' := (84, [(0, .ref r), (1, .int (nI (by2 f p))), (2, .int (nI i))], [.int (nI (p1 + 6)), .ref r], M32)) rfl h36 rfl rfl ?_
                refine ps_st (S' := (85, [(0, .ref r), (1, .int (nI (by2 f p))), (2, .int (nI i))], [.ref r, .int (nI (p1 + 6)), .ref r], M32)) rfl rfl rfl ?_
                refine ps_get (S' := (88, [(0, .ref r), (1, .int (nI (by2 f p))), (2, .int (nI i))], [.int (nI (by4 f (p1 + 2))), .int (nI (p1 + 6)), .ref r], M32)) rfl h36 rfl rfl ?_
                refine ps_st (S' := (89, [(0, .ref r), (1, .int (nI (by2 f p))), (2, .int (nI i))], [.int ((nI (p1 + 6)) + (nI (by4 f (p1 + 2)))), .ref r], M32)) rfl rfl rfl ?_
                rw [nI_add1 (p := p1 + 6) (k := by4 f (p1 + 2)) (x := (nI (by4 f (p1 + 2)))) rfl (by omega)]
                show pl _ _ _ (_, [(0, .ref r), (1, .int (nI (by2 f p))), (2, .int (nI i))], [.int (nI (p1 + 6 + by4 f (p1 + 2))), .ref r], M32) _
                refine ps_put (l' := [.ref c, .ref b, .ref vd, .int (nI (p1 + 6 + by4 f (p1 + 2))), .int (nI (by4 f (p1 + 2)))]) rfl h36 rfl rfl (fun M41 h42 f43 z44 => ?_)
                have h45 := (f43 b (ob_ne h37 h36 (by decide))).trans h37
                have h46 := (f43 da (Ne.symm (ob_ar h36 h38))).trans h38
                have h47 := (f43 vd (ob_ne h39 h36 (by decide))).trans h39
                have hF48 := hF40.up (by simp) f43 z44
                show pl _ _ _ (92, [(0, .ref r), (1, .int (nI (by2 f p))), (2, .int (nI i))], [], M41) _
                refine ps_st (S' := (95, [(2, .int ((nI i) + 1)), (0, .ref r), (1, .int (nI (by2 f p)))], [], M41)) rfl rfl rfl ?_
                rw [nI_add1 (p := i) (k := 1) (x := 1) rfl (by omega)]
                show pl _ _ _ (_, [(2, .int (nI (i + 1))), (0, .ref r), (1, .int (nI (by2 f p)))], [], M41) _
                refine ps_st (S' := (17, [(0, .ref r), (1, .int (nI (by2 f p))), (2, .int (nI (i + 1)))], [], M41)) rfl rfl rfl ?_
                exact ih (i + 1) (p1 + 6 + by4 f (p1 + 2)) ((nI (by4 f (p1 + 2)))) M41 h42 h45 h46 h47 hF48 (by omega) (by omega) (by omega) (by
                    rw [← hs, show by2 f p - i = (by2 f p - (i + 1)) + 1 by omega]
                    conv => rhs; unfold s_atts
                    rw [if_neg (by omega), if_neg (by omega), if_neg (by omega)]
                    try (congr 1; omega))
              · have c_63 : ¬ ((nI (by4 f (p1 + 2))) ≤ ((sp_size n f ) - (nI (p1 + 6)))) := of_decide_eq_false c_63
                have n_63 : ¬ (p1 + 6 + by4 f (p1 + 2) ≤ n) := fun h9 => c_63 ((le_szn (x := by4 f (p1 + 2)) (p := p1 + 6) (f := f) (by omega) hn (by omega)).mpr h9)
                refine ps_st (S' := (67, [(0, .ref r)], [.ref r], M32)) rfl rfl rfl ?_
                refine ps_get (S' := (70, [(0, .ref r)], [.ref vd], M32)) rfl h36 rfl rfl ?_
                refine ps_st (S' := (71, [(0, .ref r)], [.int 1, .ref vd], M32)) rfl rfl rfl ?_
                refine ps_st (S' := (72, [(0, .ref r)], [.ref r, .int 1, .ref vd], M32)) rfl rfl rfl ?_
                refine ps_get (S' := (75, [(0, .ref r)], [.int (nI (p1 + 6)), .int 1, .ref vd], M32)) rfl h36 rfl rfl ?_
                refine pl_call (a := [.ref vd, .int 1, .int (nI (p1 + 6))]) (rest := []) rfl rfl rfl (dx_wrong h39) (fun v49 M50 q51 => ?_)
                obtain ⟨rfl, h52, f53⟩ := q51
                have h55 := (f53.1 r (nin1 (ob_ne h36 h39 (by decide)))).trans h36
                have h56 := (f53.1 b (nin1 (ob_ne h37 h39 (by decide)))).trans h37
                have h57 := (f53.1 da (nin1 (Ne.symm (ob_ar h39 h38)))).trans h38
                have hF58 := hF40.tr f53 (by simp)
                show pl _ _ _ (78, [(0, .ref r)], [.int 0], M50) _
                exact ps_ret rfl rfl (Or.inr ⟨(1, p1 + 6), by
                    unfold s_attributes
                    rw [if_neg (by omega), ← hs, show by2 f p - i = (by2 f p - (i + 1)) + 1 by omega]
                    unfold s_atts
                    repeat' split
                    all_goals first | rfl | (exfalso; omega), rfl, h52, hF58⟩)
          · skip
            obtain ⟨q32_no, rfl, h59, h60, f61⟩ := q13
            have h63 := (f61.1 b (nin2 (ob_ne h8 h4 (by decide)) (ob_ne h8 h5 (by decide)))).trans h8
            have h64 := (f61.1 da (nin2 (Ne.symm (ob_ar h4 h9)) (Ne.symm (ob_ar h5 h9)))).trans h9
            have hF65 := hF10.tr f61 (by simp)
            show pl _ _ _ (35, [(0, .ref r), (1, .int (nI (by2 f p))), (2, .int (nI i))], [.int 0], M12) _
            refine ps_if (S1 := (40, [(0, .ref r), (1, .int (nI (by2 f p))), (2, .int (nI i))], [], M12)) (S2 := (38, [], [], M12)) rfl rfl rfl (fun c_35 => ?_) (fun c_35 => ?_)
            · exact absurd (of_decide_eq_true c_35) (by decide)
            refine ps_st (S' := (39, [], [.int 0], M12)) rfl rfl rfl ?_
            exact ps_ret rfl rfl (Or.inr ⟨(1, p1 + 2), by
                unfold s_attributes
                rw [if_neg (by omega), ← hs, show by2 f p - i = (by2 f p - (i + 1)) + 1 by omega]
                unfold s_atts
                repeat' split
                all_goals first | rfl | (exfalso; omega), rfl, h60, hF65⟩)
        · skip
          obtain ⟨q24_no, rfl, h66, h67, f68⟩ := q3
          have h70 := (f68.1 b (nin2 (ob_ne hl_b hl_r (by decide)) (ob_ne hl_b hl_vd (by decide)))).trans hl_b
          have h71 := (f68.1 da (nin2 (Ne.symm (ob_ar hl_r hl_da)) (Ne.symm (ob_ar hl_vd hl_da)))).trans hl_da
          have hF72 := hF1.tr f68 (by simp)
          show pl _ _ _ (27, [(0, .ref r), (1, .int (nI (by2 f p))), (2, .int (nI i))], [.int 0], M2) _
          refine ps_if (S1 := (38, [], [], M2)) (S2 := (30, [(0, .ref r), (1, .int (nI (by2 f p))), (2, .int (nI i))], [], M2)) rfl rfl rfl (fun c_27 => ?_) (fun c_27 => ?_)
          rotate_left
          · exact absurd (by decide) (of_decide_eq_false c_27)
          refine ps_st (S' := (39, [], [.int 0], M2)) rfl rfl rfl ?_
          exact ps_ret rfl rfl (Or.inr ⟨(1, p1), by
              unfold s_attributes
              rw [if_neg (by omega), ← hs, show by2 f p - i = (by2 f p - (i + 1)) + 1 by omega]
              unfold s_atts
              repeat' split
              all_goals first | rfl | (exfalso; omega), rfl, h67, hF72⟩)
  refine ps_st (S' := (1, [(0, .ref r)], [.ref r], M)) rfl rfl rfl ?_
  refine ps_st (S' := (2, [(0, .ref r)], [.int 2, .ref r], M)) rfl rfl rfl ?_
  refine pl_call (a := [.ref r, .int 2]) (rest := []) rfl rfl rfl (dx_takes2 h_r h_b h_da h_vd (hn) (by omega)) (fun v73 M74 q75 => ?_)
  rcases q75 with q75 | q75
  · skip
    obtain ⟨q2_ok, rfl, h76, h77, f78⟩ := q75
    have h80 := (f78.1 b (nin2 (ob_ne h_b h_r (by decide)) (ob_ne h_b h_vd (by decide)))).trans h_b
    have h81 := (f78.1 da (nin2 (Ne.symm (ob_ar h_r h_da)) (Ne.symm (ob_ar h_vd h_da)))).trans h_da
    have hF82 := hF.tr f78 (by simp)
    show pl _ _ _ (5, [(0, .ref r)], [.int 1], M74) _
    refine ps_if (S1 := (10, [(0, .ref r)], [], M74)) (S2 := (8, [(0, .ref r)], [], M74)) rfl rfl rfl (fun c_5 => ?_) (fun c_5 => ?_)
    rotate_left
    · exact absurd (by decide) (of_decide_eq_false c_5)
    refine ps_st (S' := (11, [(0, .ref r)], [.ref r], M74)) rfl rfl rfl ?_
    refine ps_get (S' := (14, [(0, .ref r)], [.int (nI (by2 f p))], M74)) rfl h76 rfl rfl ?_
    refine ps_st (S' := (15, [(1, .int (nI (by2 f p))), (0, .ref r)], [], M74)) rfl rfl rfl ?_
    refine ps_st (S' := (16, [(1, .int (nI (by2 f p))), (0, .ref r)], [.int 0], M74)) rfl rfl rfl ?_
    refine ps_st (S' := (17, [(0, .ref r), (1, .int (nI (by2 f p))), (2, .int 0)], [], M74)) rfl rfl rfl ?_
    exact L17 kf (0) (p + 2) (nI (by2 f p)) M74 h76 h80 h81 h77 hF82 (by omega) (by omega) (by omega) (rfl)
  · skip
    obtain ⟨q2_no, rfl, h83, h84, f85⟩ := q75
    have h87 := (f85.1 b (nin2 (ob_ne h_b h_r (by decide)) (ob_ne h_b h_vd (by decide)))).trans h_b
    have h88 := (f85.1 da (nin2 (Ne.symm (ob_ar h_r h_da)) (Ne.symm (ob_ar h_vd h_da)))).trans h_da
    have hF89 := hF.tr f85 (by simp)
    show pl _ _ _ (5, [(0, .ref r)], [.int 0], M74) _
    refine ps_if (S1 := (10, [(0, .ref r)], [], M74)) (S2 := (8, [(0, .ref r)], [], M74)) rfl rfl rfl (fun c_5 => ?_) (fun c_5 => ?_)
    · exact absurd (of_decide_eq_true c_5) (by decide)
    refine ps_st (S' := (9, [(0, .ref r)], [.int 0], M74)) rfl rfl rfl ?_
    exact ps_ret rfl rfl (Or.inr ⟨(1, p), by unfold s_attributes; rw [if_pos (by omega)], rfl, h84, hF89⟩)
set_option maxHeartbeats 1000000 in
theorem dx_takesClass {g : xe_G} {M : mi_H} {r c b vd da n p q : Nat} {f : Nat → Int32} {it ru wa mi ma fa ic ac aa k1 k2 k3 k4 k5 k6 k7 : Int32} {u6 u7 : Value} (h_r : M.1 r = some (ob 9 [.ref c, .ref b, .ref vd, .int (nI p), .int it])) (h_b : M.1 b = some (ob 1 [.ref da])) (h_da : M.1 da = some (ar .byte n f)) (h_vd : M.1 vd = some (ob 10 [.int ru, .int wa])) (h_c : M.1 c = some (ob 3 [.ref b, .ref q, .int mi, .int ma, .int fa, .int ic, u6, u7, .int ac, .int aa, .int k1, .int k2, .int k3, .int k4, .int k5, .int k6, .int k7])) (hn : n ≤ 65540) (hp : p ≤ n) : pt (mT g) 161 [.ref r] M (fun v M' => (∃ (p' : Nat) (it' : Int32), (s_class f n p = .inr p') ∧ v = some (.int 1) ∧ M'.1 r = some (ob 9 [.ref c, .ref b, .ref vd, .int (nI p'), .int it']) ∧ M'.1 vd = some (ob 10 [.int ru, .int wa]) ∧ M'.1 c = some (ob 3 [.ref b, .ref q, .int mi, .int ma, .int (nI p), .int (nI (by2 f (p + 6))), u6, u7, .int ac, .int aa, .int k1, .int k2, .int k3, .int k4, .int k5, .int k6, .int k7]) ∧ fm [r, vd, c] M M') ∨ (∃ (e : Nat × Nat), (s_class f n p = .inl e) ∧ v = some (.int 0) ∧ M'.1 vd = some (ob 10 [.int (nI e.1), .int (nI e.2)]) ∧ fm [r, vd, c] M M')) := by
  refine pt_in (b := mb_161 g) rfl (fun kf => ?_)
  show pl (mT g) kf (mb_161 g).2 (0, [(0, .ref r)], [], M) _
  have hF : fm [r, vd, c] M M := fm.rf
  have hb2 := by2_lt f (p + 6)
  have L52 : ∀ (kf : Nat) (i p1 : Nat) (it1 : Int32) (M1 : mi_H), (M1.1 r = some (ob 9 [.ref c, .ref b, .ref vd, .int (nI p1), .int it1])) → (M1.1 b = some (ob 1 [.ref da])) → (M1.1 da = some (ar .byte n f)) → (M1.1 vd = some (ob 10 [.int ru, .int wa])) → (M1.1 c = some (ob 3 [.ref b, .ref q, .int mi, .int ma, .int (nI p), .int ic, u6, u7, .int ac, .int aa, .int k1, .int k2, .int k3, .int k4, .int k5, .int k6, .int k7])) → (fm [r, vd, c] M M1) → (i ≤ by2 f (p + 6)) → (p1 ≤ n) → (p + 8 ≤ n) → (s_two n (by2 f (p + 6) - i) p1 = s_two n (by2 f (p + 6)) (p + 8)) → pl (mT g) kf (mb_161 g).2 (52, [(0, .ref r), (1, .int (nI (by2 f (p + 6)))), (2, .int (nI i))], [], M1) (fun v M' => (∃ (p' : Nat) (it' : Int32), (s_class f n p = .inr p') ∧ v = some (.int 1) ∧ M'.1 r = some (ob 9 [.ref c, .ref b, .ref vd, .int (nI p'), .int it']) ∧ M'.1 vd = some (ob 10 [.int ru, .int wa]) ∧ M'.1 c = some (ob 3 [.ref b, .ref q, .int mi, .int ma, .int (nI p), .int (nI (by2 f (p + 6))), u6, u7, .int ac, .int aa, .int k1, .int k2, .int k3, .int k4, .int k5, .int k6, .int k7]) ∧ fm [r, vd, c] M M') ∨ (∃ (e : Nat × Nat), (s_class f n p = .inl e) ∧ v = some (.int 0) ∧ M'.1 vd = some (ob 10 [.int (nI e.1), .int (nI e.2)]) ∧ fm [r, vd, c] M M')) := by
    intro kf
    induction kf with
    | zero => intros; exact pl_0
    | succ kf ih =>
      intro i p1 it1 M1 hl_r hl_b hl_da hl_vd hl_c hF1 hi hp1 hp2 hs
      have hb2 := by2_lt f (p + 6)
      refine ps_st1 (S' := (53, [(0, .ref r), (1, .int (nI (by2 f (p + 6)))), (2, .int (nI i))], [.int (nI i)], M1)) rfl rfl rfl ?_
      refine ps_st (S' := (54, [(0, .ref r), (1, .int (nI (by2 f (p + 6)))), (2, .int (nI i))], [.int (nI (by2 f (p + 6))), .int (nI i)], M1)) rfl rfl rfl ?_
      refine ps_if2 (S1 := (73, [(0, .ref r), (1, .int (nI (by2 f (p + 6)))), (2, .int (nI i))], [], M1)) (S2 := (57, [(0, .ref r), (1, .int (nI (by2 f (p + 6)))), (2, .int (nI i))], [], M1)) rfl rfl rfl (fun c_54 => ?_) (fun c_54 => ?_)
      · have c_54 : (nI (by2 f (p + 6))) ≤ (nI i) := of_decide_eq_true c_54
        have n_54 : by2 f (p + 6) ≤ i := (le_nI (p := by2 f (p + 6)) (n := i) (Nat.lt_trans (by2_lt _ _) (by decide)) (by omega)).mp c_54
        refine ps_st (S' := (74, [(0, .ref r), (1, .int (nI (by2 f (p + 6)))), (2, .int (nI i))], [.ref r], M1)) rfl rfl rfl ?_
        refine ps_get (S' := (77, [(0, .ref r), (1, .int (nI (by2 f (p + 6)))), (2, .int (nI i))], [.ref c], M1)) rfl hl_r rfl rfl ?_
        refine ps_st (S' := (78, [(0, .ref r), (1, .int (nI (by2 f (p + 6)))), (2, .int (nI i))], [.int (nI (by2 f (p + 6))), .ref c], M1)) rfl rfl rfl ?_
        refine ps_put (l' := [.ref b, .ref q, .int mi, .int ma, .int (nI p), .int (nI (by2 f (p + 6))), u6, u7, .int ac, .int aa, .int k1, .int k2, .int k3, .int k4, .int k5, .int k6, .int k7]) rfl hl_c rfl rfl (fun M1 h2 f3 z4 => ?_)
        have h5 := (f3 r (ob_ne hl_r hl_c (by decide))).trans hl_r
        have h6 := (f3 b (ob_ne hl_b hl_c (by decide))).trans hl_b
        have h7 := (f3 da (Ne.symm (ob_ar hl_c hl_da))).trans hl_da
        have h8 := (f3 vd (ob_ne hl_vd hl_c (by decide))).trans hl_vd
        have hF9 := hF1.up (by simp) f3 z4
        show pl _ _ _ (81, [(0, .ref r), (1, .int (nI (by2 f (p + 6)))), (2, .int (nI i))], [], M1) _
        refine ps_st (S' := (82, [(0, .ref r), (1, .int (nI (by2 f (p + 6)))), (2, .int (nI i))], [.int 1], M1)) rfl rfl rfl ?_
        exact ps_ret rfl rfl (Or.inl ⟨p1, it1, by
            unfold s_class
            rw [if_neg (by omega), if_neg (by omega), if_neg (by omega), if_neg (by omega), ← hs, show by2 f (p + 6) - i = 0 by omega]
            rfl, rfl, h5, h8, h2, hF9⟩)
      · have c_54 : ¬ ((nI (by2 f (p + 6))) ≤ (nI i)) := of_decide_eq_false c_54
        have n_54 : ¬ (by2 f (p + 6) ≤ i) := fun h9 => c_54 ((le_nI (p := by2 f (p + 6)) (n := i) (Nat.lt_trans (by2_lt _ _) (by decide)) (by omega)).mpr h9)
        refine ps_st (S' := (58, [(0, .ref r), (1, .int (nI (by2 f (p + 6)))), (2, .int (nI i))], [.ref r], M1)) rfl rfl rfl ?_
        refine ps_st (S' := (59, [(0, .ref r), (1, .int (nI (by2 f (p + 6)))), (2, .int (nI i))], [.int 2, .ref r], M1)) rfl rfl rfl ?_
        refine pl_call (a := [.ref r, .int 2]) (rest := []) rfl rfl rfl (dx_takes2 hl_r hl_b hl_da hl_vd (hn) (by omega)) (fun v10 M11 q12 => ?_)
        rcases q12 with q12 | q12
        · skip
          obtain ⟨q59_ok, rfl, h13, h14, f15⟩ := q12
          have h17 := (f15.1 b (nin2 (ob_ne hl_b hl_r (by decide)) (ob_ne hl_b hl_vd (by decide)))).trans hl_b
          have h18 := (f15.1 da (nin2 (Ne.symm (ob_ar hl_r hl_da)) (Ne.symm (ob_ar hl_vd hl_da)))).trans hl_da
          have h19 := (f15.1 c (nin2 (ob_ne hl_c hl_r (by decide)) (ob_ne hl_c hl_vd (by decide)))).trans hl_c
          have hF20 := hF1.tr f15 (by simp)
          show pl _ _ _ (62, [(0, .ref r), (1, .int (nI (by2 f (p + 6)))), (2, .int (nI i))], [.int 1], M11) _
          refine ps_if (S1 := (67, [(0, .ref r), (1, .int (nI (by2 f (p + 6)))), (2, .int (nI i))], [], M11)) (S2 := (65, [(0, .ref r), (1, .int (nI (by2 f (p + 6)))), (2, .int (nI i))], [], M11)) rfl rfl rfl (fun c_62 => ?_) (fun c_62 => ?_)
          rotate_left
          · exact absurd (by decide) (of_decide_eq_false c_62)
          refine ps_st (S' := (70, [(2, .int ((nI i) + 1)), (0, .ref r), (1, .int (nI (by2 f (p + 6))))], [], M11)) rfl rfl rfl ?_
          rw [nI_add1 (p := i) (k := 1) (x := 1) rfl (by omega)]
          show pl _ _ _ (_, [(2, .int (nI (i + 1))), (0, .ref r), (1, .int (nI (by2 f (p + 6))))], [], M11) _
          refine ps_st (S' := (52, [(0, .ref r), (1, .int (nI (by2 f (p + 6)))), (2, .int (nI (i + 1)))], [], M11)) rfl rfl rfl ?_
          exact ih (i + 1) (p1 + 2) ((nI (by2 f p1))) M11 h13 h17 h18 h14 h19 hF20 (by omega) (by omega) (by omega) (by
              rw [← hs, show by2 f (p + 6) - i = (by2 f (p + 6) - (i + 1)) + 1 by omega]
              conv => rhs; unfold s_two
              rw [if_neg (by omega)]
              try (congr 1; omega))
        · skip
          obtain ⟨q59_no, rfl, h21, h22, f23⟩ := q12
          have h25 := (f23.1 b (nin2 (ob_ne hl_b hl_r (by decide)) (ob_ne hl_b hl_vd (by decide)))).trans hl_b
          have h26 := (f23.1 da (nin2 (Ne.symm (ob_ar hl_r hl_da)) (Ne.symm (ob_ar hl_vd hl_da)))).trans hl_da
          have h27 := (f23.1 c (nin2 (ob_ne hl_c hl_r (by decide)) (ob_ne hl_c hl_vd (by decide)))).trans hl_c
          have hF28 := hF1.tr f23 (by simp)
          show pl _ _ _ (62, [(0, .ref r), (1, .int (nI (by2 f (p + 6)))), (2, .int (nI i))], [.int 0], M11) _
          refine ps_if (S1 := (67, [(0, .ref r), (1, .int (nI (by2 f (p + 6)))), (2, .int (nI i))], [], M11)) (S2 := (65, [(0, .ref r), (1, .int (nI (by2 f (p + 6)))), (2, .int (nI i))], [], M11)) rfl rfl rfl (fun c_62 => ?_) (fun c_62 => ?_)
          · exact absurd (of_decide_eq_true c_62) (by decide)
          refine ps_st (S' := (66, [(0, .ref r), (1, .int (nI (by2 f (p + 6)))), (2, .int (nI i))], [.int 0], M11)) rfl rfl rfl ?_
          exact ps_ret rfl rfl (Or.inr ⟨(1, p1), by
              unfold s_class
              rw [if_neg (by omega), if_neg (by omega), if_neg (by omega), if_neg (by omega), ← hs, show by2 f (p + 6) - i = (by2 f (p + 6) - (i + 1)) + 1 by omega]
              unfold s_two
              rw [if_pos (by omega)], rfl, h22, hF28⟩)
  refine ps_st (S' := (1, [(0, .ref r)], [.ref r], M)) rfl rfl rfl ?_
  refine ps_get (S' := (4, [(0, .ref r)], [.ref c], M)) rfl h_r rfl rfl ?_
  refine ps_st (S' := (5, [(0, .ref r)], [.ref r, .ref c], M)) rfl rfl rfl ?_
  refine ps_get (S' := (8, [(0, .ref r)], [.int (nI p), .ref c], M)) rfl h_r rfl rfl ?_
  refine ps_put (l' := [.ref b, .ref q, .int mi, .int ma, .int (nI p), .int ic, u6, u7, .int ac, .int aa, .int k1, .int k2, .int k3, .int k4, .int k5, .int k6, .int k7]) rfl h_c rfl rfl (fun M29 h30 f31 z32 => ?_)
  have h33 := (f31 r (ob_ne h_r h_c (by decide))).trans h_r
  have h34 := (f31 b (ob_ne h_b h_c (by decide))).trans h_b
  have h35 := (f31 da (Ne.symm (ob_ar h_c h_da))).trans h_da
  have h36 := (f31 vd (ob_ne h_vd h_c (by decide))).trans h_vd
  have hF37 := hF.up (by simp) f31 z32
  show pl _ _ _ (11, [(0, .ref r)], [], M29) _
  refine ps_st (S' := (12, [(0, .ref r)], [.ref r], M29)) rfl rfl rfl ?_
  refine ps_st (S' := (13, [(0, .ref r)], [.int 2, .ref r], M29)) rfl rfl rfl ?_
  refine pl_call (a := [.ref r, .int 2]) (rest := []) rfl rfl rfl (dx_takes2 h33 h34 h35 h36 (hn) (by omega)) (fun v38 M39 q40 => ?_)
  rcases q40 with q40 | q40
  · skip
    obtain ⟨q13_ok, rfl, h41, h42, f43⟩ := q40
    have h45 := (f43.1 b (nin2 (ob_ne h34 h33 (by decide)) (ob_ne h34 h36 (by decide)))).trans h34
    have h46 := (f43.1 da (nin2 (Ne.symm (ob_ar h33 h35)) (Ne.symm (ob_ar h36 h35)))).trans h35
    have h47 := (f43.1 c (nin2 (ob_ne h30 h33 (by decide)) (ob_ne h30 h36 (by decide)))).trans h30
    have hF48 := hF37.tr f43 (by simp)
    show pl _ _ _ (16, [(0, .ref r)], [.int 1], M39) _
    refine ps_if (S1 := (43, [], [], M39)) (S2 := (19, [(0, .ref r)], [], M39)) rfl rfl rfl (fun c_16 => ?_) (fun c_16 => ?_)
    · exact absurd (of_decide_eq_true c_16) (by decide)
    refine ps_st (S' := (20, [(0, .ref r)], [.ref r], M39)) rfl rfl rfl ?_
    refine ps_st (S' := (21, [(0, .ref r)], [.int 2, .ref r], M39)) rfl rfl rfl ?_
    refine pl_call (a := [.ref r, .int 2]) (rest := []) rfl rfl rfl (dx_takes2 h41 h45 h46 h42 (hn) (by omega)) (fun v49 M50 q51 => ?_)
    rcases q51 with q51 | q51
    · skip
      obtain ⟨q21_ok, rfl, h52, h53, f54⟩ := q51
      have h56 := (f54.1 b (nin2 (ob_ne h45 h41 (by decide)) (ob_ne h45 h42 (by decide)))).trans h45
      have h57 := (f54.1 da (nin2 (Ne.symm (ob_ar h41 h46)) (Ne.symm (ob_ar h42 h46)))).trans h46
      have h58 := (f54.1 c (nin2 (ob_ne h47 h41 (by decide)) (ob_ne h47 h42 (by decide)))).trans h47
      have hF59 := hF48.tr f54 (by simp)
      show pl _ _ _ (24, [(0, .ref r)], [.int 1], M50) _
      refine ps_if (S1 := (43, [], [], M50)) (S2 := (27, [(0, .ref r)], [], M50)) rfl rfl rfl (fun c_24 => ?_) (fun c_24 => ?_)
      · exact absurd (of_decide_eq_true c_24) (by decide)
      refine ps_st (S' := (28, [(0, .ref r)], [.ref r], M50)) rfl rfl rfl ?_
      refine ps_st (S' := (29, [(0, .ref r)], [.int 2, .ref r], M50)) rfl rfl rfl ?_
      refine pl_call (a := [.ref r, .int 2]) (rest := []) rfl rfl rfl (dx_takes2 h52 h56 h57 h53 (hn) (by omega)) (fun v60 M61 q62 => ?_)
      rcases q62 with q62 | q62
      · skip
        obtain ⟨q29_ok, rfl, h63, h64, f65⟩ := q62
        have h67 := (f65.1 b (nin2 (ob_ne h56 h52 (by decide)) (ob_ne h56 h53 (by decide)))).trans h56
        have h68 := (f65.1 da (nin2 (Ne.symm (ob_ar h52 h57)) (Ne.symm (ob_ar h53 h57)))).trans h57
        have h69 := (f65.1 c (nin2 (ob_ne h58 h52 (by decide)) (ob_ne h58 h53 (by decide)))).trans h58
        have hF70 := hF59.tr f65 (by simp)
        show pl _ _ _ (32, [(0, .ref r)], [.int 1], M61) _
        refine ps_if (S1 := (43, [], [], M61)) (S2 := (35, [(0, .ref r)], [], M61)) rfl rfl rfl (fun c_32 => ?_) (fun c_32 => ?_)
        · exact absurd (of_decide_eq_true c_32) (by decide)
        refine ps_st (S' := (36, [(0, .ref r)], [.ref r], M61)) rfl rfl rfl ?_
        refine ps_st (S' := (37, [(0, .ref r)], [.int 2, .ref r], M61)) rfl rfl rfl ?_
        refine pl_call (a := [.ref r, .int 2]) (rest := []) rfl rfl rfl (dx_takes2 h63 h67 h68 h64 (hn) (by omega)) (fun v71 M72 q73 => ?_)
        rcases q73 with q73 | q73
        · skip
          obtain ⟨q37_ok, rfl, h74, h75, f76⟩ := q73
          have h78 := (f76.1 b (nin2 (ob_ne h67 h63 (by decide)) (ob_ne h67 h64 (by decide)))).trans h67
          have h79 := (f76.1 da (nin2 (Ne.symm (ob_ar h63 h68)) (Ne.symm (ob_ar h64 h68)))).trans h68
          have h80 := (f76.1 c (nin2 (ob_ne h69 h63 (by decide)) (ob_ne h69 h64 (by decide)))).trans h69
          have hF81 := hF70.tr f76 (by simp)
          show pl _ _ _ (40, [(0, .ref r)], [.int 1], M72) _
          refine ps_if (S1 := (45, [(0, .ref r)], [], M72)) (S2 := (43, [], [], M72)) rfl rfl rfl (fun c_40 => ?_) (fun c_40 => ?_)
          rotate_left
          · exact absurd (by decide) (of_decide_eq_false c_40)
          refine ps_st (S' := (46, [(0, .ref r)], [.ref r], M72)) rfl rfl rfl ?_
          refine ps_get (S' := (49, [(0, .ref r)], [.int (nI (by2 f (p + 6)))], M72)) rfl h74 rfl rfl ?_
          refine ps_st (S' := (50, [(1, .int (nI (by2 f (p + 6)))), (0, .ref r)], [], M72)) rfl rfl rfl ?_
          refine ps_st (S' := (51, [(1, .int (nI (by2 f (p + 6)))), (0, .ref r)], [.int 0], M72)) rfl rfl rfl ?_
          refine ps_st (S' := (52, [(0, .ref r), (1, .int (nI (by2 f (p + 6)))), (2, .int 0)], [], M72)) rfl rfl rfl ?_
          exact L52 kf (0) (p + 8) ((nI (by2 f (p + 6)))) M72 h74 h78 h79 h75 h80 hF81 (by omega) (by omega) (by omega) (rfl)
        · skip
          obtain ⟨q37_no, rfl, h82, h83, f84⟩ := q73
          have h86 := (f84.1 b (nin2 (ob_ne h67 h63 (by decide)) (ob_ne h67 h64 (by decide)))).trans h67
          have h87 := (f84.1 da (nin2 (Ne.symm (ob_ar h63 h68)) (Ne.symm (ob_ar h64 h68)))).trans h68
          have h88 := (f84.1 c (nin2 (ob_ne h69 h63 (by decide)) (ob_ne h69 h64 (by decide)))).trans h69
          have hF89 := hF70.tr f84 (by simp)
          show pl _ _ _ (40, [(0, .ref r)], [.int 0], M72) _
          refine ps_if (S1 := (45, [(0, .ref r)], [], M72)) (S2 := (43, [], [], M72)) rfl rfl rfl (fun c_40 => ?_) (fun c_40 => ?_)
          · exact absurd (of_decide_eq_true c_40) (by decide)
          refine ps_st (S' := (44, [], [.int 0], M72)) rfl rfl rfl ?_
          exact ps_ret rfl rfl (Or.inr ⟨(1, p + 6), by
              unfold s_class
              repeat' split
              all_goals first | rfl | (exfalso; omega), rfl, h83, hF89⟩)
      · skip
        obtain ⟨q29_no, rfl, h90, h91, f92⟩ := q62
        have h94 := (f92.1 b (nin2 (ob_ne h56 h52 (by decide)) (ob_ne h56 h53 (by decide)))).trans h56
        have h95 := (f92.1 da (nin2 (Ne.symm (ob_ar h52 h57)) (Ne.symm (ob_ar h53 h57)))).trans h57
        have h96 := (f92.1 c (nin2 (ob_ne h58 h52 (by decide)) (ob_ne h58 h53 (by decide)))).trans h58
        have hF97 := hF59.tr f92 (by simp)
        show pl _ _ _ (32, [(0, .ref r)], [.int 0], M61) _
        refine ps_if (S1 := (43, [], [], M61)) (S2 := (35, [(0, .ref r)], [], M61)) rfl rfl rfl (fun c_32 => ?_) (fun c_32 => ?_)
        rotate_left
        · exact absurd (by decide) (of_decide_eq_false c_32)
        refine ps_st (S' := (44, [], [.int 0], M61)) rfl rfl rfl ?_
        exact ps_ret rfl rfl (Or.inr ⟨(1, p + 4), by
            unfold s_class
            repeat' split
            all_goals first | rfl | (exfalso; omega), rfl, h91, hF97⟩)
    · skip
      obtain ⟨q21_no, rfl, h98, h99, f100⟩ := q51
      have h102 := (f100.1 b (nin2 (ob_ne h45 h41 (by decide)) (ob_ne h45 h42 (by decide)))).trans h45
      have h103 := (f100.1 da (nin2 (Ne.symm (ob_ar h41 h46)) (Ne.symm (ob_ar h42 h46)))).trans h46
      have h104 := (f100.1 c (nin2 (ob_ne h47 h41 (by decide)) (ob_ne h47 h42 (by decide)))).trans h47
      have hF105 := hF48.tr f100 (by simp)
      show pl _ _ _ (24, [(0, .ref r)], [.int 0], M50) _
      refine ps_if (S1 := (43, [], [], M50)) (S2 := (27, [(0, .ref r)], [], M50)) rfl rfl rfl (fun c_24 => ?_) (fun c_24 => ?_)
      rotate_left
      · exact absurd (by decide) (of_decide_eq_false c_24)
      refine ps_st (S' := (44, [], [.int 0], M50)) rfl rfl rfl ?_
      exact ps_ret rfl rfl (Or.inr ⟨(1, p + 2), by
          unfold s_class
          repeat' split
          all_goals first | rfl | (exfalso; omega), rfl, h99, hF105⟩)
  · skip
    obtain ⟨q13_no, rfl, h106, h107, f108⟩ := q40
    have h110 := (f108.1 b (nin2 (ob_ne h34 h33 (by decide)) (ob_ne h34 h36 (by decide)))).trans h34
    have h111 := (f108.1 da (nin2 (Ne.symm (ob_ar h33 h35)) (Ne.symm (ob_ar h36 h35)))).trans h35
    have h112 := (f108.1 c (nin2 (ob_ne h30 h33 (by decide)) (ob_ne h30 h36 (by decide)))).trans h30
    have hF113 := hF37.tr f108 (by simp)
    show pl _ _ _ (16, [(0, .ref r)], [.int 0], M39) _
    refine ps_if (S1 := (43, [], [], M39)) (S2 := (19, [(0, .ref r)], [], M39)) rfl rfl rfl (fun c_16 => ?_) (fun c_16 => ?_)
    rotate_left
    · exact absurd (by decide) (of_decide_eq_false c_16)
    refine ps_st (S' := (44, [], [.int 0], M39)) rfl rfl rfl ?_
    exact ps_ret rfl rfl (Or.inr ⟨(1, p), by
        unfold s_class
        repeat' split
        all_goals first | rfl | (exfalso; omega), rfl, h107, hF113⟩)
end
section
/-! the pool is written (laid by wip/p4/d3.py) -/
set_option maxHeartbeats 1000000 in
theorem dx_setTag {g : xe_G} {M : mi_H} {pq q1 q2 q3 q4 q5 q6 hd cc : Nat} {sz : Int32} {F1 F2 : Nat → Int32} {k : Nat} {x2 x3 : Int32} (h_pq : M.1 pq = some (ob 7 [.int sz, .ref q1, .ref q2, .ref q3, .ref q4, .ref q5, .ref q6, .int (nI cc)])) (h_q1 : M.1 q1 = some (ar .int hd F1)) (h_q2 : M.1 q2 = some (ar .int hd F2)) (hD : dst5 q1 q2 q3 q4 q5) (hh : hd < 1073741824) (hk : k < hd) : pt (mT g) 136 [.ref pq, .int (nI k), .int x2, .int x3] M (fun v M' => (v = none ∧ M'.1 q1 = some (ar .int hd (upd F1 k x2)) ∧ M'.1 q2 = some (ar .int hd (upd F2 k x3)) ∧ fm [q1, q2] M M')) := by
  refine pt_in (b := mb_136 g) rfl (fun kf => ?_)
  show pl (mT g) kf (mb_136 g).2 (0, [(0, .ref pq), (1, .int (nI k)), (2, .int x2), (3, .int x3)], [], M) _
  have hF : fm [q1, q2] M M := fm.rf
  refine ps_st (S' := (1, [(0, .ref pq), (1, .int (nI k)), (2, .int x2), (3, .int x3)], [.int (nI k)], M)) rfl rfl rfl ?_
  refine ps_if (S1 := (27, [], [], M)) (S2 := (4, [(0, .ref pq), (1, .int (nI k)), (2, .int x2), (3, .int x3)], [], M)) rfl rfl rfl (fun c_1 => ?_) (fun c_1 => ?_)
  · exact absurd (of_decide_eq_true c_1) (nI_n0 (by omega))
  refine ps_st (S' := (5, [(0, .ref pq), (1, .int (nI k)), (2, .int x2), (3, .int x3)], [.int (nI k)], M)) rfl rfl rfl ?_
  refine ps_st (S' := (6, [(0, .ref pq), (1, .int (nI k)), (2, .int x2), (3, .int x3)], [.ref pq, .int (nI k)], M)) rfl rfl rfl ?_
  refine ps_get (S' := (9, [(0, .ref pq), (1, .int (nI k)), (2, .int x2), (3, .int x3)], [.ref q1, .int (nI k)], M)) rfl h_pq rfl rfl ?_
  refine ps_alen (S' := (10, [(0, .ref pq), (1, .int (nI k)), (2, .int x2), (3, .int x3)], [.int (nI hd), .int (nI k)], M)) rfl h_q1 rfl ?_
  refine ps_if2 (S1 := (27, [], [], M)) (S2 := (13, [(0, .ref pq), (1, .int (nI k)), (2, .int x2), (3, .int x3)], [], M)) rfl rfl rfl (fun c_10 => ?_) (fun c_10 => ?_)
  · exact absurd (of_decide_eq_true c_10) (fun h9 => absurd ((le_nI (by omega) (by omega)).mp h9) (by omega))
  refine ps_st (S' := (14, [(0, .ref pq), (1, .int (nI k)), (2, .int x2), (3, .int x3)], [.ref pq], M)) rfl rfl rfl ?_
  refine ps_get (S' := (17, [(0, .ref pq), (1, .int (nI k)), (2, .int x2), (3, .int x3)], [.ref q1], M)) rfl h_pq rfl rfl ?_
  refine ps_st (S' := (18, [(0, .ref pq), (1, .int (nI k)), (2, .int x2), (3, .int x3)], [.int (nI k), .ref q1], M)) rfl rfl rfl ?_
  refine ps_st (S' := (19, [(0, .ref pq), (1, .int (nI k)), (2, .int x2), (3, .int x3)], [.int x2, .int (nI k), .ref q1], M)) rfl rfl rfl ?_
  refine ps_ast rfl h_q1 (fun M1 i0_19 i1_19 h2 f3 z4 => ?_)
  have h5 := (f3 pq (ob_ar h_pq h_q1)).trans h_pq
  have h6 := (f3 q2 (Ne.symm hD.1.1)).trans h_q2
  have hF7 := hF.up (by simp) f3 z4
  show pl _ _ _ (20, [(0, .ref pq), (1, .int (nI k)), (2, .int x2), (3, .int x3)], [], M1) _
  refine ps_st (S' := (21, [(0, .ref pq), (1, .int (nI k)), (2, .int x2), (3, .int x3)], [.ref pq], M1)) rfl rfl rfl ?_
  refine ps_get (S' := (24, [(0, .ref pq), (1, .int (nI k)), (2, .int x2), (3, .int x3)], [.ref q2], M1)) rfl h5 rfl rfl ?_
  refine ps_st (S' := (25, [(0, .ref pq), (1, .int (nI k)), (2, .int x2), (3, .int x3)], [.int (nI k), .ref q2], M1)) rfl rfl rfl ?_
  refine ps_st (S' := (26, [(0, .ref pq), (1, .int (nI k)), (2, .int x2), (3, .int x3)], [.int x3, .int (nI k), .ref q2], M1)) rfl rfl rfl ?_
  refine ps_ast rfl h6 (fun M8 i0_26 i1_26 h9 f10 z11 => ?_)
  have h12 := (f10 pq (ob_ar h5 h6)).trans h5
  have h13 := (f10 q1 hD.1.1).trans h2
  have hF14 := hF7.up (by simp) f10 z11
  show pl _ _ _ (27, [], [], M8) _
  exact ps_ret rfl rfl (⟨rfl, by rw [h13, nI_toNat (by omega)], by rw [h9, nI_toNat (by omega)], hF14⟩)
set_option maxHeartbeats 1000000 in
theorem dx_setNumbers {g : xe_G} {M : mi_H} {pq q1 q2 q3 q4 q5 q6 hd cc : Nat} {sz : Int32} {F1 F3 F4 : Nat → Int32} {k : Nat} {x2 x3 : Int32} (h_pq : M.1 pq = some (ob 7 [.int sz, .ref q1, .ref q2, .ref q3, .ref q4, .ref q5, .ref q6, .int (nI cc)])) (h_q1 : M.1 q1 = some (ar .int hd F1)) (h_q3 : M.1 q3 = some (ar .int hd F3)) (h_q4 : M.1 q4 = some (ar .int hd F4)) (hD : dst5 q1 q2 q3 q4 q5) (hh : hd < 1073741824) (hk : k < hd) : pt (mT g) 135 [.ref pq, .int (nI k), .int x2, .int x3] M (fun v M' => (v = none ∧ M'.1 q3 = some (ar .int hd (upd F3 k x2)) ∧ M'.1 q4 = some (ar .int hd (upd F4 k x3)) ∧ fm [q3, q4] M M')) := by
  refine pt_in (b := mb_135 g) rfl (fun kf => ?_)
  show pl (mT g) kf (mb_135 g).2 (0, [(0, .ref pq), (1, .int (nI k)), (2, .int x2), (3, .int x3)], [], M) _
  have hF : fm [q3, q4] M M := fm.rf
  refine ps_st (S' := (1, [(0, .ref pq), (1, .int (nI k)), (2, .int x2), (3, .int x3)], [.int (nI k)], M)) rfl rfl rfl ?_
  refine ps_if (S1 := (27, [], [], M)) (S2 := (4, [(0, .ref pq), (1, .int (nI k)), (2, .int x2), (3, .int x3)], [], M)) rfl rfl rfl (fun c_1 => ?_) (fun c_1 => ?_)
  · exact absurd (of_decide_eq_true c_1) (nI_n0 (by omega))
  refine ps_st (S' := (5, [(0, .ref pq), (1, .int (nI k)), (2, .int x2), (3, .int x3)], [.int (nI k)], M)) rfl rfl rfl ?_
  refine ps_st (S' := (6, [(0, .ref pq), (1, .int (nI k)), (2, .int x2), (3, .int x3)], [.ref pq, .int (nI k)], M)) rfl rfl rfl ?_
  refine ps_get (S' := (9, [(0, .ref pq), (1, .int (nI k)), (2, .int x2), (3, .int x3)], [.ref q1, .int (nI k)], M)) rfl h_pq rfl rfl ?_
  refine ps_alen (S' := (10, [(0, .ref pq), (1, .int (nI k)), (2, .int x2), (3, .int x3)], [.int (nI hd), .int (nI k)], M)) rfl h_q1 rfl ?_
  refine ps_if2 (S1 := (27, [], [], M)) (S2 := (13, [(0, .ref pq), (1, .int (nI k)), (2, .int x2), (3, .int x3)], [], M)) rfl rfl rfl (fun c_10 => ?_) (fun c_10 => ?_)
  · exact absurd (of_decide_eq_true c_10) (fun h9 => absurd ((le_nI (by omega) (by omega)).mp h9) (by omega))
  refine ps_st (S' := (14, [(0, .ref pq), (1, .int (nI k)), (2, .int x2), (3, .int x3)], [.ref pq], M)) rfl rfl rfl ?_
  refine ps_get (S' := (17, [(0, .ref pq), (1, .int (nI k)), (2, .int x2), (3, .int x3)], [.ref q3], M)) rfl h_pq rfl rfl ?_
  refine ps_st (S' := (18, [(0, .ref pq), (1, .int (nI k)), (2, .int x2), (3, .int x3)], [.int (nI k), .ref q3], M)) rfl rfl rfl ?_
  refine ps_st (S' := (19, [(0, .ref pq), (1, .int (nI k)), (2, .int x2), (3, .int x3)], [.int x2, .int (nI k), .ref q3], M)) rfl rfl rfl ?_
  refine ps_ast rfl h_q3 (fun M1 i0_19 i1_19 h2 f3 z4 => ?_)
  have h5 := (f3 pq (ob_ar h_pq h_q3)).trans h_pq
  have h6 := (f3 q1 hD.1.2.1).trans h_q1
  have h7 := (f3 q4 (Ne.symm hD.2.2.1.1)).trans h_q4
  have hF8 := hF.up (by simp) f3 z4
  show pl _ _ _ (20, [(0, .ref pq), (1, .int (nI k)), (2, .int x2), (3, .int x3)], [], M1) _
  refine ps_st (S' := (21, [(0, .ref pq), (1, .int (nI k)), (2, .int x2), (3, .int x3)], [.ref pq], M1)) rfl rfl rfl ?_
  refine ps_get (S' := (24, [(0, .ref pq), (1, .int (nI k)), (2, .int x2), (3, .int x3)], [.ref q4], M1)) rfl h5 rfl rfl ?_
  refine ps_st (S' := (25, [(0, .ref pq), (1, .int (nI k)), (2, .int x2), (3, .int x3)], [.int (nI k), .ref q4], M1)) rfl rfl rfl ?_
  refine ps_st (S' := (26, [(0, .ref pq), (1, .int (nI k)), (2, .int x2), (3, .int x3)], [.int x3, .int (nI k), .ref q4], M1)) rfl rfl rfl ?_
  refine ps_ast rfl h7 (fun M9 i0_26 i1_26 h10 f11 z12 => ?_)
  have h13 := (f11 pq (ob_ar h5 h7)).trans h5
  have h14 := (f11 q1 hD.1.2.2.1).trans h6
  have h15 := (f11 q3 hD.2.2.1.1).trans h2
  have hF16 := hF8.up (by simp) f11 z12
  show pl _ _ _ (27, [], [], M9) _
  exact ps_ret rfl rfl (⟨rfl, by rw [h15, nI_toNat (by omega)], by rw [h10, nI_toNat (by omega)], hF16⟩)
set_option maxHeartbeats 1000000 in
theorem dx_addCharacter {g : xe_G} {M : mi_H} {pq q1 q2 q3 q4 q5 q6 m cc : Nat} {sz : Int32} {F6 : Nat → Int32} {x : Nat} (h_pq : M.1 pq = some (ob 7 [.int sz, .ref q1, .ref q2, .ref q3, .ref q4, .ref q5, .ref q6, .int (nI cc)])) (h_q6 : M.1 q6 = some (ar .char m F6)) (hm : m < 1073741824) (hx : x < 65536) (hc : cc < m) : pt (mT g) 111 [.ref pq, .int (nI x)] M (fun v M' => (v = none ∧ M'.1 pq = some (ob 7 [.int sz, .ref q1, .ref q2, .ref q3, .ref q4, .ref q5, .ref q6, .int (nI (cc + 1))]) ∧ M'.1 q6 = some (ar .char m (upd F6 cc (nI x))) ∧ fm [pq, q6] M M')) := by
  refine pt_in (b := mb_111 g) rfl (fun kf => ?_)
  show pl (mT g) kf (mb_111 g).2 (0, [(0, .ref pq), (1, .int (nI x))], [], M) _
  have hF : fm [pq, q6] M M := fm.rf
  refine ps_st (S' := (1, [(0, .ref pq), (1, .int (nI x))], [.ref pq], M)) rfl rfl rfl ?_
  refine ps_get (S' := (4, [(0, .ref pq), (1, .int (nI x))], [.int (nI cc)], M)) rfl h_pq rfl rfl ?_
  refine ps_st (S' := (5, [(0, .ref pq), (1, .int (nI x))], [.ref pq, .int (nI cc)], M)) rfl rfl rfl ?_
  refine ps_get (S' := (8, [(0, .ref pq), (1, .int (nI x))], [.ref q6, .int (nI cc)], M)) rfl h_pq rfl rfl ?_
  refine ps_alen (S' := (9, [(0, .ref pq), (1, .int (nI x))], [.int (nI m), .int (nI cc)], M)) rfl h_q6 rfl ?_
  refine ps_if2 (S1 := (33, [], [], M)) (S2 := (12, [(0, .ref pq), (1, .int (nI x))], [], M)) rfl rfl rfl (fun c_9 => ?_) (fun c_9 => ?_)
  · exact absurd (of_decide_eq_true c_9) (fun h9 => absurd ((le_nI (by omega) (by omega)).mp h9) (by omega))
  refine ps_st (S' := (13, [(0, .ref pq), (1, .int (nI x))], [.ref pq], M)) rfl rfl rfl ?_
  refine ps_get (S' := (16, [(0, .ref pq), (1, .int (nI x))], [.ref q6], M)) rfl h_pq rfl rfl ?_
  refine ps_st (S' := (17, [(0, .ref pq), (1, .int (nI x))], [.ref pq, .ref q6], M)) rfl rfl rfl ?_
  refine ps_get (S' := (20, [(0, .ref pq), (1, .int (nI x))], [.int (nI cc), .ref q6], M)) rfl h_pq rfl rfl ?_
  refine ps_st (S' := (21, [(0, .ref pq), (1, .int (nI x))], [.int (nI x), .int (nI cc), .ref q6], M)) rfl rfl rfl ?_
  refine ps_st (S' := (22, [(0, .ref pq), (1, .int (nI x))], [.int (((nI x).toUInt32 % 65536).toInt32), .int (nI cc), .ref q6], M)) rfl rfl rfl ?_
  refine ps_ast rfl h_q6 (fun M1 i0_22 i1_22 h2 f3 z4 => ?_)
  have h5 := (f3 pq (ob_ar h_pq h_q6)).trans h_pq
  have hF6 := hF.up (by simp) f3 z4
  show pl _ _ _ (23, [(0, .ref pq), (1, .int (nI x))], [], M1) _
  refine ps_st (S' := (24, [(0, .ref pq), (1, .int (nI x))], [.ref pq], M1)) rfl rfl rfl ?_
  refine ps_st (S' := (25, [(0, .ref pq), (1, .int (nI x))], [.ref pq, .ref pq], M1)) rfl rfl rfl ?_
  refine ps_get (S' := (28, [(0, .ref pq), (1, .int (nI x))], [.int (nI cc), .ref pq], M1)) rfl h5 rfl rfl ?_
  refine ps_st (S' := (29, [(0, .ref pq), (1, .int (nI x))], [.int 1, .int (nI cc), .ref pq], M1)) rfl rfl rfl ?_
  refine ps_st (S' := (30, [(0, .ref pq), (1, .int (nI x))], [.int ((nI cc) + 1), .ref pq], M1)) rfl rfl rfl ?_
  refine ps_put (l' := [.int sz, .ref q1, .ref q2, .ref q3, .ref q4, .ref q5, .ref q6, .int ((nI cc) + 1)]) rfl h5 rfl rfl (fun M7 h8 f9 z10 => ?_)
  have h11 := (f9 q6 (Ne.symm (ob_ar h5 h2))).trans h2
  have hF12 := hF6.up (by simp) f9 z10
  show pl _ _ _ (33, [], [], M7) _
  exact ps_ret rfl rfl (⟨rfl, by rw [h8, nI_plus (j := 1) rfl (by omega)], by rw [h11, nI_toNat (by omega), i2c_nI hx, nar_char hx], hF12⟩)
theorem dx_u1n {g : xe_G} {M : mi_H} {b da n p : Nat} {f : Nat → Int32} (h_b : M.1 b = some (ob 1 [.ref da])) (h_da : M.1 da = some (ar .byte n f)) (hn : n ≤ 65540) (hp : p < n) : pt (mT g) 48 [.ref b, .int (nI p)] M (fun v M' => (v = some (.int (nI (by1 f p))) ∧ fm [] M M')) := by
  have h := dx_u1 (x1 := nI p) (g := g) h_b h_da hn
  rw [u1_nI hn hp] at h
  exact h
theorem dx_goesOnn {g : xe_G} {M : mi_H} {b da n e q : Nat} {f : Nat → Int32} (h_b : M.1 b = some (ob 1 [.ref da])) (h_da : M.1 da = some (ar .byte n f)) (hn : n ≤ 65540) (he : e ≤ n) (hq : q < 1000000) : pt (mT g) 46 [.ref b, .int (nI q), .int (nI e)] M (fun v M' => ((q < e ∧ f q &&& 192 = 128) ∧ v = some (.int 1) ∧ fm [] M M') ∨ ((¬ (q < e ∧ f q &&& 192 = 128)) ∧ v = some (.int 0) ∧ fm [] M M')) := by
  refine (dx_goesOn (x1 := nI q) (x2 := nI e) (g := g) h_b h_da hn).mono (fun v M' h => ?_)
  obtain ⟨h1, h2⟩ := h
  rcases goesOn_nI (f := f) hn he hq with ⟨h3, h4⟩ | ⟨h3, h4⟩
  · exact Or.inl ⟨h3, by rw [h1, h4], h2⟩
  · exact Or.inr ⟨h3, by rw [h1, h4], h2⟩
set_option maxHeartbeats 1000000 in
theorem dx_characterSize {g : xe_G} {M : mi_H} {r c b vd da n p e : Nat} {f : Nat → Int32} {it : Int32} (h_r : M.1 r = some (ob 9 [.ref c, .ref b, .ref vd, .int (nI p), .int it])) (h_b : M.1 b = some (ob 1 [.ref da])) (h_da : M.1 da = some (ar .byte n f)) (hn : n ≤ 65540) (he : e ≤ n) (hp : p < e) : pt (mT g) 156 [.ref r, .int (nI e)] M (fun v M' => (v = some (.int (nI (u8k f e p))) ∧ fm [] M M')) := by
  refine pt_in (b := mb_156 g) rfl (fun kf => ?_)
  show pl (mT g) kf (mb_156 g).2 (0, [(0, .ref r), (1, .int (nI e))], [], M) _
  have hF : fm [] M M := fm.rf
  refine ps_st (S' := (1, [(0, .ref r), (1, .int (nI e))], [.ref r], M)) rfl rfl rfl ?_
  refine ps_get (S' := (4, [(0, .ref r), (1, .int (nI e))], [.ref b], M)) rfl h_r rfl rfl ?_
  refine ps_st (S' := (5, [(0, .ref r), (1, .int (nI e))], [.ref r, .ref b], M)) rfl rfl rfl ?_
  refine ps_get (S' := (8, [(0, .ref r), (1, .int (nI e))], [.int (nI p), .ref b], M)) rfl h_r rfl rfl ?_
  refine pl_call (a := [.ref b, .int (nI p)]) (rest := []) rfl rfl rfl (dx_u1n h_b h_da (hn) (by omega)) (fun v1 M2 q3 => ?_)
  obtain ⟨rfl, f4⟩ := q3
  have h6 := (f4.1 r (by simp)).trans h_r
  have h7 := (f4.1 b (by simp)).trans h_b
  have h8 := (f4.1 da (by simp)).trans h_da
  have hF9 := hF.tr f4 (by simp)
  show pl _ _ _ (11, [(0, .ref r), (1, .int (nI e))], [.int (nI (by1 f p))], M2) _
  refine ps_st (S' := (12, [(2, .int (nI (by1 f p))), (0, .ref r), (1, .int (nI e))], [], M2)) rfl rfl rfl ?_
  refine ps_st (S' := (13, [(2, .int (nI (by1 f p))), (0, .ref r), (1, .int (nI e))], [.int (nI (by1 f p))], M2)) rfl rfl rfl ?_
  refine ps_st (S' := (16, [(2, .int (nI (by1 f p))), (0, .ref r), (1, .int (nI e))], [.int 128, .int (nI (by1 f p))], M2)) rfl rfl rfl ?_
  refine ps_if2 (S1 := (29, [(2, .int (nI (by1 f p))), (0, .ref r), (1, .int (nI e))], [], M2)) (S2 := (19, [(2, .int (nI (by1 f p))), (0, .ref r), (1, .int (nI e))], [], M2)) rfl rfl rfl (fun c_16 => ?_) (fun c_16 => ?_)
  · have c_16 : 128 ≤ (nI (by1 f p)) := of_decide_eq_true c_16
    have n_16 : 128 ≤ by1 f p := (le_nI (p := 128) (n := by1 f p) (by decide) (Nat.lt_trans (by1_lt _ _) (by decide))).mp c_16
    refine ps_st (S' := (30, [(2, .int (nI (by1 f p))), (0, .ref r), (1, .int (nI e))], [.int (nI (by1 f p))], M2)) rfl rfl rfl ?_
    refine ps_st (S' := (33, [(2, .int (nI (by1 f p))), (0, .ref r), (1, .int (nI e))], [.int 192, .int (nI (by1 f p))], M2)) rfl rfl rfl ?_
    refine ps_if2 (S1 := (60, [], [], M2)) (S2 := (36, [(2, .int (nI (by1 f p))), (0, .ref r), (1, .int (nI e))], [], M2)) rfl rfl rfl (fun c_33 => ?_) (fun c_33 => ?_)
    · have c_33 : (nI (by1 f p)) < 192 := of_decide_eq_true c_33
      have n_33 : by1 f p < 192 := (lt_nI (p := by1 f p) (n := 192) (Nat.lt_trans (by1_lt _ _) (by decide)) (by decide)).mp c_33
      refine ps_st (S' := (61, [], [.int 0], M2)) rfl rfl rfl ?_
      exact ps_ret rfl rfl (⟨by
          have e9 : u8k f e p = 0 := by
            unfold u8k
            repeat' split
            all_goals first | rfl | (exfalso; omega) | (exfalso; simp_all; done) | (exfalso; simp_all; omega)
          rw [e9]; rfl, hF9⟩)
    · have c_33 : ¬ ((nI (by1 f p)) < 192) := of_decide_eq_false c_33
      have n_33 : ¬ (by1 f p < 192) := fun h9 => c_33 ((lt_nI (p := by1 f p) (n := 192) (Nat.lt_trans (by1_lt _ _) (by decide)) (by decide)).mpr h9)
      refine ps_st (S' := (37, [(2, .int (nI (by1 f p))), (0, .ref r), (1, .int (nI e))], [.int (nI (by1 f p))], M2)) rfl rfl rfl ?_
      refine ps_st (S' := (40, [(2, .int (nI (by1 f p))), (0, .ref r), (1, .int (nI e))], [.int 240, .int (nI (by1 f p))], M2)) rfl rfl rfl ?_
      refine ps_if2 (S1 := (60, [], [], M2)) (S2 := (43, [(2, .int (nI (by1 f p))), (0, .ref r), (1, .int (nI e))], [], M2)) rfl rfl rfl (fun c_40 => ?_) (fun c_40 => ?_)
      · have c_40 : 240 ≤ (nI (by1 f p)) := of_decide_eq_true c_40
        have n_40 : 240 ≤ by1 f p := (le_nI (p := 240) (n := by1 f p) (by decide) (Nat.lt_trans (by1_lt _ _) (by decide))).mp c_40
        refine ps_st (S' := (61, [], [.int 0], M2)) rfl rfl rfl ?_
        exact ps_ret rfl rfl (⟨by
            have e9 : u8k f e p = 0 := by
              unfold u8k
              repeat' split
              all_goals first | rfl | (exfalso; omega) | (exfalso; simp_all; done) | (exfalso; simp_all; omega)
            rw [e9]; rfl, hF9⟩)
      · have c_40 : ¬ (240 ≤ (nI (by1 f p))) := of_decide_eq_false c_40
        have n_40 : ¬ (240 ≤ by1 f p) := fun h9 => c_40 ((le_nI (p := 240) (n := by1 f p) (by decide) (Nat.lt_trans (by1_lt _ _) (by decide))).mpr h9)
        refine ps_st (S' := (44, [(2, .int (nI (by1 f p))), (0, .ref r), (1, .int (nI e))], [.ref r], M2)) rfl rfl rfl ?_
        refine ps_get (S' := (47, [(2, .int (nI (by1 f p))), (0, .ref r), (1, .int (nI e))], [.ref b], M2)) rfl h6 rfl rfl ?_
        refine ps_st (S' := (48, [(2, .int (nI (by1 f p))), (0, .ref r), (1, .int (nI e))], [.ref r, .ref b], M2)) rfl rfl rfl ?_
        refine ps_get (S' := (51, [(2, .int (nI (by1 f p))), (0, .ref r), (1, .int (nI e))], [.int (nI p), .ref b], M2)) rfl h6 rfl rfl ?_
        refine ps_st (S' := (52, [(2, .int (nI (by1 f p))), (0, .ref r), (1, .int (nI e))], [.int 1, .int (nI p), .ref b], M2)) rfl rfl rfl ?_
        refine ps_st (S' := (53, [(2, .int (nI (by1 f p))), (0, .ref r), (1, .int (nI e))], [.int ((nI p) + 1), .ref b], M2)) rfl rfl rfl ?_
        rw [nI_add1 (p := p) (k := 1) (x := 1) rfl (by omega)]
        show pl _ _ _ (_, [(2, .int (nI (by1 f p))), (0, .ref r), (1, .int (nI e))], [.int (nI (p + 1)), .ref b], M2) _
        refine ps_st (S' := (54, [(2, .int (nI (by1 f p))), (0, .ref r), (1, .int (nI e))], [.int (nI e), .int (nI (p + 1)), .ref b], M2)) rfl rfl rfl ?_
        refine pl_call (a := [.ref b, .int (nI (p + 1)), .int (nI e)]) (rest := []) rfl rfl rfl (dx_goesOnn h7 h8 (hn) (by omega) (by omega)) (fun v10 M11 q12 => ?_)
        rcases q12 with q12 | q12
        · skip
          obtain ⟨q54_y, rfl, f13⟩ := q12
          have h15 := (f13.1 r (by simp)).trans h6
          have h16 := (f13.1 b (by simp)).trans h7
          have h17 := (f13.1 da (by simp)).trans h8
          have hF18 := hF9.tr f13 (by simp)
          show pl _ _ _ (57, [(2, .int (nI (by1 f p))), (0, .ref r), (1, .int (nI e))], [.int 1], M11) _
          refine ps_if (S1 := (62, [(2, .int (nI (by1 f p))), (0, .ref r), (1, .int (nI e))], [], M11)) (S2 := (60, [], [], M11)) rfl rfl rfl (fun c_57 => ?_) (fun c_57 => ?_)
          rotate_left
          · exact absurd (by decide) (of_decide_eq_false c_57)
          refine ps_st (S' := (63, [(2, .int (nI (by1 f p))), (0, .ref r), (1, .int (nI e))], [.int (nI (by1 f p))], M11)) rfl rfl rfl ?_
          refine ps_st (S' := (66, [(2, .int (nI (by1 f p))), (0, .ref r), (1, .int (nI e))], [.int 224, .int (nI (by1 f p))], M11)) rfl rfl rfl ?_
          refine ps_if2 (S1 := (71, [(2, .int (nI (by1 f p))), (0, .ref r), (1, .int (nI e))], [], M11)) (S2 := (69, [(2, .int (nI (by1 f p))), (0, .ref r), (1, .int (nI e))], [], M11)) rfl rfl rfl (fun c_66 => ?_) (fun c_66 => ?_)
          · have c_66 : 224 ≤ (nI (by1 f p)) := of_decide_eq_true c_66
            have n_66 : 224 ≤ by1 f p := (le_nI (p := 224) (n := by1 f p) (by decide) (Nat.lt_trans (by1_lt _ _) (by decide))).mp c_66
            refine ps_st (S' := (72, [(2, .int (nI (by1 f p))), (0, .ref r), (1, .int (nI e))], [.ref r], M11)) rfl rfl rfl ?_
            refine ps_get (S' := (75, [(2, .int (nI (by1 f p))), (0, .ref r), (1, .int (nI e))], [.ref b], M11)) rfl h15 rfl rfl ?_
            refine ps_st (S' := (76, [(2, .int (nI (by1 f p))), (0, .ref r), (1, .int (nI e))], [.ref r, .ref b], M11)) rfl rfl rfl ?_
            refine ps_get (S' := (79, [(2, .int (nI (by1 f p))), (0, .ref r), (1, .int (nI e))], [.int (nI p), .ref b], M11)) rfl h15 rfl rfl ?_
            refine ps_st (S' := (80, [(2, .int (nI (by1 f p))), (0, .ref r), (1, .int (nI e))], [.int 2, .int (nI p), .ref b], M11)) rfl rfl rfl ?_
            refine ps_st (S' := (81, [(2, .int (nI (by1 f p))), (0, .ref r), (1, .int (nI e))], [.int ((nI p) + 2), .ref b], M11)) rfl rfl rfl ?_
            rw [nI_add1 (p := p) (k := 2) (x := 2) rfl (by omega)]
            show pl _ _ _ (_, [(2, .int (nI (by1 f p))), (0, .ref r), (1, .int (nI e))], [.int (nI (p + 2)), .ref b], M11) _
            refine ps_st (S' := (82, [(2, .int (nI (by1 f p))), (0, .ref r), (1, .int (nI e))], [.int (nI e), .int (nI (p + 2)), .ref b], M11)) rfl rfl rfl ?_
            refine pl_call (a := [.ref b, .int (nI (p + 2)), .int (nI e)]) (rest := []) rfl rfl rfl (dx_goesOnn h16 h17 (hn) (by omega) (by omega)) (fun v19 M20 q21 => ?_)
            rcases q21 with q21 | q21
            · skip
              obtain ⟨q82_y, rfl, f22⟩ := q21
              have h24 := (f22.1 r (by simp)).trans h15
              have h25 := (f22.1 b (by simp)).trans h16
              have h26 := (f22.1 da (by simp)).trans h17
              have hF27 := hF18.tr f22 (by simp)
              show pl _ _ _ (85, [(2, .int (nI (by1 f p))), (0, .ref r), (1, .int (nI e))], [.int 1], M20) _
              refine ps_if (S1 := (92, [(2, .int (nI (by1 f p))), (0, .ref r), (1, .int (nI e))], [], M20)) (S2 := (88, [(2, .int (nI (by1 f p))), (0, .ref r), (1, .int (nI e))], [], M20)) rfl rfl rfl (fun c_85 => ?_) (fun c_85 => ?_)
              · exact absurd (of_decide_eq_true c_85) (by decide)
              refine ps_st (S' := (89, [(2, .int (nI (by1 f p))), (0, .ref r), (1, .int (nI e))], [.int 3], M20)) rfl rfl rfl ?_
              refine ps_st (S' := (93, [], [.int 3], M20)) rfl rfl rfl ?_
              exact ps_ret rfl rfl (⟨by
                  have e9 : u8k f e p = 3 := by
                    unfold u8k
                    repeat' split
                    all_goals first | rfl | (exfalso; omega) | (exfalso; simp_all; done) | (exfalso; simp_all; omega)
                  rw [e9]; rfl, hF27⟩)
            · skip
              obtain ⟨q82_n, rfl, f28⟩ := q21
              have h30 := (f28.1 r (by simp)).trans h15
              have h31 := (f28.1 b (by simp)).trans h16
              have h32 := (f28.1 da (by simp)).trans h17
              have hF33 := hF18.tr f28 (by simp)
              show pl _ _ _ (85, [(2, .int (nI (by1 f p))), (0, .ref r), (1, .int (nI e))], [.int 0], M20) _
              refine ps_if (S1 := (92, [(2, .int (nI (by1 f p))), (0, .ref r), (1, .int (nI e))], [], M20)) (S2 := (88, [(2, .int (nI (by1 f p))), (0, .ref r), (1, .int (nI e))], [], M20)) rfl rfl rfl (fun c_85 => ?_) (fun c_85 => ?_)
              rotate_left
              · exact absurd (by decide) (of_decide_eq_false c_85)
              refine ps_st (S' := (93, [], [.int 0], M20)) rfl rfl rfl ?_
              exact ps_ret rfl rfl (⟨by
                  have e9 : u8k f e p = 0 := by
                    unfold u8k
                    repeat' split
                    all_goals first | rfl | (exfalso; omega) | (exfalso; simp_all; done) | (exfalso; simp_all; omega)
                  rw [e9]; rfl, hF33⟩)
          · have c_66 : ¬ (224 ≤ (nI (by1 f p))) := of_decide_eq_false c_66
            have n_66 : ¬ (224 ≤ by1 f p) := fun h9 => c_66 ((le_nI (p := 224) (n := by1 f p) (by decide) (Nat.lt_trans (by1_lt _ _) (by decide))).mpr h9)
            refine ps_st (S' := (70, [(2, .int (nI (by1 f p))), (0, .ref r), (1, .int (nI e))], [.int 2], M11)) rfl rfl rfl ?_
            exact ps_ret rfl rfl (⟨by
                have e9 : u8k f e p = 2 := by
                  unfold u8k
                  repeat' split
                  all_goals first | rfl | (exfalso; omega) | (exfalso; simp_all; done) | (exfalso; simp_all; omega)
                rw [e9]; rfl, hF18⟩)
        · skip
          obtain ⟨q54_n, rfl, f34⟩ := q12
          have h36 := (f34.1 r (by simp)).trans h6
          have h37 := (f34.1 b (by simp)).trans h7
          have h38 := (f34.1 da (by simp)).trans h8
          have hF39 := hF9.tr f34 (by simp)
          show pl _ _ _ (57, [(2, .int (nI (by1 f p))), (0, .ref r), (1, .int (nI e))], [.int 0], M11) _
          refine ps_if (S1 := (62, [(2, .int (nI (by1 f p))), (0, .ref r), (1, .int (nI e))], [], M11)) (S2 := (60, [], [], M11)) rfl rfl rfl (fun c_57 => ?_) (fun c_57 => ?_)
          · exact absurd (of_decide_eq_true c_57) (by decide)
          refine ps_st (S' := (61, [], [.int 0], M11)) rfl rfl rfl ?_
          exact ps_ret rfl rfl (⟨by
              have e9 : u8k f e p = 0 := by
                unfold u8k
                repeat' split
                all_goals first | rfl | (exfalso; omega) | (exfalso; simp_all; done) | (exfalso; simp_all; omega)
              rw [e9]; rfl, hF39⟩)
  · have c_16 : ¬ (128 ≤ (nI (by1 f p))) := of_decide_eq_false c_16
    have n_16 : ¬ (128 ≤ by1 f p) := fun h9 => c_16 ((le_nI (p := 128) (n := by1 f p) (by decide) (Nat.lt_trans (by1_lt _ _) (by decide))).mpr h9)
    refine ps_st (S' := (20, [(2, .int (nI (by1 f p))), (0, .ref r), (1, .int (nI e))], [.int (nI (by1 f p))], M2)) rfl rfl rfl ?_
    refine ps_if (S1 := (27, [(2, .int (nI (by1 f p))), (0, .ref r), (1, .int (nI e))], [], M2)) (S2 := (23, [(2, .int (nI (by1 f p))), (0, .ref r), (1, .int (nI e))], [], M2)) rfl rfl rfl (fun c_20 => ?_) (fun c_20 => ?_)
    · have c_20 : ¬ (nI (by1 f p)) = 0 := of_decide_eq_true c_20
      have n_20 : ¬ (by1 f p = 0) := fun h9 => c_20 ((eq_nI (p := by1 f p) (n := 0) (Nat.lt_trans (by1_lt _ _) (by decide)) (by decide)).mpr h9)
      refine ps_st (S' := (28, [], [.int 1], M2)) rfl rfl rfl ?_
      exact ps_ret rfl rfl (⟨by
          have e9 : u8k f e p = 1 := by
            unfold u8k
            repeat' split
            all_goals first | rfl | (exfalso; omega) | (exfalso; simp_all; done) | (exfalso; simp_all; omega)
          rw [e9]; rfl, hF9⟩)
    · have c_20 : ¬ (¬ (nI (by1 f p)) = 0) := of_decide_eq_false c_20
      have n_20 : by1 f p = 0 := (eq_nI (p := by1 f p) (n := 0) (Nat.lt_trans (by1_lt _ _) (by decide)) (by decide)).mp (Decidable.not_not.mp c_20)
      refine ps_st (S' := (24, [(2, .int (nI (by1 f p))), (0, .ref r), (1, .int (nI e))], [.int 0], M2)) rfl rfl rfl ?_
      refine ps_st (S' := (28, [], [.int 0], M2)) rfl rfl rfl ?_
      exact ps_ret rfl rfl (⟨by
          have e9 : u8k f e p = 0 := by
            unfold u8k
            repeat' split
            all_goals first | rfl | (exfalso; omega) | (exfalso; simp_all; done) | (exfalso; simp_all; omega)
          rw [e9]; rfl, hF9⟩)
set_option maxHeartbeats 1000000 in
theorem dx_characterOf {g : xe_G} {M : mi_H} {r c b vd da n p k : Nat} {f : Nat → Int32} {it : Int32} (h_r : M.1 r = some (ob 9 [.ref c, .ref b, .ref vd, .int (nI p), .int it])) (h_b : M.1 b = some (ob 1 [.ref da])) (h_da : M.1 da = some (ar .byte n f)) (hn : n ≤ 65540) (hk : 1 ≤ k ∧ k ≤ 3) (hp : p + k ≤ n) : pt (mT g) 155 [.ref r, .int (nI k)] M (fun v M' => (v = some (.int (nI (u8n f p k))) ∧ fm [] M M')) := by
  refine pt_in (b := mb_155 g) rfl (fun kf => ?_)
  show pl (mT g) kf (mb_155 g).2 (0, [(0, .ref r), (1, .int (nI k))], [], M) _
  have hF : fm [] M M := fm.rf
  refine ps_st (S' := (1, [(0, .ref r), (1, .int (nI k))], [.ref r], M)) rfl rfl rfl ?_
  refine ps_get (S' := (4, [(0, .ref r), (1, .int (nI k))], [.ref b], M)) rfl h_r rfl rfl ?_
  refine ps_st (S' := (5, [(0, .ref r), (1, .int (nI k))], [.ref r, .ref b], M)) rfl rfl rfl ?_
  refine ps_get (S' := (8, [(0, .ref r), (1, .int (nI k))], [.int (nI p), .ref b], M)) rfl h_r rfl rfl ?_
  refine pl_call (a := [.ref b, .int (nI p)]) (rest := []) rfl rfl rfl (dx_u1n h_b h_da (hn) (by omega)) (fun v1 M2 q3 => ?_)
  obtain ⟨rfl, f4⟩ := q3
  have h6 := (f4.1 r (by simp)).trans h_r
  have h7 := (f4.1 b (by simp)).trans h_b
  have h8 := (f4.1 da (by simp)).trans h_da
  have hF9 := hF.tr f4 (by simp)
  show pl _ _ _ (11, [(0, .ref r), (1, .int (nI k))], [.int (nI (by1 f p))], M2) _
  refine ps_st (S' := (12, [(2, .int (nI (by1 f p))), (0, .ref r), (1, .int (nI k))], [], M2)) rfl rfl rfl ?_
  refine ps_st (S' := (13, [(2, .int (nI (by1 f p))), (0, .ref r), (1, .int (nI k))], [.int (nI k)], M2)) rfl rfl rfl ?_
  refine ps_st (S' := (14, [(2, .int (nI (by1 f p))), (0, .ref r), (1, .int (nI k))], [.int 1, .int (nI k)], M2)) rfl rfl rfl ?_
  refine ps_if2 (S1 := (19, [(2, .int (nI (by1 f p))), (0, .ref r), (1, .int (nI k))], [], M2)) (S2 := (17, [(2, .int (nI (by1 f p))), (0, .ref r), (1, .int (nI k))], [], M2)) rfl rfl rfl (fun c_14 => ?_) (fun c_14 => ?_)
  · have c_14 : ¬ (nI k) = 1 := of_decide_eq_true c_14
    have n_14 : ¬ (k = 1) := fun h9 => c_14 ((eq_nI (p := k) (n := 1) (by omega) (by decide)).mpr h9)
    refine ps_st (S' := (20, [(2, .int (nI (by1 f p))), (0, .ref r), (1, .int (nI k))], [.int (nI k)], M2)) rfl rfl rfl ?_
    refine ps_st (S' := (21, [(2, .int (nI (by1 f p))), (0, .ref r), (1, .int (nI k))], [.int 2, .int (nI k)], M2)) rfl rfl rfl ?_
    refine ps_if2 (S1 := (49, [(2, .int (nI (by1 f p))), (0, .ref r), (1, .int (nI k))], [], M2)) (S2 := (24, [(2, .int (nI (by1 f p))), (0, .ref r), (1, .int (nI k))], [], M2)) rfl rfl rfl (fun c_21 => ?_) (fun c_21 => ?_)
    · have c_21 : ¬ (nI k) = 2 := of_decide_eq_true c_21
      have n_21 : ¬ (k = 2) := fun h9 => c_21 ((eq_nI (p := k) (n := 2) (by omega) (by decide)).mpr h9)
      refine ps_st (S' := (50, [(2, .int (nI (by1 f p))), (0, .ref r), (1, .int (nI k))], [.int (nI (by1 f p))], M2)) rfl rfl rfl ?_
      refine ps_st (S' := (52, [(2, .int (nI (by1 f p))), (0, .ref r), (1, .int (nI k))], [.int 15, .int (nI (by1 f p))], M2)) rfl rfl rfl ?_
      refine ps_st (S' := (53, [(2, .int (nI (by1 f p))), (0, .ref r), (1, .int (nI k))], [.int ((nI (by1 f p)) &&& 15)], M2)) rfl rfl rfl ?_
      refine ps_st (S' := (55, [(2, .int (nI (by1 f p))), (0, .ref r), (1, .int (nI k))], [.int 12, .int ((nI (by1 f p)) &&& 15)], M2)) rfl rfl rfl ?_
      refine ps_st (S' := (56, [(2, .int (nI (by1 f p))), (0, .ref r), (1, .int (nI k))], [.int (((nI (by1 f p)) &&& 15) <<< (12 &&& 31))], M2)) rfl rfl rfl ?_
      refine ps_st (S' := (57, [(2, .int (nI (by1 f p))), (0, .ref r), (1, .int (nI k))], [.ref r, .int (((nI (by1 f p)) &&& 15) <<< (12 &&& 31))], M2)) rfl rfl rfl ?_
      refine ps_get (S' := (60, [(2, .int (nI (by1 f p))), (0, .ref r), (1, .int (nI k))], [.ref b, .int (((nI (by1 f p)) &&& 15) <<< (12 &&& 31))], M2)) rfl h6 rfl rfl ?_
      refine ps_st (S' := (61, [(2, .int (nI (by1 f p))), (0, .ref r), (1, .int (nI k))], [.ref r, .ref b, .int (((nI (by1 f p)) &&& 15) <<< (12 &&& 31))], M2)) rfl rfl rfl ?_
      refine ps_get (S' := (64, [(2, .int (nI (by1 f p))), (0, .ref r), (1, .int (nI k))], [.int (nI p), .ref b, .int (((nI (by1 f p)) &&& 15) <<< (12 &&& 31))], M2)) rfl h6 rfl rfl ?_
      refine ps_st (S' := (65, [(2, .int (nI (by1 f p))), (0, .ref r), (1, .int (nI k))], [.int 1, .int (nI p), .ref b, .int (((nI (by1 f p)) &&& 15) <<< (12 &&& 31))], M2)) rfl rfl rfl ?_
      refine ps_st (S' := (66, [(2, .int (nI (by1 f p))), (0, .ref r), (1, .int (nI k))], [.int ((nI p) + 1), .ref b, .int (((nI (by1 f p)) &&& 15) <<< (12 &&& 31))], M2)) rfl rfl rfl ?_
      rw [nI_add1 (p := p) (k := 1) (x := 1) rfl (by omega)]
      show pl _ _ _ (_, [(2, .int (nI (by1 f p))), (0, .ref r), (1, .int (nI k))], [.int (nI (p + 1)), .ref b, .int (((nI (by1 f p)) &&& 15) <<< (12 &&& 31))], M2) _
      refine pl_call (a := [.ref b, .int (nI (p + 1))]) (rest := [.int (((nI (by1 f p)) &&& 15) <<< (12 &&& 31))]) rfl rfl rfl (dx_u1n h7 h8 (hn) (by omega)) (fun v10 M11 q12 => ?_)
      obtain ⟨rfl, f13⟩ := q12
      have h15 := (f13.1 r (by simp)).trans h6
      have h16 := (f13.1 b (by simp)).trans h7
      have h17 := (f13.1 da (by simp)).trans h8
      have hF18 := hF9.tr f13 (by simp)
      show pl _ _ _ (69, [(2, .int (nI (by1 f p))), (0, .ref r), (1, .int (nI k))], [.int (nI (by1 f (p + 1))), .int (((nI (by1 f p)) &&& 15) <<< (12 &&& 31))], M11) _
      refine ps_st (S' := (71, [(2, .int (nI (by1 f p))), (0, .ref r), (1, .int (nI k))], [.int 63, .int (nI (by1 f (p + 1))), .int (((nI (by1 f p)) &&& 15) <<< (12 &&& 31))], M11)) rfl rfl rfl ?_
      refine ps_st (S' := (72, [(2, .int (nI (by1 f p))), (0, .ref r), (1, .int (nI k))], [.int ((nI (by1 f (p + 1))) &&& 63), .int (((nI (by1 f p)) &&& 15) <<< (12 &&& 31))], M11)) rfl rfl rfl ?_
      refine ps_st (S' := (74, [(2, .int (nI (by1 f p))), (0, .ref r), (1, .int (nI k))], [.int 6, .int ((nI (by1 f (p + 1))) &&& 63), .int (((nI (by1 f p)) &&& 15) <<< (12 &&& 31))], M11)) rfl rfl rfl ?_
      refine ps_st (S' := (75, [(2, .int (nI (by1 f p))), (0, .ref r), (1, .int (nI k))], [.int (((nI (by1 f (p + 1))) &&& 63) <<< (6 &&& 31)), .int (((nI (by1 f p)) &&& 15) <<< (12 &&& 31))], M11)) rfl rfl rfl ?_
      refine ps_st (S' := (76, [(2, .int (nI (by1 f p))), (0, .ref r), (1, .int (nI k))], [.int ((((nI (by1 f p)) &&& 15) <<< (12 &&& 31)) ||| (((nI (by1 f (p + 1))) &&& 63) <<< (6 &&& 31)))], M11)) rfl rfl rfl ?_
      refine ps_st (S' := (77, [(2, .int (nI (by1 f p))), (0, .ref r), (1, .int (nI k))], [.ref r, .int ((((nI (by1 f p)) &&& 15) <<< (12 &&& 31)) ||| (((nI (by1 f (p + 1))) &&& 63) <<< (6 &&& 31)))], M11)) rfl rfl rfl ?_
      refine ps_get (S' := (80, [(2, .int (nI (by1 f p))), (0, .ref r), (1, .int (nI k))], [.ref b, .int ((((nI (by1 f p)) &&& 15) <<< (12 &&& 31)) ||| (((nI (by1 f (p + 1))) &&& 63) <<< (6 &&& 31)))], M11)) rfl h15 rfl rfl ?_
      refine ps_st (S' := (81, [(2, .int (nI (by1 f p))), (0, .ref r), (1, .int (nI k))], [.ref r, .ref b, .int ((((nI (by1 f p)) &&& 15) <<< (12 &&& 31)) ||| (((nI (by1 f (p + 1))) &&& 63) <<< (6 &&& 31)))], M11)) rfl rfl rfl ?_
      refine ps_get (S' := (84, [(2, .int (nI (by1 f p))), (0, .ref r), (1, .int (nI k))], [.int (nI p), .ref b, .int ((((nI (by1 f p)) &&& 15) <<< (12 &&& 31)) ||| (((nI (by1 f (p + 1))) &&& 63) <<< (6 &&& 31)))], M11)) rfl h15 rfl rfl ?_
      refine ps_st (S' := (85, [(2, .int (nI (by1 f p))), (0, .ref r), (1, .int (nI k))], [.int 2, .int (nI p), .ref b, .int ((((nI (by1 f p)) &&& 15) <<< (12 &&& 31)) ||| (((nI (by1 f (p + 1))) &&& 63) <<< (6 &&& 31)))], M11)) rfl rfl rfl ?_
      refine ps_st (S' := (86, [(2, .int (nI (by1 f p))), (0, .ref r), (1, .int (nI k))], [.int ((nI p) + 2), .ref b, .int ((((nI (by1 f p)) &&& 15) <<< (12 &&& 31)) ||| (((nI (by1 f (p + 1))) &&& 63) <<< (6 &&& 31)))], M11)) rfl rfl rfl ?_
      rw [nI_add1 (p := p) (k := 2) (x := 2) rfl (by omega)]
      show pl _ _ _ (_, [(2, .int (nI (by1 f p))), (0, .ref r), (1, .int (nI k))], [.int (nI (p + 2)), .ref b, .int ((((nI (by1 f p)) &&& 15) <<< (12 &&& 31)) ||| (((nI (by1 f (p + 1))) &&& 63) <<< (6 &&& 31)))], M11) _
      refine pl_call (a := [.ref b, .int (nI (p + 2))]) (rest := [.int ((((nI (by1 f p)) &&& 15) <<< (12 &&& 31)) ||| (((nI (by1 f (p + 1))) &&& 63) <<< (6 &&& 31)))]) rfl rfl rfl (dx_u1n h16 h17 (hn) (by omega)) (fun v19 M20 q21 => ?_)
      obtain ⟨rfl, f22⟩ := q21
      have h24 := (f22.1 r (by simp)).trans h15
      have h25 := (f22.1 b (by simp)).trans h16
      have h26 := (f22.1 da (by simp)).trans h17
      have hF27 := hF18.tr f22 (by simp)
      show pl _ _ _ (89, [(2, .int (nI (by1 f p))), (0, .ref r), (1, .int (nI k))], [.int (nI (by1 f (p + 2))), .int ((((nI (by1 f p)) &&& 15) <<< (12 &&& 31)) ||| (((nI (by1 f (p + 1))) &&& 63) <<< (6 &&& 31)))], M20) _
      refine ps_st (S' := (91, [(2, .int (nI (by1 f p))), (0, .ref r), (1, .int (nI k))], [.int 63, .int (nI (by1 f (p + 2))), .int ((((nI (by1 f p)) &&& 15) <<< (12 &&& 31)) ||| (((nI (by1 f (p + 1))) &&& 63) <<< (6 &&& 31)))], M20)) rfl rfl rfl ?_
      refine ps_st (S' := (92, [(2, .int (nI (by1 f p))), (0, .ref r), (1, .int (nI k))], [.int ((nI (by1 f (p + 2))) &&& 63), .int ((((nI (by1 f p)) &&& 15) <<< (12 &&& 31)) ||| (((nI (by1 f (p + 1))) &&& 63) <<< (6 &&& 31)))], M20)) rfl rfl rfl ?_
      refine ps_st (S' := (93, [(2, .int (nI (by1 f p))), (0, .ref r), (1, .int (nI k))], [.int (((((nI (by1 f p)) &&& 15) <<< (12 &&& 31)) ||| (((nI (by1 f (p + 1))) &&& 63) <<< (6 &&& 31))) ||| ((nI (by1 f (p + 2))) &&& 63))], M20)) rfl rfl rfl ?_
      exact ps_ret rfl rfl (⟨by
          rw [← (u8n_eq f p k).1]
          unfold u8c
          rw [if_neg (by omega), if_neg (by omega)], hF27⟩)
    · have c_21 : ¬ (¬ (nI k) = 2) := of_decide_eq_false c_21
      have n_21 : k = 2 := (eq_nI (p := k) (n := 2) (by omega) (by decide)).mp (Decidable.not_not.mp c_21)
      refine ps_st (S' := (25, [(2, .int (nI (by1 f p))), (0, .ref r), (1, .int (nI k))], [.int (nI (by1 f p))], M2)) rfl rfl rfl ?_
      refine ps_st (S' := (27, [(2, .int (nI (by1 f p))), (0, .ref r), (1, .int (nI k))], [.int 31, .int (nI (by1 f p))], M2)) rfl rfl rfl ?_
      refine ps_st (S' := (28, [(2, .int (nI (by1 f p))), (0, .ref r), (1, .int (nI k))], [.int ((nI (by1 f p)) &&& 31)], M2)) rfl rfl rfl ?_
      refine ps_st (S' := (30, [(2, .int (nI (by1 f p))), (0, .ref r), (1, .int (nI k))], [.int 6, .int ((nI (by1 f p)) &&& 31)], M2)) rfl rfl rfl ?_
      refine ps_st (S' := (31, [(2, .int (nI (by1 f p))), (0, .ref r), (1, .int (nI k))], [.int (((nI (by1 f p)) &&& 31) <<< (6 &&& 31))], M2)) rfl rfl rfl ?_
      refine ps_st (S' := (32, [(2, .int (nI (by1 f p))), (0, .ref r), (1, .int (nI k))], [.ref r, .int (((nI (by1 f p)) &&& 31) <<< (6 &&& 31))], M2)) rfl rfl rfl ?_
      refine ps_get (S' := (35, [(2, .int (nI (by1 f p))), (0, .ref r), (1, .int (nI k))], [.ref b, .int (((nI (by1 f p)) &&& 31) <<< (6 &&& 31))], M2)) rfl h6 rfl rfl ?_
      refine ps_st (S' := (36, [(2, .int (nI (by1 f p))), (0, .ref r), (1, .int (nI k))], [.ref r, .ref b, .int (((nI (by1 f p)) &&& 31) <<< (6 &&& 31))], M2)) rfl rfl rfl ?_
      refine ps_get (S' := (39, [(2, .int (nI (by1 f p))), (0, .ref r), (1, .int (nI k))], [.int (nI p), .ref b, .int (((nI (by1 f p)) &&& 31) <<< (6 &&& 31))], M2)) rfl h6 rfl rfl ?_
      refine ps_st (S' := (40, [(2, .int (nI (by1 f p))), (0, .ref r), (1, .int (nI k))], [.int 1, .int (nI p), .ref b, .int (((nI (by1 f p)) &&& 31) <<< (6 &&& 31))], M2)) rfl rfl rfl ?_
      refine ps_st (S' := (41, [(2, .int (nI (by1 f p))), (0, .ref r), (1, .int (nI k))], [.int ((nI p) + 1), .ref b, .int (((nI (by1 f p)) &&& 31) <<< (6 &&& 31))], M2)) rfl rfl rfl ?_
      rw [nI_add1 (p := p) (k := 1) (x := 1) rfl (by omega)]
      show pl _ _ _ (_, [(2, .int (nI (by1 f p))), (0, .ref r), (1, .int (nI k))], [.int (nI (p + 1)), .ref b, .int (((nI (by1 f p)) &&& 31) <<< (6 &&& 31))], M2) _
      refine pl_call (a := [.ref b, .int (nI (p + 1))]) (rest := [.int (((nI (by1 f p)) &&& 31) <<< (6 &&& 31))]) rfl rfl rfl (dx_u1n h7 h8 (hn) (by omega)) (fun v28 M29 q30 => ?_)
      obtain ⟨rfl, f31⟩ := q30
      have h33 := (f31.1 r (by simp)).trans h6
      have h34 := (f31.1 b (by simp)).trans h7
      have h35 := (f31.1 da (by simp)).trans h8
      have hF36 := hF9.tr f31 (by simp)
      show pl _ _ _ (44, [(2, .int (nI (by1 f p))), (0, .ref r), (1, .int (nI k))], [.int (nI (by1 f (p + 1))), .int (((nI (by1 f p)) &&& 31) <<< (6 &&& 31))], M29) _
      refine ps_st (S' := (46, [(2, .int (nI (by1 f p))), (0, .ref r), (1, .int (nI k))], [.int 63, .int (nI (by1 f (p + 1))), .int (((nI (by1 f p)) &&& 31) <<< (6 &&& 31))], M29)) rfl rfl rfl ?_
      refine ps_st (S' := (47, [(2, .int (nI (by1 f p))), (0, .ref r), (1, .int (nI k))], [.int ((nI (by1 f (p + 1))) &&& 63), .int (((nI (by1 f p)) &&& 31) <<< (6 &&& 31))], M29)) rfl rfl rfl ?_
      refine ps_st (S' := (48, [(2, .int (nI (by1 f p))), (0, .ref r), (1, .int (nI k))], [.int ((((nI (by1 f p)) &&& 31) <<< (6 &&& 31)) ||| ((nI (by1 f (p + 1))) &&& 63))], M29)) rfl rfl rfl ?_
      exact ps_ret rfl rfl (⟨by
          rw [← (u8n_eq f p k).1]
          unfold u8c
          rw [if_neg (by omega), if_pos (by omega)], hF36⟩)
  · have c_14 : ¬ (¬ (nI k) = 1) := of_decide_eq_false c_14
    have n_14 : k = 1 := (eq_nI (p := k) (n := 1) (by omega) (by decide)).mp (Decidable.not_not.mp c_14)
    refine ps_st (S' := (18, [(2, .int (nI (by1 f p))), (0, .ref r), (1, .int (nI k))], [.int (nI (by1 f p))], M2)) rfl rfl rfl ?_
    exact ps_ret rfl rfl (⟨by
        rw [← (u8n_eq f p k).1]
        unfold u8c
        rw [if_pos (by omega)], hF9⟩)
theorem lsub {c x : Nat} (h : c + x < 1073741824) : nI (c + x) - nI c = nI x := by
  apply Int32.toInt_inj.mp
  rw [Int32.toInt_sub, nI_val (by omega), nI_val (by omega), nI_val (by omega)]
  rw [Int.bmod_eq_of_le (by omega) (by omega)]
  omega
set_option maxHeartbeats 1000000 in
theorem dx_takesText {g : xe_G} {M : mi_H} {r c b vd da n p : Nat} {f : Nat → Int32} {it ru wa mi ma fa ic ac aa k1 k2 k3 k4 k5 k6 k7 : Int32} {u6 u7 : Value} {pq q1 q2 q3 q4 q5 q6 hd m cc : Nat} {sz : Int32} {F1 F3 F4 F6 : Nat → Int32} {k : Nat} (h_r : M.1 r = some (ob 9 [.ref c, .ref b, .ref vd, .int (nI p), .int it])) (h_b : M.1 b = some (ob 1 [.ref da])) (h_da : M.1 da = some (ar .byte n f)) (h_vd : M.1 vd = some (ob 10 [.int ru, .int wa])) (h_c : M.1 c = some (ob 3 [.ref b, .ref pq, .int mi, .int ma, .int fa, .int ic, u6, u7, .int ac, .int aa, .int k1, .int k2, .int k3, .int k4, .int k5, .int k6, .int k7])) (h_pq : M.1 pq = some (ob 7 [.int sz, .ref q1, .ref q2, .ref q3, .ref q4, .ref q5, .ref q6, .int (nI cc)])) (h_q1 : M.1 q1 = some (ar .int hd F1)) (h_q3 : M.1 q3 = some (ar .int hd F3)) (h_q4 : M.1 q4 = some (ar .int hd F4)) (h_q6 : M.1 q6 = some (ar .char m F6)) (hn : n ≤ 65540) (hp : p ≤ n) (hD : dst5 q1 q2 q3 q4 q5) (hh : hd < 1073741824) (hm : m = n) (hk : k < hd) (hc : cc ≤ p) : pt (mT g) 170 [.ref r, .int (nI k)] M (fun v M' => (∃ (l : List Nat) (it' : Int32), (s_utf f n p = .inr l) ∧ (p + 2 + by2 f p ≤ n) ∧ (cc + l.length ≤ p + 2 + by2 f p) ∧ v = some (.int 1) ∧ M'.1 r = some (ob 9 [.ref c, .ref b, .ref vd, .int (nI (p + 2 + by2 f p)), .int it']) ∧ M'.1 vd = some (ob 10 [.int ru, .int wa]) ∧ M'.1 pq = some (ob 7 [.int sz, .ref q1, .ref q2, .ref q3, .ref q4, .ref q5, .ref q6, .int (nI (cc + l.length))]) ∧ M'.1 q3 = some (ar .int hd (upd F3 k (nI cc))) ∧ M'.1 q4 = some (ar .int hd (upd F4 k (nI l.length))) ∧ M'.1 q6 = some (ar .char m (wr F6 cc l)) ∧ fm [r, vd, pq, q3, q4, q6] M M') ∨ (∃ (e : Nat × Nat), (s_utf f n p = .inl e) ∧ v = some (.int 0) ∧ M'.1 vd = some (ob 10 [.int (nI e.1), .int (nI e.2)]) ∧ fm [r, vd, pq, q3, q4, q6] M M')) := by
  refine pt_in (b := mb_170 g) rfl (fun kf => ?_)
  show pl (mT g) kf (mb_170 g).2 (0, [(0, .ref r), (1, .int (nI k))], [], M) _
  have hF : fm [r, vd, pq, q3, q4, q6] M M := fm.rf
  have hb2 := by2_lt f p
  have L63 : ∀ (kf : Nat) (p1 : Nat) (l1 : List Nat) (M1 : mi_H), (M1.1 r = some (ob 9 [.ref c, .ref b, .ref vd, .int (nI p1), .int (nI (by2 f p))])) → (M1.1 b = some (ob 1 [.ref da])) → (M1.1 da = some (ar .byte n f)) → (M1.1 vd = some (ob 10 [.int ru, .int wa])) → (M1.1 c = some (ob 3 [.ref b, .ref pq, .int mi, .int ma, .int fa, .int ic, u6, u7, .int ac, .int aa, .int k1, .int k2, .int k3, .int k4, .int k5, .int k6, .int k7])) → (M1.1 pq = some (ob 7 [.int sz, .ref q1, .ref q2, .ref q3, .ref q4, .ref q5, .ref q6, .int (nI (cc + l1.length))])) → (M1.1 q1 = some (ar .int hd F1)) → (M1.1 q3 = some (ar .int hd F3)) → (M1.1 q4 = some (ar .int hd F4)) → (M1.1 q6 = some (ar .char m (wr F6 cc l1))) → (fm [r, vd, pq, q3, q4, q6] M M1) → (p + 2 ≤ p1 ∧ p1 ≤ (p + 2 + by2 f p)) → ((p + 2 + by2 f p) ≤ n) → (cc + l1.length ≤ p1) → (s_text f (p + 2 + by2 f p) ((p + 2 + by2 f p) - p1) p1 l1 = s_text f (p + 2 + by2 f p) (by2 f p) (p + 2) []) → pl (mT g) kf (mb_170 g).2 (63, [(0, .ref r), (1, .int (nI k)), (2, .int (nI (p + 2 + by2 f p))), (3, .int (nI cc))], [], M1) (fun v M' => (∃ (l : List Nat) (it' : Int32), (s_utf f n p = .inr l) ∧ (p + 2 + by2 f p ≤ n) ∧ (cc + l.length ≤ p + 2 + by2 f p) ∧ v = some (.int 1) ∧ M'.1 r = some (ob 9 [.ref c, .ref b, .ref vd, .int (nI (p + 2 + by2 f p)), .int it']) ∧ M'.1 vd = some (ob 10 [.int ru, .int wa]) ∧ M'.1 pq = some (ob 7 [.int sz, .ref q1, .ref q2, .ref q3, .ref q4, .ref q5, .ref q6, .int (nI (cc + l.length))]) ∧ M'.1 q3 = some (ar .int hd (upd F3 k (nI cc))) ∧ M'.1 q4 = some (ar .int hd (upd F4 k (nI l.length))) ∧ M'.1 q6 = some (ar .char m (wr F6 cc l)) ∧ fm [r, vd, pq, q3, q4, q6] M M') ∨ (∃ (e : Nat × Nat), (s_utf f n p = .inl e) ∧ v = some (.int 0) ∧ M'.1 vd = some (ob 10 [.int (nI e.1), .int (nI e.2)]) ∧ fm [r, vd, pq, q3, q4, q6] M M')) := by
    intro kf
    induction kf with
    | zero => intros; exact pl_0
    | succ kf ih =>
      intro p1 l1 M1 hl_r hl_b hl_da hl_vd hl_c hl_pq hl_q1 hl_q3 hl_q4 hl_q6 hF1 hp1 he1 hl1 hs
      have hb2 := by2_lt f p
      refine ps_st1 (S' := (64, [(0, .ref r), (1, .int (nI k)), (2, .int (nI (p + 2 + by2 f p))), (3, .int (nI cc))], [.ref r], M1)) rfl rfl rfl ?_
      refine ps_get (S' := (67, [(0, .ref r), (1, .int (nI k)), (2, .int (nI (p + 2 + by2 f p))), (3, .int (nI cc))], [.int (nI p1)], M1)) rfl hl_r rfl rfl ?_
      refine ps_st (S' := (68, [(0, .ref r), (1, .int (nI k)), (2, .int (nI (p + 2 + by2 f p))), (3, .int (nI cc))], [.int (nI (p + 2 + by2 f p)), .int (nI p1)], M1)) rfl rfl rfl ?_
      refine ps_if2 (S1 := (128, [(0, .ref r), (1, .int (nI k)), (2, .int (nI (p + 2 + by2 f p))), (3, .int (nI cc))], [], M1)) (S2 := (71, [(0, .ref r), (1, .int (nI k)), (2, .int (nI (p + 2 + by2 f p))), (3, .int (nI cc))], [], M1)) rfl rfl rfl (fun c_68 => ?_) (fun c_68 => ?_)
      · have c_68 : (nI (p + 2 + by2 f p)) ≤ (nI p1) := of_decide_eq_true c_68
        have n_68 : p + 2 + by2 f p ≤ p1 := (le_nI (p := p + 2 + by2 f p) (n := p1) (by omega) (by omega)).mp c_68
        refine ps_st (S' := (129, [(0, .ref r), (1, .int (nI k)), (2, .int (nI (p + 2 + by2 f p))), (3, .int (nI cc))], [.ref r], M1)) rfl rfl rfl ?_
        refine ps_get (S' := (132, [(0, .ref r), (1, .int (nI k)), (2, .int (nI (p + 2 + by2 f p))), (3, .int (nI cc))], [.ref c], M1)) rfl hl_r rfl rfl ?_
        refine ps_get (S' := (135, [(0, .ref r), (1, .int (nI k)), (2, .int (nI (p + 2 + by2 f p))), (3, .int (nI cc))], [.ref pq], M1)) rfl hl_c rfl rfl ?_
        refine ps_st (S' := (136, [(0, .ref r), (1, .int (nI k)), (2, .int (nI (p + 2 + by2 f p))), (3, .int (nI cc))], [.int (nI k), .ref pq], M1)) rfl rfl rfl ?_
        refine ps_st (S' := (137, [(0, .ref r), (1, .int (nI k)), (2, .int (nI (p + 2 + by2 f p))), (3, .int (nI cc))], [.int (nI cc), .int (nI k), .ref pq], M1)) rfl rfl rfl ?_
        refine ps_st (S' := (138, [(0, .ref r), (1, .int (nI k)), (2, .int (nI (p + 2 + by2 f p))), (3, .int (nI cc))], [.ref r, .int (nI cc), .int (nI k), .ref pq], M1)) rfl rfl rfl ?_
        refine ps_get (S' := (141, [(0, .ref r), (1, .int (nI k)), (2, .int (nI (p + 2 + by2 f p))), (3, .int (nI cc))], [.ref c, .int (nI cc), .int (nI k), .ref pq], M1)) rfl hl_r rfl rfl ?_
        refine ps_get (S' := (144, [(0, .ref r), (1, .int (nI k)), (2, .int (nI (p + 2 + by2 f p))), (3, .int (nI cc))], [.ref pq, .int (nI cc), .int (nI k), .ref pq], M1)) rfl hl_c rfl rfl ?_
        refine ps_get (S' := (147, [(0, .ref r), (1, .int (nI k)), (2, .int (nI (p + 2 + by2 f p))), (3, .int (nI cc))], [.int (nI (cc + l1.length)), .int (nI cc), .int (nI k), .ref pq], M1)) rfl hl_pq rfl rfl ?_
        refine ps_st (S' := (148, [(0, .ref r), (1, .int (nI k)), (2, .int (nI (p + 2 + by2 f p))), (3, .int (nI cc))], [.int (nI cc), .int (nI (cc + l1.length)), .int (nI cc), .int (nI k), .ref pq], M1)) rfl rfl rfl ?_
        refine ps_st (S' := (149, [(0, .ref r), (1, .int (nI k)), (2, .int (nI (p + 2 + by2 f p))), (3, .int (nI cc))], [.int ((nI (cc + l1.length)) - (nI cc)), .int (nI cc), .int (nI k), .ref pq], M1)) rfl rfl rfl ?_
        refine pl_call (a := [.ref pq, .int (nI k), .int (nI cc), .int ((nI (cc + l1.length)) - (nI cc))]) (rest := []) rfl rfl rfl (dx_setNumbers hl_pq hl_q1 hl_q3 hl_q4 (hD) (hh) (hk)) (fun v1 M2 q3 => ?_)
        obtain ⟨rfl, h4, h5, f6⟩ := q3
        have h8 := (f6.1 r (nin2 (ob_ar hl_r hl_q3) (ob_ar hl_r hl_q4))).trans hl_r
        have h9 := (f6.1 b (nin2 (ob_ar hl_b hl_q3) (ob_ar hl_b hl_q4))).trans hl_b
        have h10 := (f6.1 da (nin2 (ar_ne hl_da hl_q3 (by decide)) (ar_ne hl_da hl_q4 (by decide)))).trans hl_da
        have h11 := (f6.1 vd (nin2 (ob_ar hl_vd hl_q3) (ob_ar hl_vd hl_q4))).trans hl_vd
        have h12 := (f6.1 c (nin2 (ob_ar hl_c hl_q3) (ob_ar hl_c hl_q4))).trans hl_c
        have h13 := (f6.1 pq (nin2 (ob_ar hl_pq hl_q3) (ob_ar hl_pq hl_q4))).trans hl_pq
        have h14 := (f6.1 q1 (nin2 hD.1.2.1 hD.1.2.2.1)).trans hl_q1
        have h15 := (f6.1 q6 (nin2 (ar_ne hl_q6 hl_q3 (by decide)) (ar_ne hl_q6 hl_q4 (by decide)))).trans hl_q6
        have hF16 := hF1.tr f6 (by simp)
        show pl _ _ _ (152, [(0, .ref r), (1, .int (nI k)), (2, .int (nI (p + 2 + by2 f p))), (3, .int (nI cc))], [], M2) _
        refine ps_st (S' := (153, [(0, .ref r), (1, .int (nI k)), (2, .int (nI (p + 2 + by2 f p))), (3, .int (nI cc))], [.int 1], M2)) rfl rfl rfl ?_
        exact ps_ret rfl rfl (Or.inl ⟨l1, _, by
            exact s_utf_ok (by omega) (by omega) (by rw [← hs]; exact s_text_0 (by omega)), by omega, by omega, rfl, by
            rw [h8, show p1 = (p + 2 + by2 f p) by omega], h11, h13, h4, by
            rw [h5, lsub (by omega)], h15, hF16⟩)
      · have c_68 : ¬ ((nI (p + 2 + by2 f p)) ≤ (nI p1)) := of_decide_eq_false c_68
        have n_68 : ¬ (p + 2 + by2 f p ≤ p1) := fun h9 => c_68 ((le_nI (p := p + 2 + by2 f p) (n := p1) (by omega) (by omega)).mpr h9)
        refine ps_st (S' := (72, [(0, .ref r), (1, .int (nI k)), (2, .int (nI (p + 2 + by2 f p))), (3, .int (nI cc))], [.ref r], M1)) rfl rfl rfl ?_
        refine ps_st (S' := (73, [(0, .ref r), (1, .int (nI k)), (2, .int (nI (p + 2 + by2 f p))), (3, .int (nI cc))], [.int (nI (p + 2 + by2 f p)), .ref r], M1)) rfl rfl rfl ?_
        refine pl_call (a := [.ref r, .int (nI (p + 2 + by2 f p))]) (rest := []) rfl rfl rfl (dx_characterSize hl_r hl_b hl_da (hn) (by omega) (by omega)) (fun v17 M18 q19 => ?_)
        obtain ⟨rfl, f20⟩ := q19
        have h22 := (f20.1 r (by simp)).trans hl_r
        have h23 := (f20.1 b (by simp)).trans hl_b
        have h24 := (f20.1 da (by simp)).trans hl_da
        have h25 := (f20.1 vd (by simp)).trans hl_vd
        have h26 := (f20.1 c (by simp)).trans hl_c
        have h27 := (f20.1 pq (by simp)).trans hl_pq
        have h28 := (f20.1 q1 (by simp)).trans hl_q1
        have h29 := (f20.1 q3 (by simp)).trans hl_q3
        have h30 := (f20.1 q4 (by simp)).trans hl_q4
        have h31 := (f20.1 q6 (by simp)).trans hl_q6
        have hF32 := hF1.tr f20 (by simp)
        show pl _ _ _ (76, [(0, .ref r), (1, .int (nI k)), (2, .int (nI (p + 2 + by2 f p))), (3, .int (nI cc))], [.int (nI (u8k f (p + 2 + by2 f p) p1))], M18) _
        have hk3 := u8k_le (f := f) (e := (p + 2 + by2 f p)) (p := p1) (by omega)
        refine ps_st (S' := (78, [(4, .int (nI (u8k f (p + 2 + by2 f p) p1))), (0, .ref r), (1, .int (nI k)), (2, .int (nI (p + 2 + by2 f p))), (3, .int (nI cc))], [], M18)) rfl rfl rfl ?_
        refine ps_st (S' := (80, [(4, .int (nI (u8k f (p + 2 + by2 f p) p1))), (0, .ref r), (1, .int (nI k)), (2, .int (nI (p + 2 + by2 f p))), (3, .int (nI cc))], [.int (nI (u8k f (p + 2 + by2 f p) p1))], M18)) rfl rfl rfl ?_
        refine ps_st (S' := (81, [(4, .int (nI (u8k f (p + 2 + by2 f p) p1))), (0, .ref r), (1, .int (nI k)), (2, .int (nI (p + 2 + by2 f p))), (3, .int (nI cc))], [.int 1, .int (nI (u8k f (p + 2 + by2 f p) p1))], M18)) rfl rfl rfl ?_
        refine ps_if2 (S1 := (98, [(4, .int (nI (u8k f (p + 2 + by2 f p) p1))), (0, .ref r), (1, .int (nI k)), (2, .int (nI (p + 2 + by2 f p))), (3, .int (nI cc))], [], M18)) (S2 := (84, [(4, .int (nI (u8k f (p + 2 + by2 f p) p1))), (0, .ref r), (1, .int (nI k)), (2, .int (nI (p + 2 + by2 f p))), (3, .int (nI cc))], [], M18)) rfl rfl rfl (fun c_81 => ?_) (fun c_81 => ?_)
        · have c_81 : 1 ≤ (nI (u8k f (p + 2 + by2 f p) p1)) := of_decide_eq_true c_81
          have n_81 : 1 ≤ u8k f (p + 2 + by2 f p) p1 := (le_nI (p := 1) (n := u8k f (p + 2 + by2 f p) p1) (by decide) (by omega)).mp c_81
          refine ps_st (S' := (99, [(4, .int (nI (u8k f (p + 2 + by2 f p) p1))), (0, .ref r), (1, .int (nI k)), (2, .int (nI (p + 2 + by2 f p))), (3, .int (nI cc))], [.ref r], M18)) rfl rfl rfl ?_
          refine ps_get (S' := (102, [(4, .int (nI (u8k f (p + 2 + by2 f p) p1))), (0, .ref r), (1, .int (nI k)), (2, .int (nI (p + 2 + by2 f p))), (3, .int (nI cc))], [.ref c], M18)) rfl h22 rfl rfl ?_
          refine ps_get (S' := (105, [(4, .int (nI (u8k f (p + 2 + by2 f p) p1))), (0, .ref r), (1, .int (nI k)), (2, .int (nI (p + 2 + by2 f p))), (3, .int (nI cc))], [.ref pq], M18)) rfl h26 rfl rfl ?_
          refine ps_st (S' := (106, [(4, .int (nI (u8k f (p + 2 + by2 f p) p1))), (0, .ref r), (1, .int (nI k)), (2, .int (nI (p + 2 + by2 f p))), (3, .int (nI cc))], [.ref r, .ref pq], M18)) rfl rfl rfl ?_
          refine ps_st (S' := (108, [(4, .int (nI (u8k f (p + 2 + by2 f p) p1))), (0, .ref r), (1, .int (nI k)), (2, .int (nI (p + 2 + by2 f p))), (3, .int (nI cc))], [.int (nI (u8k f (p + 2 + by2 f p) p1)), .ref r, .ref pq], M18)) rfl rfl rfl ?_
          refine pl_call (a := [.ref r, .int (nI (u8k f (p + 2 + by2 f p) p1))]) (rest := [.ref pq]) rfl rfl rfl (dx_characterOf h22 h23 h24 (hn) (by omega) (by omega)) (fun v33 M34 q35 => ?_)
          obtain ⟨rfl, f36⟩ := q35
          have h38 := (f36.1 r (by simp)).trans h22
          have h39 := (f36.1 b (by simp)).trans h23
          have h40 := (f36.1 da (by simp)).trans h24
          have h41 := (f36.1 vd (by simp)).trans h25
          have h42 := (f36.1 c (by simp)).trans h26
          have h43 := (f36.1 pq (by simp)).trans h27
          have h44 := (f36.1 q1 (by simp)).trans h28
          have h45 := (f36.1 q3 (by simp)).trans h29
          have h46 := (f36.1 q4 (by simp)).trans h30
          have h47 := (f36.1 q6 (by simp)).trans h31
          have hF48 := hF32.tr f36 (by simp)
          show pl _ _ _ (111, [(4, .int (nI (u8k f (p + 2 + by2 f p) p1))), (0, .ref r), (1, .int (nI k)), (2, .int (nI (p + 2 + by2 f p))), (3, .int (nI cc))], [.int (nI (u8n f p1 (u8k f (p + 2 + by2 f p) p1))), .ref pq], M34) _
          refine pl_call (a := [.ref pq, .int (nI (u8n f p1 (u8k f (p + 2 + by2 f p) p1)))]) (rest := []) rfl rfl rfl (dx_addCharacter h43 h47 (by omega) ((u8n_eq _ _ _).2) (by omega)) (fun v49 M50 q51 => ?_)
          obtain ⟨rfl, h52, h53, f54⟩ := q51
          have h56 := (f54.1 r (nin2 (ob_ne h38 h43 (by decide)) (ob_ar h38 h47))).trans h38
          have h57 := (f54.1 b (nin2 (ob_ne h39 h43 (by decide)) (ob_ar h39 h47))).trans h39
          have h58 := (f54.1 da (nin2 (Ne.symm (ob_ar h43 h40)) (ar_ne h40 h47 (by decide)))).trans h40
          have h59 := (f54.1 vd (nin2 (ob_ne h41 h43 (by decide)) (ob_ar h41 h47))).trans h41
          have h60 := (f54.1 c (nin2 (ob_ne h42 h43 (by decide)) (ob_ar h42 h47))).trans h42
          have h61 := (f54.1 q1 (nin2 (Ne.symm (ob_ar h43 h44)) (ar_ne h44 h47 (by decide)))).trans h44
          have h62 := (f54.1 q3 (nin2 (Ne.symm (ob_ar h43 h45)) (ar_ne h45 h47 (by decide)))).trans h45
          have h63 := (f54.1 q4 (nin2 (Ne.symm (ob_ar h43 h46)) (ar_ne h46 h47 (by decide)))).trans h46
          have hF64 := hF48.tr f54 (by simp)
          show pl _ _ _ (114, [(4, .int (nI (u8k f (p + 2 + by2 f p) p1))), (0, .ref r), (1, .int (nI k)), (2, .int (nI (p + 2 + by2 f p))), (3, .int (nI cc))], [], M50) _
          refine ps_st (S' := (115, [(4, .int (nI (u8k f (p + 2 + by2 f p) p1))), (0, .ref r), (1, .int (nI k)), (2, .int (nI (p + 2 + by2 f p))), (3, .int (nI cc))], [.ref r], M50)) rfl rfl rfl ?_
          refine ps_st (S' := (116, [(4, .int (nI (u8k f (p + 2 + by2 f p) p1))), (0, .ref r), (1, .int (nI k)), (2, .int (nI (p + 2 + by2 f p))), (3, .int (nI cc))], [.ref r, .ref r], M50)) rfl rfl rfl ?_
          refine ps_get (S' := (119, [(4, .int (nI (u8k f (p + 2 + by2 f p) p1))), (0, .ref r), (1, .int (nI k)), (2, .int (nI (p + 2 + by2 f p))), (3, .int (nI cc))], [.int (nI p1), .ref r], M50)) rfl h56 rfl rfl ?_
          refine ps_st (S' := (121, [(4, .int (nI (u8k f (p + 2 + by2 f p) p1))), (0, .ref r), (1, .int (nI k)), (2, .int (nI (p + 2 + by2 f p))), (3, .int (nI cc))], [.int (nI (u8k f (p + 2 + by2 f p) p1)), .int (nI p1), .ref r], M50)) rfl rfl rfl ?_
          refine ps_st (S' := (122, [(4, .int (nI (u8k f (p + 2 + by2 f p) p1))), (0, .ref r), (1, .int (nI k)), (2, .int (nI (p + 2 + by2 f p))), (3, .int (nI cc))], [.int ((nI p1) + (nI (u8k f (p + 2 + by2 f p) p1))), .ref r], M50)) rfl rfl rfl ?_
          rw [nI_add1 (p := p1) (k := u8k f (p + 2 + by2 f p) p1) (x := (nI (u8k f (p + 2 + by2 f p) p1))) rfl (by omega)]
          show pl _ _ _ (_, [(4, .int (nI (u8k f (p + 2 + by2 f p) p1))), (0, .ref r), (1, .int (nI k)), (2, .int (nI (p + 2 + by2 f p))), (3, .int (nI cc))], [.int (nI (p1 + u8k f (p + 2 + by2 f p) p1)), .ref r], M50) _
          refine ps_put (l' := [.ref c, .ref b, .ref vd, .int (nI (p1 + u8k f (p + 2 + by2 f p) p1)), .int (nI (by2 f p))]) rfl h56 rfl rfl (fun M65 h66 f67 z68 => ?_)
          have h69 := (f67 b (ob_ne h57 h56 (by decide))).trans h57
          have h70 := (f67 da (Ne.symm (ob_ar h56 h58))).trans h58
          have h71 := (f67 vd (ob_ne h59 h56 (by decide))).trans h59
          have h72 := (f67 c (ob_ne h60 h56 (by decide))).trans h60
          have h73 := (f67 pq (ob_ne h52 h56 (by decide))).trans h52
          have h74 := (f67 q1 (Ne.symm (ob_ar h56 h61))).trans h61
          have h75 := (f67 q3 (Ne.symm (ob_ar h56 h62))).trans h62
          have h76 := (f67 q4 (Ne.symm (ob_ar h56 h63))).trans h63
          have h77 := (f67 q6 (Ne.symm (ob_ar h56 h53))).trans h53
          have hF78 := hF64.up (by simp) f67 z68
          show pl _ _ _ (125, [(4, .int (nI (u8k f (p + 2 + by2 f p) p1))), (0, .ref r), (1, .int (nI k)), (2, .int (nI (p + 2 + by2 f p))), (3, .int (nI cc))], [], M65) _
          refine ps_st (S' := (63, [(0, .ref r), (1, .int (nI k)), (2, .int (nI (p + 2 + by2 f p))), (3, .int (nI cc))], [], M65)) rfl rfl rfl ?_
          have h79 := h77
          rw [wr_snoc] at h79
          have h80 := h73
          rw [show cc + l1.length + 1 = cc + (l1 ++ [u8n f p1 (u8k f (p + 2 + by2 f p) p1)]).length by simp; omega] at h80
          exact ih (p1 + (u8k f (p + 2 + by2 f p) p1)) (l1 ++ [u8n f p1 (u8k f (p + 2 + by2 f p) p1)]) M65 h66 h69 h70 h71 h72 h80 h74 h75 h76 h79 hF78 (by omega) (by omega) (by simp; omega) (by rw [← hs]; exact (s_text_step (by omega) (by omega)).symm)
        · have c_81 : ¬ (1 ≤ (nI (u8k f (p + 2 + by2 f p) p1))) := of_decide_eq_false c_81
          have n_81 : ¬ (1 ≤ u8k f (p + 2 + by2 f p) p1) := fun h9 => c_81 ((le_nI (p := 1) (n := u8k f (p + 2 + by2 f p) p1) (by decide) (by omega)).mpr h9)
          refine ps_st (S' := (85, [(4, .int (nI (u8k f (p + 2 + by2 f p) p1))), (0, .ref r), (1, .int (nI k)), (2, .int (nI (p + 2 + by2 f p))), (3, .int (nI cc))], [.ref r], M18)) rfl rfl rfl ?_
          refine ps_get (S' := (88, [(4, .int (nI (u8k f (p + 2 + by2 f p) p1))), (0, .ref r), (1, .int (nI k)), (2, .int (nI (p + 2 + by2 f p))), (3, .int (nI cc))], [.ref vd], M18)) rfl h22 rfl rfl ?_
          refine ps_st (S' := (90, [(4, .int (nI (u8k f (p + 2 + by2 f p) p1))), (0, .ref r), (1, .int (nI k)), (2, .int (nI (p + 2 + by2 f p))), (3, .int (nI cc))], [.int 6, .ref vd], M18)) rfl rfl rfl ?_
          refine ps_st (S' := (91, [(4, .int (nI (u8k f (p + 2 + by2 f p) p1))), (0, .ref r), (1, .int (nI k)), (2, .int (nI (p + 2 + by2 f p))), (3, .int (nI cc))], [.ref r, .int 6, .ref vd], M18)) rfl rfl rfl ?_
          refine ps_get (S' := (94, [(4, .int (nI (u8k f (p + 2 + by2 f p) p1))), (0, .ref r), (1, .int (nI k)), (2, .int (nI (p + 2 + by2 f p))), (3, .int (nI cc))], [.int (nI p1), .int 6, .ref vd], M18)) rfl h22 rfl rfl ?_
          refine pl_call (a := [.ref vd, .int 6, .int (nI p1)]) (rest := []) rfl rfl rfl (dx_wrong h25) (fun v81 M82 q83 => ?_)
          obtain ⟨rfl, h84, f85⟩ := q83
          have h87 := (f85.1 r (nin1 (ob_ne h22 h25 (by decide)))).trans h22
          have h88 := (f85.1 b (nin1 (ob_ne h23 h25 (by decide)))).trans h23
          have h89 := (f85.1 da (nin1 (Ne.symm (ob_ar h25 h24)))).trans h24
          have h90 := (f85.1 c (nin1 (ob_ne h26 h25 (by decide)))).trans h26
          have h91 := (f85.1 pq (nin1 (ob_ne h27 h25 (by decide)))).trans h27
          have h92 := (f85.1 q1 (nin1 (Ne.symm (ob_ar h25 h28)))).trans h28
          have h93 := (f85.1 q3 (nin1 (Ne.symm (ob_ar h25 h29)))).trans h29
          have h94 := (f85.1 q4 (nin1 (Ne.symm (ob_ar h25 h30)))).trans h30
          have h95 := (f85.1 q6 (nin1 (Ne.symm (ob_ar h25 h31)))).trans h31
          have hF96 := hF32.tr f85 (by simp)
          show pl _ _ _ (97, [(4, .int (nI (u8k f (p + 2 + by2 f p) p1))), (0, .ref r), (1, .int (nI k)), (2, .int (nI (p + 2 + by2 f p))), (3, .int (nI cc))], [.int 0], M82) _
          exact ps_ret rfl rfl (Or.inr ⟨(6, p1), by
              exact s_utf_bad (by omega) (by omega) (by rw [← hs]; exact s_text_bad (by omega) (by omega)), rfl, h84, hF96⟩)
  refine ps_st (S' := (1, [(0, .ref r), (1, .int (nI k))], [.ref r], M)) rfl rfl rfl ?_
  refine ps_st (S' := (2, [(0, .ref r), (1, .int (nI k))], [.int 2, .ref r], M)) rfl rfl rfl ?_
  refine pl_call (a := [.ref r, .int 2]) (rest := []) rfl rfl rfl (dx_takes2 h_r h_b h_da h_vd (hn) (by omega)) (fun v97 M98 q99 => ?_)
  rcases q99 with q99 | q99
  · skip
    obtain ⟨q2_ok, rfl, h100, h101, f102⟩ := q99
    have h104 := (f102.1 b (nin2 (ob_ne h_b h_r (by decide)) (ob_ne h_b h_vd (by decide)))).trans h_b
    have h105 := (f102.1 da (nin2 (Ne.symm (ob_ar h_r h_da)) (Ne.symm (ob_ar h_vd h_da)))).trans h_da
    have h106 := (f102.1 c (nin2 (ob_ne h_c h_r (by decide)) (ob_ne h_c h_vd (by decide)))).trans h_c
    have h107 := (f102.1 pq (nin2 (ob_ne h_pq h_r (by decide)) (ob_ne h_pq h_vd (by decide)))).trans h_pq
    have h108 := (f102.1 q1 (nin2 (Ne.symm (ob_ar h_r h_q1)) (Ne.symm (ob_ar h_vd h_q1)))).trans h_q1
    have h109 := (f102.1 q3 (nin2 (Ne.symm (ob_ar h_r h_q3)) (Ne.symm (ob_ar h_vd h_q3)))).trans h_q3
    have h110 := (f102.1 q4 (nin2 (Ne.symm (ob_ar h_r h_q4)) (Ne.symm (ob_ar h_vd h_q4)))).trans h_q4
    have h111 := (f102.1 q6 (nin2 (Ne.symm (ob_ar h_r h_q6)) (Ne.symm (ob_ar h_vd h_q6)))).trans h_q6
    have hF112 := hF.tr f102 (by simp)
    show pl _ _ _ (5, [(0, .ref r), (1, .int (nI k))], [.int 1], M98) _
    refine ps_if (S1 := (10, [(0, .ref r), (1, .int (nI k))], [], M98)) (S2 := (8, [(0, .ref r), (1, .int (nI k))], [], M98)) rfl rfl rfl (fun c_5 => ?_) (fun c_5 => ?_)
    rotate_left
    · exact absurd (by decide) (of_decide_eq_false c_5)
    refine ps_st (S' := (11, [(0, .ref r), (1, .int (nI k))], [.ref r], M98)) rfl rfl rfl ?_
    refine ps_get (S' := (14, [(0, .ref r), (1, .int (nI k))], [.int (nI (by2 f p))], M98)) rfl h100 rfl rfl ?_
    refine ps_st (S' := (15, [(0, .ref r), (1, .int (nI k))], [.ref r, .int (nI (by2 f p))], M98)) rfl rfl rfl ?_
    refine ps_get (S' := (18, [(0, .ref r), (1, .int (nI k))], [.ref b, .int (nI (by2 f p))], M98)) rfl h100 rfl rfl ?_
    refine pl_call (a := [.ref b]) (rest := [.int (nI (by2 f p))]) rfl rfl rfl (dx_size h104 h105 (hn)) (fun v113 M114 q115 => ?_)
    obtain ⟨rfl, f116⟩ := q115
    have h118 := (f116.1 r (by simp)).trans h100
    have h119 := (f116.1 b (by simp)).trans h104
    have h120 := (f116.1 da (by simp)).trans h105
    have h121 := (f116.1 vd (by simp)).trans h101
    have h122 := (f116.1 c (by simp)).trans h106
    have h123 := (f116.1 pq (by simp)).trans h107
    have h124 := (f116.1 q1 (by simp)).trans h108
    have h125 := (f116.1 q3 (by simp)).trans h109
    have h126 := (f116.1 q4 (by simp)).trans h110
    have h127 := (f116.1 q6 (by simp)).trans h111
    have hF128 := hF112.tr f116 (by simp)
    show pl _ _ _ (21, [(0, .ref r), (1, .int (nI k))], [.int (sp_size n f ), .int (nI (by2 f p))], M114) _
    refine ps_st (S' := (22, [(0, .ref r), (1, .int (nI k))], [.ref r, .int (sp_size n f ), .int (nI (by2 f p))], M114)) rfl rfl rfl ?_
    refine ps_get (S' := (25, [(0, .ref r), (1, .int (nI k))], [.int (nI (p + 2)), .int (sp_size n f ), .int (nI (by2 f p))], M114)) rfl h118 rfl rfl ?_
    refine ps_st (S' := (26, [(0, .ref r), (1, .int (nI k))], [.int ((sp_size n f ) - (nI (p + 2))), .int (nI (by2 f p))], M114)) rfl rfl rfl ?_
    refine ps_if2 (S1 := (42, [(0, .ref r), (1, .int (nI k))], [], M114)) (S2 := (29, [(0, .ref r), (1, .int (nI k))], [], M114)) rfl rfl rfl (fun c_26 => ?_) (fun c_26 => ?_)
    · have c_26 : (nI (by2 f p)) ≤ ((sp_size n f ) - (nI (p + 2))) := of_decide_eq_true c_26
      have n_26 : p + 2 + by2 f p ≤ n := (le_szn (x := by2 f p) (p := p + 2) (f := f) (Nat.lt_trans (by2_lt _ _) (by decide)) hn (by omega)).mp c_26
      refine ps_st (S' := (43, [(0, .ref r), (1, .int (nI k))], [.ref r], M114)) rfl rfl rfl ?_
      refine ps_get (S' := (46, [(0, .ref r), (1, .int (nI k))], [.int (nI (p + 2))], M114)) rfl h118 rfl rfl ?_
      refine ps_st (S' := (47, [(0, .ref r), (1, .int (nI k))], [.ref r, .int (nI (p + 2))], M114)) rfl rfl rfl ?_
      refine ps_get (S' := (50, [(0, .ref r), (1, .int (nI k))], [.int (nI (by2 f p)), .int (nI (p + 2))], M114)) rfl h118 rfl rfl ?_
      refine ps_st (S' := (51, [(0, .ref r), (1, .int (nI k))], [.int ((nI (p + 2)) + (nI (by2 f p)))], M114)) rfl rfl rfl ?_
      rw [nI_add1 (p := p + 2) (k := by2 f p) (x := (nI (by2 f p))) rfl (by omega)]
      show pl _ _ _ (_, [(0, .ref r), (1, .int (nI k))], [.int (nI (p + 2 + by2 f p))], M114) _
      refine ps_st (S' := (52, [(2, .int (nI (p + 2 + by2 f p))), (0, .ref r), (1, .int (nI k))], [], M114)) rfl rfl rfl ?_
      refine ps_st (S' := (53, [(2, .int (nI (p + 2 + by2 f p))), (0, .ref r), (1, .int (nI k))], [.ref r], M114)) rfl rfl rfl ?_
      refine ps_get (S' := (56, [(2, .int (nI (p + 2 + by2 f p))), (0, .ref r), (1, .int (nI k))], [.ref c], M114)) rfl h118 rfl rfl ?_
      refine ps_get (S' := (59, [(2, .int (nI (p + 2 + by2 f p))), (0, .ref r), (1, .int (nI k))], [.ref pq], M114)) rfl h122 rfl rfl ?_
      refine ps_get (S' := (62, [(2, .int (nI (p + 2 + by2 f p))), (0, .ref r), (1, .int (nI k))], [.int (nI cc)], M114)) rfl h123 rfl rfl ?_
      refine ps_st (S' := (63, [(0, .ref r), (1, .int (nI k)), (2, .int (nI (p + 2 + by2 f p))), (3, .int (nI cc))], [], M114)) rfl rfl rfl ?_
      have h129 := h127
      rw [← wr_nil (F := F6) (c := cc)] at h129
      exact L63 kf (p + 2) ([]) M114 h118 h119 h120 h121 h122 h123 h124 h125 h126 h129 hF128 (by omega) (by omega) (by simp; omega) (by rw [show (p + 2 + by2 f p) - (p + 2) = by2 f p by omega])
    · have c_26 : ¬ ((nI (by2 f p)) ≤ ((sp_size n f ) - (nI (p + 2)))) := of_decide_eq_false c_26
      have n_26 : ¬ (p + 2 + by2 f p ≤ n) := fun h9 => c_26 ((le_szn (x := by2 f p) (p := p + 2) (f := f) (Nat.lt_trans (by2_lt _ _) (by decide)) hn (by omega)).mpr h9)
      refine ps_st (S' := (30, [(0, .ref r), (1, .int (nI k))], [.ref r], M114)) rfl rfl rfl ?_
      refine ps_get (S' := (33, [(0, .ref r), (1, .int (nI k))], [.ref vd], M114)) rfl h118 rfl rfl ?_
      refine ps_st (S' := (34, [(0, .ref r), (1, .int (nI k))], [.int 1, .ref vd], M114)) rfl rfl rfl ?_
      refine ps_st (S' := (35, [(0, .ref r), (1, .int (nI k))], [.ref r, .int 1, .ref vd], M114)) rfl rfl rfl ?_
      refine ps_get (S' := (38, [(0, .ref r), (1, .int (nI k))], [.int (nI (p + 2)), .int 1, .ref vd], M114)) rfl h118 rfl rfl ?_
      refine pl_call (a := [.ref vd, .int 1, .int (nI (p + 2))]) (rest := []) rfl rfl rfl (dx_wrong h121) (fun v130 M131 q132 => ?_)
      obtain ⟨rfl, h133, f134⟩ := q132
      have h136 := (f134.1 r (nin1 (ob_ne h118 h121 (by decide)))).trans h118
      have h137 := (f134.1 b (nin1 (ob_ne h119 h121 (by decide)))).trans h119
      have h138 := (f134.1 da (nin1 (Ne.symm (ob_ar h121 h120)))).trans h120
      have h139 := (f134.1 c (nin1 (ob_ne h122 h121 (by decide)))).trans h122
      have h140 := (f134.1 pq (nin1 (ob_ne h123 h121 (by decide)))).trans h123
      have h141 := (f134.1 q1 (nin1 (Ne.symm (ob_ar h121 h124)))).trans h124
      have h142 := (f134.1 q3 (nin1 (Ne.symm (ob_ar h121 h125)))).trans h125
      have h143 := (f134.1 q4 (nin1 (Ne.symm (ob_ar h121 h126)))).trans h126
      have h144 := (f134.1 q6 (nin1 (Ne.symm (ob_ar h121 h127)))).trans h127
      have hF145 := hF128.tr f134 (by simp)
      show pl _ _ _ (41, [(0, .ref r), (1, .int (nI k))], [.int 0], M131) _
      exact ps_ret rfl rfl (Or.inr ⟨(1, p + 2), by
          unfold s_utf
          rw [if_neg (by omega), if_pos (by omega)], rfl, h133, hF145⟩)
  · skip
    obtain ⟨q2_no, rfl, h146, h147, f148⟩ := q99
    have h150 := (f148.1 b (nin2 (ob_ne h_b h_r (by decide)) (ob_ne h_b h_vd (by decide)))).trans h_b
    have h151 := (f148.1 da (nin2 (Ne.symm (ob_ar h_r h_da)) (Ne.symm (ob_ar h_vd h_da)))).trans h_da
    have h152 := (f148.1 c (nin2 (ob_ne h_c h_r (by decide)) (ob_ne h_c h_vd (by decide)))).trans h_c
    have h153 := (f148.1 pq (nin2 (ob_ne h_pq h_r (by decide)) (ob_ne h_pq h_vd (by decide)))).trans h_pq
    have h154 := (f148.1 q1 (nin2 (Ne.symm (ob_ar h_r h_q1)) (Ne.symm (ob_ar h_vd h_q1)))).trans h_q1
    have h155 := (f148.1 q3 (nin2 (Ne.symm (ob_ar h_r h_q3)) (Ne.symm (ob_ar h_vd h_q3)))).trans h_q3
    have h156 := (f148.1 q4 (nin2 (Ne.symm (ob_ar h_r h_q4)) (Ne.symm (ob_ar h_vd h_q4)))).trans h_q4
    have h157 := (f148.1 q6 (nin2 (Ne.symm (ob_ar h_r h_q6)) (Ne.symm (ob_ar h_vd h_q6)))).trans h_q6
    have hF158 := hF.tr f148 (by simp)
    show pl _ _ _ (5, [(0, .ref r), (1, .int (nI k))], [.int 0], M98) _
    refine ps_if (S1 := (10, [(0, .ref r), (1, .int (nI k))], [], M98)) (S2 := (8, [(0, .ref r), (1, .int (nI k))], [], M98)) rfl rfl rfl (fun c_5 => ?_) (fun c_5 => ?_)
    · exact absurd (of_decide_eq_true c_5) (by decide)
    refine ps_st (S' := (9, [(0, .ref r), (1, .int (nI k))], [.int 0], M98)) rfl rfl rfl ?_
    exact ps_ret rfl rfl (Or.inr ⟨(1, p), by
        unfold s_utf
        rw [if_pos (by omega)], rfl, h147, hF158⟩)
end
section
/-! entries of the pool are read (laid by wip/p4/d4.py) -/
set_option maxHeartbeats 1000000 in
theorem dx_isTag {g : xe_G} {M : mi_H} {r c b vd mj t pq p : Nat} {it mi fa ic ac aa k1 k2 k3 k4 k5 k6 k7 : Int32} {u6 u7 : Value} (h_r : M.1 r = some (ob 9 [.ref c, .ref b, .ref vd, .int (nI p), .int it])) (h_c : M.1 c = some (ob 3 [.ref b, .ref pq, .int mi, .int (nI mj), .int fa, .int ic, u6, u7, .int ac, .int aa, .int k1, .int k2, .int k3, .int k4, .int k5, .int k6, .int k7])) (ht : t < 256) (hj : mj < 65536) : pt (mT g) 157 [.ref r, .int (nI t)] M (fun v M' => ((tgOk mj t) ∧ v = some (.int 1) ∧ fm [] M M') ∨ ((¬ tgOk mj t) ∧ v = some (.int 0) ∧ fm [] M M')) := by
  refine pt_in (b := mb_157 g) rfl (fun kf => ?_)
  show pl (mT g) kf (mb_157 g).2 (0, [(0, .ref r), (1, .int (nI t))], [], M) _
  have hF : fm [] M M := fm.rf
  refine ps_st (S' := (1, [(0, .ref r), (1, .int (nI t))], [.int (nI t)], M)) rfl rfl rfl ?_
  refine pl_sw rfl (fun t_1 et_1 => ?_)
  have ht_1 : t_1 ∈ [40, 58, 76, 94] := mi_sw_sub et_1 (by decide)
  simp only [List.mem_cons, List.not_mem_nil, or_false] at ht_1
  rcases ht_1 with rfl | rfl | rfl | rfl
  · show pl _ _ _ (40, [(0, .ref r), (1, .int (nI t))], [], M) _
    have m_1 := sw_nat (t := t) (by omega) et_1
    simp at m_1
    refine ps_st (S' := (41, [(0, .ref r), (1, .int (nI t))], [.ref r], M)) rfl rfl rfl ?_
    refine ps_get (S' := (44, [(0, .ref r), (1, .int (nI t))], [.ref c], M)) rfl h_r rfl rfl ?_
    refine ps_get (S' := (47, [(0, .ref r), (1, .int (nI t))], [.int (nI mj)], M)) rfl h_c rfl rfl ?_
    refine ps_st (S' := (49, [(0, .ref r), (1, .int (nI t))], [.int 51, .int (nI mj)], M)) rfl rfl rfl ?_
    refine ps_if2 (S1 := (56, [(0, .ref r), (1, .int (nI t))], [], M)) (S2 := (52, [(0, .ref r), (1, .int (nI t))], [], M)) rfl rfl rfl (fun c_49 => ?_) (fun c_49 => ?_)
    · have c_49 : (nI mj) < 51 := of_decide_eq_true c_49
      have n_49 : mj < 51 := (lt_nI (p := mj) (n := 51) (by omega) (by decide)).mp c_49
      refine ps_st (S' := (57, [], [.int 0], M)) rfl rfl rfl ?_
      exact ps_ret rfl rfl (Or.inr ⟨by
          unfold tgOk
          omega, rfl, hF⟩)
    · have c_49 : ¬ ((nI mj) < 51) := of_decide_eq_false c_49
      have n_49 : ¬ (mj < 51) := fun h9 => c_49 ((lt_nI (p := mj) (n := 51) (by omega) (by decide)).mpr h9)
      refine ps_st (S' := (53, [(0, .ref r), (1, .int (nI t))], [.int 1], M)) rfl rfl rfl ?_
      refine ps_st (S' := (57, [], [.int 1], M)) rfl rfl rfl ?_
      exact ps_ret rfl rfl (Or.inl ⟨by
          unfold tgOk
          omega, rfl, hF⟩)
  · show pl _ _ _ (58, [(0, .ref r), (1, .int (nI t))], [], M) _
    have m_1 := sw_nat (t := t) (by omega) et_1
    simp at m_1
    refine ps_st (S' := (59, [(0, .ref r), (1, .int (nI t))], [.ref r], M)) rfl rfl rfl ?_
    refine ps_get (S' := (62, [(0, .ref r), (1, .int (nI t))], [.ref c], M)) rfl h_r rfl rfl ?_
    refine ps_get (S' := (65, [(0, .ref r), (1, .int (nI t))], [.int (nI mj)], M)) rfl h_c rfl rfl ?_
    refine ps_st (S' := (67, [(0, .ref r), (1, .int (nI t))], [.int 53, .int (nI mj)], M)) rfl rfl rfl ?_
    refine ps_if2 (S1 := (74, [(0, .ref r), (1, .int (nI t))], [], M)) (S2 := (70, [(0, .ref r), (1, .int (nI t))], [], M)) rfl rfl rfl (fun c_67 => ?_) (fun c_67 => ?_)
    · have c_67 : (nI mj) < 53 := of_decide_eq_true c_67
      have n_67 : mj < 53 := (lt_nI (p := mj) (n := 53) (by omega) (by decide)).mp c_67
      refine ps_st (S' := (75, [], [.int 0], M)) rfl rfl rfl ?_
      exact ps_ret rfl rfl (Or.inr ⟨by
          unfold tgOk
          omega, rfl, hF⟩)
    · have c_67 : ¬ ((nI mj) < 53) := of_decide_eq_false c_67
      have n_67 : ¬ (mj < 53) := fun h9 => c_67 ((lt_nI (p := mj) (n := 53) (by omega) (by decide)).mpr h9)
      refine ps_st (S' := (71, [(0, .ref r), (1, .int (nI t))], [.int 1], M)) rfl rfl rfl ?_
      refine ps_st (S' := (75, [], [.int 1], M)) rfl rfl rfl ?_
      exact ps_ret rfl rfl (Or.inl ⟨by
          unfold tgOk
          omega, rfl, hF⟩)
  · show pl _ _ _ (76, [(0, .ref r), (1, .int (nI t))], [], M) _
    have m_1 := sw_nat (t := t) (by omega) et_1
    simp at m_1
    refine ps_st (S' := (77, [(0, .ref r), (1, .int (nI t))], [.ref r], M)) rfl rfl rfl ?_
    refine ps_get (S' := (80, [(0, .ref r), (1, .int (nI t))], [.ref c], M)) rfl h_r rfl rfl ?_
    refine ps_get (S' := (83, [(0, .ref r), (1, .int (nI t))], [.int (nI mj)], M)) rfl h_c rfl rfl ?_
    refine ps_st (S' := (85, [(0, .ref r), (1, .int (nI t))], [.int 55, .int (nI mj)], M)) rfl rfl rfl ?_
    refine ps_if2 (S1 := (92, [(0, .ref r), (1, .int (nI t))], [], M)) (S2 := (88, [(0, .ref r), (1, .int (nI t))], [], M)) rfl rfl rfl (fun c_85 => ?_) (fun c_85 => ?_)
    · have c_85 : (nI mj) < 55 := of_decide_eq_true c_85
      have n_85 : mj < 55 := (lt_nI (p := mj) (n := 55) (by omega) (by decide)).mp c_85
      refine ps_st (S' := (93, [], [.int 0], M)) rfl rfl rfl ?_
      exact ps_ret rfl rfl (Or.inr ⟨by
          unfold tgOk
          omega, rfl, hF⟩)
    · have c_85 : ¬ ((nI mj) < 55) := of_decide_eq_false c_85
      have n_85 : ¬ (mj < 55) := fun h9 => c_85 ((lt_nI (p := mj) (n := 55) (by omega) (by decide)).mpr h9)
      refine ps_st (S' := (89, [(0, .ref r), (1, .int (nI t))], [.int 1], M)) rfl rfl rfl ?_
      refine ps_st (S' := (93, [], [.int 1], M)) rfl rfl rfl ?_
      exact ps_ret rfl rfl (Or.inl ⟨by
          unfold tgOk
          omega, rfl, hF⟩)
  · show pl _ _ _ (94, [(0, .ref r), (1, .int (nI t))], [], M) _
    have m_1 := sw_nat (t := t) (by omega) et_1
    simp at m_1
    refine ps_st (S' := (95, [(0, .ref r), (1, .int (nI t))], [.int (nI t)], M)) rfl rfl rfl ?_
    refine ps_st (S' := (96, [(0, .ref r), (1, .int (nI t))], [.int 1, .int (nI t)], M)) rfl rfl rfl ?_
    refine ps_if2 (S1 := (110, [], [], M)) (S2 := (99, [(0, .ref r), (1, .int (nI t))], [], M)) rfl rfl rfl (fun c_96 => ?_) (fun c_96 => ?_)
    · have c_96 : (nI t) = 1 := of_decide_eq_true c_96
      have n_96 : t = 1 := (eq_nI (p := t) (n := 1) (by omega) (by decide)).mp c_96
      refine ps_st (S' := (111, [], [.int 1], M)) rfl rfl rfl ?_
      refine ps_st (S' := (115, [], [.int 1], M)) rfl rfl rfl ?_
      exact ps_ret rfl rfl (Or.inl ⟨by
          unfold tgOk
          omega, rfl, hF⟩)
    · have c_96 : ¬ ((nI t) = 1) := of_decide_eq_false c_96
      have n_96 : ¬ (t = 1) := fun h9 => c_96 ((eq_nI (p := t) (n := 1) (by omega) (by decide)).mpr h9)
      refine ps_st (S' := (100, [(0, .ref r), (1, .int (nI t))], [.int (nI t)], M)) rfl rfl rfl ?_
      refine ps_st (S' := (101, [(0, .ref r), (1, .int (nI t))], [.int 3, .int (nI t)], M)) rfl rfl rfl ?_
      refine ps_if2 (S1 := (114, [], [], M)) (S2 := (104, [(0, .ref r), (1, .int (nI t))], [], M)) rfl rfl rfl (fun c_101 => ?_) (fun c_101 => ?_)
      · have c_101 : (nI t) < 3 := of_decide_eq_true c_101
        have n_101 : t < 3 := (lt_nI (p := t) (n := 3) (by omega) (by decide)).mp c_101
        refine ps_st (S' := (115, [], [.int 0], M)) rfl rfl rfl ?_
        exact ps_ret rfl rfl (Or.inr ⟨by
            unfold tgOk
            omega, rfl, hF⟩)
      · have c_101 : ¬ ((nI t) < 3) := of_decide_eq_false c_101
        have n_101 : ¬ (t < 3) := fun h9 => c_101 ((lt_nI (p := t) (n := 3) (by omega) (by decide)).mpr h9)
        refine ps_st (S' := (105, [(0, .ref r), (1, .int (nI t))], [.int (nI t)], M)) rfl rfl rfl ?_
        refine ps_st (S' := (107, [(0, .ref r), (1, .int (nI t))], [.int 12, .int (nI t)], M)) rfl rfl rfl ?_
        refine ps_if2 (S1 := (114, [], [], M)) (S2 := (110, [], [], M)) rfl rfl rfl (fun c_107 => ?_) (fun c_107 => ?_)
        · have c_107 : 12 < (nI t) := of_decide_eq_true c_107
          have n_107 : 12 < t := (lt_nI (p := 12) (n := t) (by decide) (by omega)).mp c_107
          refine ps_st (S' := (115, [], [.int 0], M)) rfl rfl rfl ?_
          exact ps_ret rfl rfl (Or.inr ⟨by
              unfold tgOk
              omega, rfl, hF⟩)
        · have c_107 : ¬ (12 < (nI t)) := of_decide_eq_false c_107
          have n_107 : ¬ (12 < t) := fun h9 => c_107 ((lt_nI (p := 12) (n := t) (by decide) (by omega)).mpr h9)
          refine ps_st (S' := (111, [], [.int 1], M)) rfl rfl rfl ?_
          refine ps_st (S' := (115, [], [.int 1], M)) rfl rfl rfl ?_
          exact ps_ret rfl rfl (Or.inl ⟨by
              unfold tgOk
              omega, rfl, hF⟩)
set_option maxHeartbeats 1000000 in
theorem dx_takesIndexes {g : xe_G} {M : mi_H} {r c b vd da n p mj : Nat} {f : Nat → Int32} {it ru wa mi fa ic ac aa k1 k2 k3 k4 k5 k6 k7 : Int32} {u6 u7 : Value} {pq q1 q2 q3 q4 q5 q6 hd cc : Nat} {sz : Int32} {F1 F3 F4 : Nat → Int32} {k t : Nat} (h_r : M.1 r = some (ob 9 [.ref c, .ref b, .ref vd, .int (nI p), .int it])) (h_b : M.1 b = some (ob 1 [.ref da])) (h_da : M.1 da = some (ar .byte n f)) (h_vd : M.1 vd = some (ob 10 [.int ru, .int wa])) (h_c : M.1 c = some (ob 3 [.ref b, .ref pq, .int mi, .int (nI mj), .int fa, .int ic, u6, u7, .int ac, .int aa, .int k1, .int k2, .int k3, .int k4, .int k5, .int k6, .int k7])) (h_pq : M.1 pq = some (ob 7 [.int sz, .ref q1, .ref q2, .ref q3, .ref q4, .ref q5, .ref q6, .int (nI cc)])) (h_q1 : M.1 q1 = some (ar .int hd F1)) (h_q3 : M.1 q3 = some (ar .int hd F3)) (h_q4 : M.1 q4 = some (ar .int hd F4)) (hn : n ≤ 65540) (hp : p ≤ n) (hD : dst5 q1 q2 q3 q4 q5) (hh : hd < 1073741824) (hk : k < hd) (ht : t < 256) : pt (mT g) 166 [.ref r, .int (nI k), .int (nI t)] M (fun v M' => (∃ (p' x y : Nat) (it' : Int32), (s_ix f n t p = .inr (p', x, y)) ∧ v = some (.int 1) ∧ M'.1 r = some (ob 9 [.ref c, .ref b, .ref vd, .int (nI p'), .int it']) ∧ M'.1 vd = some (ob 10 [.int ru, .int wa]) ∧ M'.1 q3 = some (ar .int hd (upd F3 k (nI x))) ∧ M'.1 q4 = some (ar .int hd (upd F4 k (nI y))) ∧ fm [r, vd, q3, q4] M M') ∨ (∃ (e : Nat × Nat), (s_ix f n t p = .inl e) ∧ v = some (.int 0) ∧ M'.1 vd = some (ob 10 [.int (nI e.1), .int (nI e.2)]) ∧ fm [r, vd, q3, q4] M M')) := by
  refine pt_in (b := mb_166 g) rfl (fun kf => ?_)
  show pl (mT g) kf (mb_166 g).2 (0, [(0, .ref r), (1, .int (nI k)), (2, .int (nI t))], [], M) _
  have hF : fm [r, vd, q3, q4] M M := fm.rf
  refine ps_st (S' := (1, [(0, .ref r), (1, .int (nI k)), (2, .int (nI t))], [.ref r], M)) rfl rfl rfl ?_
  refine ps_st (S' := (2, [(0, .ref r), (1, .int (nI k)), (2, .int (nI t))], [.int (nI t), .ref r], M)) rfl rfl rfl ?_
  refine ps_st (S' := (4, [(0, .ref r), (1, .int (nI k)), (2, .int (nI t))], [.int 15, .int (nI t), .ref r], M)) rfl rfl rfl ?_
  refine ps_if2 (S1 := (11, [(0, .ref r), (1, .int (nI k)), (2, .int (nI t))], [.ref r], M)) (S2 := (7, [(0, .ref r), (1, .int (nI k)), (2, .int (nI t))], [.ref r], M)) rfl rfl rfl (fun c_4 => ?_) (fun c_4 => ?_)
  · have c_4 : ¬ (nI t) = 15 := of_decide_eq_true c_4
    have n_4 : ¬ (t = 15) := fun h9 => c_4 ((eq_nI (p := t) (n := 15) (by omega) (by decide)).mpr h9)
    refine ps_st (S' := (12, [(0, .ref r), (1, .int (nI k)), (2, .int (nI t))], [.int 2, .ref r], M)) rfl rfl rfl ?_
    refine pl_call (a := [.ref r, .int 2]) (rest := []) rfl rfl rfl (dx_takes2 h_r h_b h_da h_vd (hn) (by omega)) (fun v1 M2 q3 => ?_)
    rcases q3 with q3 | q3
    · skip
      obtain ⟨q12_ok, rfl, h4, h5, f6⟩ := q3
      have h8 := (f6.1 b (nin2 (ob_ne h_b h_r (by decide)) (ob_ne h_b h_vd (by decide)))).trans h_b
      have h9 := (f6.1 da (nin2 (Ne.symm (ob_ar h_r h_da)) (Ne.symm (ob_ar h_vd h_da)))).trans h_da
      have h10 := (f6.1 c (nin2 (ob_ne h_c h_r (by decide)) (ob_ne h_c h_vd (by decide)))).trans h_c
      have h11 := (f6.1 pq (nin2 (ob_ne h_pq h_r (by decide)) (ob_ne h_pq h_vd (by decide)))).trans h_pq
      have h12 := (f6.1 q1 (nin2 (Ne.symm (ob_ar h_r h_q1)) (Ne.symm (ob_ar h_vd h_q1)))).trans h_q1
      have h13 := (f6.1 q3 (nin2 (Ne.symm (ob_ar h_r h_q3)) (Ne.symm (ob_ar h_vd h_q3)))).trans h_q3
      have h14 := (f6.1 q4 (nin2 (Ne.symm (ob_ar h_r h_q4)) (Ne.symm (ob_ar h_vd h_q4)))).trans h_q4
      have hF15 := hF.tr f6 (by simp)
      show pl _ _ _ (15, [(0, .ref r), (1, .int (nI k)), (2, .int (nI t))], [.int 1], M2) _
      refine ps_if (S1 := (20, [(0, .ref r), (1, .int (nI k)), (2, .int (nI t))], [], M2)) (S2 := (18, [(0, .ref r), (1, .int (nI k)), (2, .int (nI t))], [], M2)) rfl rfl rfl (fun c_15 => ?_) (fun c_15 => ?_)
      rotate_left
      · exact absurd (by decide) (of_decide_eq_false c_15)
      refine ps_st (S' := (21, [(0, .ref r), (1, .int (nI k)), (2, .int (nI t))], [.ref r], M2)) rfl rfl rfl ?_
      refine ps_get (S' := (24, [(0, .ref r), (1, .int (nI k)), (2, .int (nI t))], [.int (nI (by2 f p))], M2)) rfl h4 rfl rfl ?_
      refine ps_st (S' := (25, [(3, .int (nI (by2 f p))), (0, .ref r), (1, .int (nI k)), (2, .int (nI t))], [], M2)) rfl rfl rfl ?_
      refine ps_st (S' := (26, [(3, .int (nI (by2 f p))), (0, .ref r), (1, .int (nI k)), (2, .int (nI t))], [.int 0], M2)) rfl rfl rfl ?_
      refine ps_st (S' := (28, [(4, .int 0), (3, .int (nI (by2 f p))), (0, .ref r), (1, .int (nI k)), (2, .int (nI t))], [], M2)) rfl rfl rfl ?_
      refine ps_st (S' := (29, [(4, .int 0), (3, .int (nI (by2 f p))), (0, .ref r), (1, .int (nI k)), (2, .int (nI t))], [.int (nI t)], M2)) rfl rfl rfl ?_
      refine ps_st (S' := (31, [(4, .int 0), (3, .int (nI (by2 f p))), (0, .ref r), (1, .int (nI k)), (2, .int (nI t))], [.int 7, .int (nI t)], M2)) rfl rfl rfl ?_
      refine ps_if2 (S1 := (74, [(0, .ref r), (1, .int (nI k)), (3, .int (nI (by2 f p))), (4, .int 0)], [], M2)) (S2 := (34, [(4, .int 0), (3, .int (nI (by2 f p))), (0, .ref r), (1, .int (nI k)), (2, .int (nI t))], [], M2)) rfl rfl rfl (fun c_31 => ?_) (fun c_31 => ?_)
      · have c_31 : (nI t) = 7 := of_decide_eq_true c_31
        have n_31 : t = 7 := (eq_nI (p := t) (n := 7) (by omega) (by decide)).mp c_31
        refine ps_st (S' := (75, [(0, .ref r), (1, .int (nI k)), (3, .int (nI (by2 f p))), (4, .int 0)], [.ref r], M2)) rfl rfl rfl ?_
        refine ps_get (S' := (78, [(0, .ref r), (1, .int (nI k)), (3, .int (nI (by2 f p))), (4, .int 0)], [.ref c], M2)) rfl h4 rfl rfl ?_
        refine ps_get (S' := (81, [(0, .ref r), (1, .int (nI k)), (3, .int (nI (by2 f p))), (4, .int 0)], [.ref pq], M2)) rfl h10 rfl rfl ?_
        refine ps_st (S' := (82, [(0, .ref r), (1, .int (nI k)), (3, .int (nI (by2 f p))), (4, .int 0)], [.int (nI k), .ref pq], M2)) rfl rfl rfl ?_
        refine ps_st (S' := (83, [(0, .ref r), (1, .int (nI k)), (3, .int (nI (by2 f p))), (4, .int 0)], [.int (nI (by2 f p)), .int (nI k), .ref pq], M2)) rfl rfl rfl ?_
        refine ps_st (S' := (85, [(0, .ref r), (1, .int (nI k)), (3, .int (nI (by2 f p))), (4, .int 0)], [.int 0, .int (nI (by2 f p)), .int (nI k), .ref pq], M2)) rfl rfl rfl ?_
        refine pl_call (a := [.ref pq, .int (nI k), .int (nI (by2 f p)), .int 0]) (rest := []) rfl rfl rfl (dx_setNumbers h11 h12 h13 h14 (hD) (hh) (hk)) (fun v16 M17 q18 => ?_)
        obtain ⟨rfl, h19, h20, f21⟩ := q18
        have h23 := (f21.1 r (nin2 (ob_ar h4 h13) (ob_ar h4 h14))).trans h4
        have h24 := (f21.1 b (nin2 (ob_ar h8 h13) (ob_ar h8 h14))).trans h8
        have h25 := (f21.1 da (nin2 (ar_ne h9 h13 (by decide)) (ar_ne h9 h14 (by decide)))).trans h9
        have h26 := (f21.1 vd (nin2 (ob_ar h5 h13) (ob_ar h5 h14))).trans h5
        have h27 := (f21.1 c (nin2 (ob_ar h10 h13) (ob_ar h10 h14))).trans h10
        have h28 := (f21.1 pq (nin2 (ob_ar h11 h13) (ob_ar h11 h14))).trans h11
        have h29 := (f21.1 q1 (nin2 hD.1.2.1 hD.1.2.2.1)).trans h12
        have hF30 := hF15.tr f21 (by simp)
        show pl _ _ _ (88, [(0, .ref r), (1, .int (nI k)), (3, .int (nI (by2 f p))), (4, .int 0)], [], M17) _
        refine ps_st (S' := (89, [(0, .ref r), (1, .int (nI k)), (3, .int (nI (by2 f p))), (4, .int 0)], [.int 1], M17)) rfl rfl rfl ?_
        exact ps_ret rfl rfl (Or.inl ⟨p + 2, (by2 f p), 0, _, by
            unfold s_ix
            repeat' split
            all_goals first | rfl | (exfalso; omega), rfl, h23, h26, h19, h20, hF30⟩)
      · have c_31 : ¬ ((nI t) = 7) := of_decide_eq_false c_31
        have n_31 : ¬ (t = 7) := fun h9 => c_31 ((eq_nI (p := t) (n := 7) (by omega) (by decide)).mpr h9)
        refine ps_st (S' := (35, [(4, .int 0), (3, .int (nI (by2 f p))), (0, .ref r), (1, .int (nI k)), (2, .int (nI t))], [.int (nI t)], M2)) rfl rfl rfl ?_
        refine ps_st (S' := (37, [(4, .int 0), (3, .int (nI (by2 f p))), (0, .ref r), (1, .int (nI k)), (2, .int (nI t))], [.int 8, .int (nI t)], M2)) rfl rfl rfl ?_
        refine ps_if2 (S1 := (74, [(0, .ref r), (1, .int (nI k)), (3, .int (nI (by2 f p))), (4, .int 0)], [], M2)) (S2 := (40, [(4, .int 0), (3, .int (nI (by2 f p))), (0, .ref r), (1, .int (nI k)), (2, .int (nI t))], [], M2)) rfl rfl rfl (fun c_37 => ?_) (fun c_37 => ?_)
        · have c_37 : (nI t) = 8 := of_decide_eq_true c_37
          have n_37 : t = 8 := (eq_nI (p := t) (n := 8) (by omega) (by decide)).mp c_37
          refine ps_st (S' := (75, [(0, .ref r), (1, .int (nI k)), (3, .int (nI (by2 f p))), (4, .int 0)], [.ref r], M2)) rfl rfl rfl ?_
          refine ps_get (S' := (78, [(0, .ref r), (1, .int (nI k)), (3, .int (nI (by2 f p))), (4, .int 0)], [.ref c], M2)) rfl h4 rfl rfl ?_
          refine ps_get (S' := (81, [(0, .ref r), (1, .int (nI k)), (3, .int (nI (by2 f p))), (4, .int 0)], [.ref pq], M2)) rfl h10 rfl rfl ?_
          refine ps_st (S' := (82, [(0, .ref r), (1, .int (nI k)), (3, .int (nI (by2 f p))), (4, .int 0)], [.int (nI k), .ref pq], M2)) rfl rfl rfl ?_
          refine ps_st (S' := (83, [(0, .ref r), (1, .int (nI k)), (3, .int (nI (by2 f p))), (4, .int 0)], [.int (nI (by2 f p)), .int (nI k), .ref pq], M2)) rfl rfl rfl ?_
          refine ps_st (S' := (85, [(0, .ref r), (1, .int (nI k)), (3, .int (nI (by2 f p))), (4, .int 0)], [.int 0, .int (nI (by2 f p)), .int (nI k), .ref pq], M2)) rfl rfl rfl ?_
          refine pl_call (a := [.ref pq, .int (nI k), .int (nI (by2 f p)), .int 0]) (rest := []) rfl rfl rfl (dx_setNumbers h11 h12 h13 h14 (hD) (hh) (hk)) (fun v31 M32 q33 => ?_)
          obtain ⟨rfl, h34, h35, f36⟩ := q33
          have h38 := (f36.1 r (nin2 (ob_ar h4 h13) (ob_ar h4 h14))).trans h4
          have h39 := (f36.1 b (nin2 (ob_ar h8 h13) (ob_ar h8 h14))).trans h8
          have h40 := (f36.1 da (nin2 (ar_ne h9 h13 (by decide)) (ar_ne h9 h14 (by decide)))).trans h9
          have h41 := (f36.1 vd (nin2 (ob_ar h5 h13) (ob_ar h5 h14))).trans h5
          have h42 := (f36.1 c (nin2 (ob_ar h10 h13) (ob_ar h10 h14))).trans h10
          have h43 := (f36.1 pq (nin2 (ob_ar h11 h13) (ob_ar h11 h14))).trans h11
          have h44 := (f36.1 q1 (nin2 hD.1.2.1 hD.1.2.2.1)).trans h12
          have hF45 := hF15.tr f36 (by simp)
          show pl _ _ _ (88, [(0, .ref r), (1, .int (nI k)), (3, .int (nI (by2 f p))), (4, .int 0)], [], M32) _
          refine ps_st (S' := (89, [(0, .ref r), (1, .int (nI k)), (3, .int (nI (by2 f p))), (4, .int 0)], [.int 1], M32)) rfl rfl rfl ?_
          exact ps_ret rfl rfl (Or.inl ⟨p + 2, (by2 f p), 0, _, by
              unfold s_ix
              repeat' split
              all_goals first | rfl | (exfalso; omega), rfl, h38, h41, h34, h35, hF45⟩)
        · have c_37 : ¬ ((nI t) = 8) := of_decide_eq_false c_37
          have n_37 : ¬ (t = 8) := fun h9 => c_37 ((eq_nI (p := t) (n := 8) (by omega) (by decide)).mpr h9)
          refine ps_st (S' := (41, [(4, .int 0), (3, .int (nI (by2 f p))), (0, .ref r), (1, .int (nI k)), (2, .int (nI t))], [.int (nI t)], M2)) rfl rfl rfl ?_
          refine ps_st (S' := (43, [(4, .int 0), (3, .int (nI (by2 f p))), (0, .ref r), (1, .int (nI k)), (2, .int (nI t))], [.int 16, .int (nI t)], M2)) rfl rfl rfl ?_
          refine ps_if2 (S1 := (74, [(0, .ref r), (1, .int (nI k)), (3, .int (nI (by2 f p))), (4, .int 0)], [], M2)) (S2 := (46, [(4, .int 0), (3, .int (nI (by2 f p))), (0, .ref r), (1, .int (nI k)), (2, .int (nI t))], [], M2)) rfl rfl rfl (fun c_43 => ?_) (fun c_43 => ?_)
          · have c_43 : (nI t) = 16 := of_decide_eq_true c_43
            have n_43 : t = 16 := (eq_nI (p := t) (n := 16) (by omega) (by decide)).mp c_43
            refine ps_st (S' := (75, [(0, .ref r), (1, .int (nI k)), (3, .int (nI (by2 f p))), (4, .int 0)], [.ref r], M2)) rfl rfl rfl ?_
            refine ps_get (S' := (78, [(0, .ref r), (1, .int (nI k)), (3, .int (nI (by2 f p))), (4, .int 0)], [.ref c], M2)) rfl h4 rfl rfl ?_
            refine ps_get (S' := (81, [(0, .ref r), (1, .int (nI k)), (3, .int (nI (by2 f p))), (4, .int 0)], [.ref pq], M2)) rfl h10 rfl rfl ?_
            refine ps_st (S' := (82, [(0, .ref r), (1, .int (nI k)), (3, .int (nI (by2 f p))), (4, .int 0)], [.int (nI k), .ref pq], M2)) rfl rfl rfl ?_
            refine ps_st (S' := (83, [(0, .ref r), (1, .int (nI k)), (3, .int (nI (by2 f p))), (4, .int 0)], [.int (nI (by2 f p)), .int (nI k), .ref pq], M2)) rfl rfl rfl ?_
            refine ps_st (S' := (85, [(0, .ref r), (1, .int (nI k)), (3, .int (nI (by2 f p))), (4, .int 0)], [.int 0, .int (nI (by2 f p)), .int (nI k), .ref pq], M2)) rfl rfl rfl ?_
            refine pl_call (a := [.ref pq, .int (nI k), .int (nI (by2 f p)), .int 0]) (rest := []) rfl rfl rfl (dx_setNumbers h11 h12 h13 h14 (hD) (hh) (hk)) (fun v46 M47 q48 => ?_)
            obtain ⟨rfl, h49, h50, f51⟩ := q48
            have h53 := (f51.1 r (nin2 (ob_ar h4 h13) (ob_ar h4 h14))).trans h4
            have h54 := (f51.1 b (nin2 (ob_ar h8 h13) (ob_ar h8 h14))).trans h8
            have h55 := (f51.1 da (nin2 (ar_ne h9 h13 (by decide)) (ar_ne h9 h14 (by decide)))).trans h9
            have h56 := (f51.1 vd (nin2 (ob_ar h5 h13) (ob_ar h5 h14))).trans h5
            have h57 := (f51.1 c (nin2 (ob_ar h10 h13) (ob_ar h10 h14))).trans h10
            have h58 := (f51.1 pq (nin2 (ob_ar h11 h13) (ob_ar h11 h14))).trans h11
            have h59 := (f51.1 q1 (nin2 hD.1.2.1 hD.1.2.2.1)).trans h12
            have hF60 := hF15.tr f51 (by simp)
            show pl _ _ _ (88, [(0, .ref r), (1, .int (nI k)), (3, .int (nI (by2 f p))), (4, .int 0)], [], M47) _
            refine ps_st (S' := (89, [(0, .ref r), (1, .int (nI k)), (3, .int (nI (by2 f p))), (4, .int 0)], [.int 1], M47)) rfl rfl rfl ?_
            exact ps_ret rfl rfl (Or.inl ⟨p + 2, (by2 f p), 0, _, by
                unfold s_ix
                repeat' split
                all_goals first | rfl | (exfalso; omega), rfl, h53, h56, h49, h50, hF60⟩)
          · have c_43 : ¬ ((nI t) = 16) := of_decide_eq_false c_43
            have n_43 : ¬ (t = 16) := fun h9 => c_43 ((eq_nI (p := t) (n := 16) (by omega) (by decide)).mpr h9)
            refine ps_st (S' := (47, [(4, .int 0), (3, .int (nI (by2 f p))), (0, .ref r), (1, .int (nI k)), (2, .int (nI t))], [.int (nI t)], M2)) rfl rfl rfl ?_
            refine ps_st (S' := (49, [(4, .int 0), (3, .int (nI (by2 f p))), (0, .ref r), (1, .int (nI k)), (2, .int (nI t))], [.int 19, .int (nI t)], M2)) rfl rfl rfl ?_
            refine ps_if2 (S1 := (74, [(0, .ref r), (1, .int (nI k)), (3, .int (nI (by2 f p))), (4, .int 0)], [], M2)) (S2 := (52, [(4, .int 0), (3, .int (nI (by2 f p))), (0, .ref r), (1, .int (nI k)), (2, .int (nI t))], [], M2)) rfl rfl rfl (fun c_49 => ?_) (fun c_49 => ?_)
            · have c_49 : (nI t) = 19 := of_decide_eq_true c_49
              have n_49 : t = 19 := (eq_nI (p := t) (n := 19) (by omega) (by decide)).mp c_49
              refine ps_st (S' := (75, [(0, .ref r), (1, .int (nI k)), (3, .int (nI (by2 f p))), (4, .int 0)], [.ref r], M2)) rfl rfl rfl ?_
              refine ps_get (S' := (78, [(0, .ref r), (1, .int (nI k)), (3, .int (nI (by2 f p))), (4, .int 0)], [.ref c], M2)) rfl h4 rfl rfl ?_
              refine ps_get (S' := (81, [(0, .ref r), (1, .int (nI k)), (3, .int (nI (by2 f p))), (4, .int 0)], [.ref pq], M2)) rfl h10 rfl rfl ?_
              refine ps_st (S' := (82, [(0, .ref r), (1, .int (nI k)), (3, .int (nI (by2 f p))), (4, .int 0)], [.int (nI k), .ref pq], M2)) rfl rfl rfl ?_
              refine ps_st (S' := (83, [(0, .ref r), (1, .int (nI k)), (3, .int (nI (by2 f p))), (4, .int 0)], [.int (nI (by2 f p)), .int (nI k), .ref pq], M2)) rfl rfl rfl ?_
              refine ps_st (S' := (85, [(0, .ref r), (1, .int (nI k)), (3, .int (nI (by2 f p))), (4, .int 0)], [.int 0, .int (nI (by2 f p)), .int (nI k), .ref pq], M2)) rfl rfl rfl ?_
              refine pl_call (a := [.ref pq, .int (nI k), .int (nI (by2 f p)), .int 0]) (rest := []) rfl rfl rfl (dx_setNumbers h11 h12 h13 h14 (hD) (hh) (hk)) (fun v61 M62 q63 => ?_)
              obtain ⟨rfl, h64, h65, f66⟩ := q63
              have h68 := (f66.1 r (nin2 (ob_ar h4 h13) (ob_ar h4 h14))).trans h4
              have h69 := (f66.1 b (nin2 (ob_ar h8 h13) (ob_ar h8 h14))).trans h8
              have h70 := (f66.1 da (nin2 (ar_ne h9 h13 (by decide)) (ar_ne h9 h14 (by decide)))).trans h9
              have h71 := (f66.1 vd (nin2 (ob_ar h5 h13) (ob_ar h5 h14))).trans h5
              have h72 := (f66.1 c (nin2 (ob_ar h10 h13) (ob_ar h10 h14))).trans h10
              have h73 := (f66.1 pq (nin2 (ob_ar h11 h13) (ob_ar h11 h14))).trans h11
              have h74 := (f66.1 q1 (nin2 hD.1.2.1 hD.1.2.2.1)).trans h12
              have hF75 := hF15.tr f66 (by simp)
              show pl _ _ _ (88, [(0, .ref r), (1, .int (nI k)), (3, .int (nI (by2 f p))), (4, .int 0)], [], M62) _
              refine ps_st (S' := (89, [(0, .ref r), (1, .int (nI k)), (3, .int (nI (by2 f p))), (4, .int 0)], [.int 1], M62)) rfl rfl rfl ?_
              exact ps_ret rfl rfl (Or.inl ⟨p + 2, (by2 f p), 0, _, by
                  unfold s_ix
                  repeat' split
                  all_goals first | rfl | (exfalso; omega), rfl, h68, h71, h64, h65, hF75⟩)
            · have c_49 : ¬ ((nI t) = 19) := of_decide_eq_false c_49
              have n_49 : ¬ (t = 19) := fun h9 => c_49 ((eq_nI (p := t) (n := 19) (by omega) (by decide)).mpr h9)
              refine ps_st (S' := (53, [(4, .int 0), (3, .int (nI (by2 f p))), (0, .ref r), (1, .int (nI k)), (2, .int (nI t))], [.int (nI t)], M2)) rfl rfl rfl ?_
              refine ps_st (S' := (55, [(4, .int 0), (3, .int (nI (by2 f p))), (0, .ref r), (1, .int (nI k)), (2, .int (nI t))], [.int 20, .int (nI t)], M2)) rfl rfl rfl ?_
              refine ps_if2 (S1 := (74, [(0, .ref r), (1, .int (nI k)), (3, .int (nI (by2 f p))), (4, .int 0)], [], M2)) (S2 := (58, [(4, .int 0), (3, .int (nI (by2 f p))), (0, .ref r), (1, .int (nI k)), (2, .int (nI t))], [], M2)) rfl rfl rfl (fun c_55 => ?_) (fun c_55 => ?_)
              · have c_55 : (nI t) = 20 := of_decide_eq_true c_55
                have n_55 : t = 20 := (eq_nI (p := t) (n := 20) (by omega) (by decide)).mp c_55
                refine ps_st (S' := (75, [(0, .ref r), (1, .int (nI k)), (3, .int (nI (by2 f p))), (4, .int 0)], [.ref r], M2)) rfl rfl rfl ?_
                refine ps_get (S' := (78, [(0, .ref r), (1, .int (nI k)), (3, .int (nI (by2 f p))), (4, .int 0)], [.ref c], M2)) rfl h4 rfl rfl ?_
                refine ps_get (S' := (81, [(0, .ref r), (1, .int (nI k)), (3, .int (nI (by2 f p))), (4, .int 0)], [.ref pq], M2)) rfl h10 rfl rfl ?_
                refine ps_st (S' := (82, [(0, .ref r), (1, .int (nI k)), (3, .int (nI (by2 f p))), (4, .int 0)], [.int (nI k), .ref pq], M2)) rfl rfl rfl ?_
                refine ps_st (S' := (83, [(0, .ref r), (1, .int (nI k)), (3, .int (nI (by2 f p))), (4, .int 0)], [.int (nI (by2 f p)), .int (nI k), .ref pq], M2)) rfl rfl rfl ?_
                refine ps_st (S' := (85, [(0, .ref r), (1, .int (nI k)), (3, .int (nI (by2 f p))), (4, .int 0)], [.int 0, .int (nI (by2 f p)), .int (nI k), .ref pq], M2)) rfl rfl rfl ?_
                refine pl_call (a := [.ref pq, .int (nI k), .int (nI (by2 f p)), .int 0]) (rest := []) rfl rfl rfl (dx_setNumbers h11 h12 h13 h14 (hD) (hh) (hk)) (fun v76 M77 q78 => ?_)
                obtain ⟨rfl, h79, h80, f81⟩ := q78
                have h83 := (f81.1 r (nin2 (ob_ar h4 h13) (ob_ar h4 h14))).trans h4
                have h84 := (f81.1 b (nin2 (ob_ar h8 h13) (ob_ar h8 h14))).trans h8
                have h85 := (f81.1 da (nin2 (ar_ne h9 h13 (by decide)) (ar_ne h9 h14 (by decide)))).trans h9
                have h86 := (f81.1 vd (nin2 (ob_ar h5 h13) (ob_ar h5 h14))).trans h5
                have h87 := (f81.1 c (nin2 (ob_ar h10 h13) (ob_ar h10 h14))).trans h10
                have h88 := (f81.1 pq (nin2 (ob_ar h11 h13) (ob_ar h11 h14))).trans h11
                have h89 := (f81.1 q1 (nin2 hD.1.2.1 hD.1.2.2.1)).trans h12
                have hF90 := hF15.tr f81 (by simp)
                show pl _ _ _ (88, [(0, .ref r), (1, .int (nI k)), (3, .int (nI (by2 f p))), (4, .int 0)], [], M77) _
                refine ps_st (S' := (89, [(0, .ref r), (1, .int (nI k)), (3, .int (nI (by2 f p))), (4, .int 0)], [.int 1], M77)) rfl rfl rfl ?_
                exact ps_ret rfl rfl (Or.inl ⟨p + 2, (by2 f p), 0, _, by
                    unfold s_ix
                    repeat' split
                    all_goals first | rfl | (exfalso; omega), rfl, h83, h86, h79, h80, hF90⟩)
              · have c_55 : ¬ ((nI t) = 20) := of_decide_eq_false c_55
                have n_55 : ¬ (t = 20) := fun h9 => c_55 ((eq_nI (p := t) (n := 20) (by omega) (by decide)).mpr h9)
                refine ps_st (S' := (59, [(4, .int 0), (3, .int (nI (by2 f p))), (0, .ref r), (1, .int (nI k)), (2, .int (nI t))], [.ref r], M2)) rfl rfl rfl ?_
                refine ps_st (S' := (60, [(4, .int 0), (3, .int (nI (by2 f p))), (0, .ref r), (1, .int (nI k)), (2, .int (nI t))], [.int 2, .ref r], M2)) rfl rfl rfl ?_
                refine pl_call (a := [.ref r, .int 2]) (rest := []) rfl rfl rfl (dx_takes2 h4 h8 h9 h5 (hn) (by omega)) (fun v91 M92 q93 => ?_)
                rcases q93 with q93 | q93
                · skip
                  obtain ⟨q60_ok, rfl, h94, h95, f96⟩ := q93
                  have h98 := (f96.1 b (nin2 (ob_ne h8 h4 (by decide)) (ob_ne h8 h5 (by decide)))).trans h8
                  have h99 := (f96.1 da (nin2 (Ne.symm (ob_ar h4 h9)) (Ne.symm (ob_ar h5 h9)))).trans h9
                  have h100 := (f96.1 c (nin2 (ob_ne h10 h4 (by decide)) (ob_ne h10 h5 (by decide)))).trans h10
                  have h101 := (f96.1 pq (nin2 (ob_ne h11 h4 (by decide)) (ob_ne h11 h5 (by decide)))).trans h11
                  have h102 := (f96.1 q1 (nin2 (Ne.symm (ob_ar h4 h12)) (Ne.symm (ob_ar h5 h12)))).trans h12
                  have h103 := (f96.1 q3 (nin2 (Ne.symm (ob_ar h4 h13)) (Ne.symm (ob_ar h5 h13)))).trans h13
                  have h104 := (f96.1 q4 (nin2 (Ne.symm (ob_ar h4 h14)) (Ne.symm (ob_ar h5 h14)))).trans h14
                  have hF105 := hF15.tr f96 (by simp)
                  show pl _ _ _ (63, [(4, .int 0), (3, .int (nI (by2 f p))), (0, .ref r), (1, .int (nI k)), (2, .int (nI t))], [.int 1], M92) _
                  refine ps_if (S1 := (68, [(4, .int 0), (3, .int (nI (by2 f p))), (0, .ref r), (1, .int (nI k)), (2, .int (nI t))], [], M92)) (S2 := (66, [(4, .int 0), (3, .int (nI (by2 f p))), (0, .ref r), (1, .int (nI k)), (2, .int (nI t))], [], M92)) rfl rfl rfl (fun c_63 => ?_) (fun c_63 => ?_)
                  rotate_left
                  · exact absurd (by decide) (of_decide_eq_false c_63)
                  refine ps_st (S' := (69, [(4, .int 0), (3, .int (nI (by2 f p))), (0, .ref r), (1, .int (nI k)), (2, .int (nI t))], [.ref r], M92)) rfl rfl rfl ?_
                  refine ps_get (S' := (72, [(4, .int 0), (3, .int (nI (by2 f p))), (0, .ref r), (1, .int (nI k)), (2, .int (nI t))], [.int (nI (by2 f (p + 2)))], M92)) rfl h94 rfl rfl ?_
                  refine ps_st (S' := (74, [(0, .ref r), (1, .int (nI k)), (3, .int (nI (by2 f p))), (4, .int (nI (by2 f (p + 2))))], [], M92)) rfl rfl rfl ?_
                  refine ps_st (S' := (75, [(0, .ref r), (1, .int (nI k)), (3, .int (nI (by2 f p))), (4, .int (nI (by2 f (p + 2))))], [.ref r], M92)) rfl rfl rfl ?_
                  refine ps_get (S' := (78, [(0, .ref r), (1, .int (nI k)), (3, .int (nI (by2 f p))), (4, .int (nI (by2 f (p + 2))))], [.ref c], M92)) rfl h94 rfl rfl ?_
                  refine ps_get (S' := (81, [(0, .ref r), (1, .int (nI k)), (3, .int (nI (by2 f p))), (4, .int (nI (by2 f (p + 2))))], [.ref pq], M92)) rfl h100 rfl rfl ?_
                  refine ps_st (S' := (82, [(0, .ref r), (1, .int (nI k)), (3, .int (nI (by2 f p))), (4, .int (nI (by2 f (p + 2))))], [.int (nI k), .ref pq], M92)) rfl rfl rfl ?_
                  refine ps_st (S' := (83, [(0, .ref r), (1, .int (nI k)), (3, .int (nI (by2 f p))), (4, .int (nI (by2 f (p + 2))))], [.int (nI (by2 f p)), .int (nI k), .ref pq], M92)) rfl rfl rfl ?_
                  refine ps_st (S' := (85, [(0, .ref r), (1, .int (nI k)), (3, .int (nI (by2 f p))), (4, .int (nI (by2 f (p + 2))))], [.int (nI (by2 f (p + 2))), .int (nI (by2 f p)), .int (nI k), .ref pq], M92)) rfl rfl rfl ?_
                  refine pl_call (a := [.ref pq, .int (nI k), .int (nI (by2 f p)), .int (nI (by2 f (p + 2)))]) (rest := []) rfl rfl rfl (dx_setNumbers h101 h102 h103 h104 (hD) (hh) (hk)) (fun v106 M107 q108 => ?_)
                  obtain ⟨rfl, h109, h110, f111⟩ := q108
                  have h113 := (f111.1 r (nin2 (ob_ar h94 h103) (ob_ar h94 h104))).trans h94
                  have h114 := (f111.1 b (nin2 (ob_ar h98 h103) (ob_ar h98 h104))).trans h98
                  have h115 := (f111.1 da (nin2 (ar_ne h99 h103 (by decide)) (ar_ne h99 h104 (by decide)))).trans h99
                  have h116 := (f111.1 vd (nin2 (ob_ar h95 h103) (ob_ar h95 h104))).trans h95
                  have h117 := (f111.1 c (nin2 (ob_ar h100 h103) (ob_ar h100 h104))).trans h100
                  have h118 := (f111.1 pq (nin2 (ob_ar h101 h103) (ob_ar h101 h104))).trans h101
                  have h119 := (f111.1 q1 (nin2 hD.1.2.1 hD.1.2.2.1)).trans h102
                  have hF120 := hF105.tr f111 (by simp)
                  show pl _ _ _ (88, [(0, .ref r), (1, .int (nI k)), (3, .int (nI (by2 f p))), (4, .int (nI (by2 f (p + 2))))], [], M107) _
                  refine ps_st (S' := (89, [(0, .ref r), (1, .int (nI k)), (3, .int (nI (by2 f p))), (4, .int (nI (by2 f (p + 2))))], [.int 1], M107)) rfl rfl rfl ?_
                  exact ps_ret rfl rfl (Or.inl ⟨p + 4, (by2 f p), by2 f (p + 2), _, by
                      unfold s_ix
                      repeat' split
                      all_goals first | rfl | (exfalso; omega), rfl, h113, h116, h109, h110, hF120⟩)
                · skip
                  obtain ⟨q60_no, rfl, h121, h122, f123⟩ := q93
                  have h125 := (f123.1 b (nin2 (ob_ne h8 h4 (by decide)) (ob_ne h8 h5 (by decide)))).trans h8
                  have h126 := (f123.1 da (nin2 (Ne.symm (ob_ar h4 h9)) (Ne.symm (ob_ar h5 h9)))).trans h9
                  have h127 := (f123.1 c (nin2 (ob_ne h10 h4 (by decide)) (ob_ne h10 h5 (by decide)))).trans h10
                  have h128 := (f123.1 pq (nin2 (ob_ne h11 h4 (by decide)) (ob_ne h11 h5 (by decide)))).trans h11
                  have h129 := (f123.1 q1 (nin2 (Ne.symm (ob_ar h4 h12)) (Ne.symm (ob_ar h5 h12)))).trans h12
                  have h130 := (f123.1 q3 (nin2 (Ne.symm (ob_ar h4 h13)) (Ne.symm (ob_ar h5 h13)))).trans h13
                  have h131 := (f123.1 q4 (nin2 (Ne.symm (ob_ar h4 h14)) (Ne.symm (ob_ar h5 h14)))).trans h14
                  have hF132 := hF15.tr f123 (by simp)
                  show pl _ _ _ (63, [(4, .int 0), (3, .int (nI (by2 f p))), (0, .ref r), (1, .int (nI k)), (2, .int (nI t))], [.int 0], M92) _
                  refine ps_if (S1 := (68, [(4, .int 0), (3, .int (nI (by2 f p))), (0, .ref r), (1, .int (nI k)), (2, .int (nI t))], [], M92)) (S2 := (66, [(4, .int 0), (3, .int (nI (by2 f p))), (0, .ref r), (1, .int (nI k)), (2, .int (nI t))], [], M92)) rfl rfl rfl (fun c_63 => ?_) (fun c_63 => ?_)
                  · exact absurd (of_decide_eq_true c_63) (by decide)
                  refine ps_st (S' := (67, [(4, .int 0), (3, .int (nI (by2 f p))), (0, .ref r), (1, .int (nI k)), (2, .int (nI t))], [.int 0], M92)) rfl rfl rfl ?_
                  exact ps_ret rfl rfl (Or.inr ⟨(1, p + 2), by
                      unfold s_ix
                      repeat' split
                      all_goals first | rfl | (exfalso; omega), rfl, h122, hF132⟩)
    · skip
      obtain ⟨q12_no, rfl, h133, h134, f135⟩ := q3
      have h137 := (f135.1 b (nin2 (ob_ne h_b h_r (by decide)) (ob_ne h_b h_vd (by decide)))).trans h_b
      have h138 := (f135.1 da (nin2 (Ne.symm (ob_ar h_r h_da)) (Ne.symm (ob_ar h_vd h_da)))).trans h_da
      have h139 := (f135.1 c (nin2 (ob_ne h_c h_r (by decide)) (ob_ne h_c h_vd (by decide)))).trans h_c
      have h140 := (f135.1 pq (nin2 (ob_ne h_pq h_r (by decide)) (ob_ne h_pq h_vd (by decide)))).trans h_pq
      have h141 := (f135.1 q1 (nin2 (Ne.symm (ob_ar h_r h_q1)) (Ne.symm (ob_ar h_vd h_q1)))).trans h_q1
      have h142 := (f135.1 q3 (nin2 (Ne.symm (ob_ar h_r h_q3)) (Ne.symm (ob_ar h_vd h_q3)))).trans h_q3
      have h143 := (f135.1 q4 (nin2 (Ne.symm (ob_ar h_r h_q4)) (Ne.symm (ob_ar h_vd h_q4)))).trans h_q4
      have hF144 := hF.tr f135 (by simp)
      show pl _ _ _ (15, [(0, .ref r), (1, .int (nI k)), (2, .int (nI t))], [.int 0], M2) _
      refine ps_if (S1 := (20, [(0, .ref r), (1, .int (nI k)), (2, .int (nI t))], [], M2)) (S2 := (18, [(0, .ref r), (1, .int (nI k)), (2, .int (nI t))], [], M2)) rfl rfl rfl (fun c_15 => ?_) (fun c_15 => ?_)
      · exact absurd (of_decide_eq_true c_15) (by decide)
      refine ps_st (S' := (19, [(0, .ref r), (1, .int (nI k)), (2, .int (nI t))], [.int 0], M2)) rfl rfl rfl ?_
      exact ps_ret rfl rfl (Or.inr ⟨(1, p), by
          unfold s_ix
          repeat' split
          all_goals first | rfl | (exfalso; omega), rfl, h134, hF144⟩)
  · have c_4 : ¬ (¬ (nI t) = 15) := of_decide_eq_false c_4
    have n_4 : t = 15 := (eq_nI (p := t) (n := 15) (by omega) (by decide)).mp (Decidable.not_not.mp c_4)
    refine ps_st (S' := (8, [(0, .ref r), (1, .int (nI k)), (2, .int (nI t))], [.int 1, .ref r], M)) rfl rfl rfl ?_
    refine ps_st (S' := (12, [(0, .ref r), (1, .int (nI k)), (2, .int (nI t))], [.int 1, .ref r], M)) rfl rfl rfl ?_
    refine pl_call (a := [.ref r, .int 1]) (rest := []) rfl rfl rfl (dx_takes1 h_r h_b h_da h_vd (hn) (by omega)) (fun v145 M146 q147 => ?_)
    rcases q147 with q147 | q147
    · skip
      obtain ⟨q12_ok, rfl, h148, h149, f150⟩ := q147
      have h152 := (f150.1 b (nin2 (ob_ne h_b h_r (by decide)) (ob_ne h_b h_vd (by decide)))).trans h_b
      have h153 := (f150.1 da (nin2 (Ne.symm (ob_ar h_r h_da)) (Ne.symm (ob_ar h_vd h_da)))).trans h_da
      have h154 := (f150.1 c (nin2 (ob_ne h_c h_r (by decide)) (ob_ne h_c h_vd (by decide)))).trans h_c
      have h155 := (f150.1 pq (nin2 (ob_ne h_pq h_r (by decide)) (ob_ne h_pq h_vd (by decide)))).trans h_pq
      have h156 := (f150.1 q1 (nin2 (Ne.symm (ob_ar h_r h_q1)) (Ne.symm (ob_ar h_vd h_q1)))).trans h_q1
      have h157 := (f150.1 q3 (nin2 (Ne.symm (ob_ar h_r h_q3)) (Ne.symm (ob_ar h_vd h_q3)))).trans h_q3
      have h158 := (f150.1 q4 (nin2 (Ne.symm (ob_ar h_r h_q4)) (Ne.symm (ob_ar h_vd h_q4)))).trans h_q4
      have hF159 := hF.tr f150 (by simp)
      show pl _ _ _ (15, [(0, .ref r), (1, .int (nI k)), (2, .int (nI t))], [.int 1], M146) _
      refine ps_if (S1 := (20, [(0, .ref r), (1, .int (nI k)), (2, .int (nI t))], [], M146)) (S2 := (18, [(0, .ref r), (1, .int (nI k)), (2, .int (nI t))], [], M146)) rfl rfl rfl (fun c_15 => ?_) (fun c_15 => ?_)
      rotate_left
      · exact absurd (by decide) (of_decide_eq_false c_15)
      refine ps_st (S' := (21, [(0, .ref r), (1, .int (nI k)), (2, .int (nI t))], [.ref r], M146)) rfl rfl rfl ?_
      refine ps_get (S' := (24, [(0, .ref r), (1, .int (nI k)), (2, .int (nI t))], [.int (nI (by1 f p))], M146)) rfl h148 rfl rfl ?_
      refine ps_st (S' := (25, [(3, .int (nI (by1 f p))), (0, .ref r), (1, .int (nI k)), (2, .int (nI t))], [], M146)) rfl rfl rfl ?_
      refine ps_st (S' := (26, [(3, .int (nI (by1 f p))), (0, .ref r), (1, .int (nI k)), (2, .int (nI t))], [.int 0], M146)) rfl rfl rfl ?_
      refine ps_st (S' := (28, [(4, .int 0), (3, .int (nI (by1 f p))), (0, .ref r), (1, .int (nI k)), (2, .int (nI t))], [], M146)) rfl rfl rfl ?_
      refine ps_st (S' := (29, [(4, .int 0), (3, .int (nI (by1 f p))), (0, .ref r), (1, .int (nI k)), (2, .int (nI t))], [.int (nI t)], M146)) rfl rfl rfl ?_
      refine ps_st (S' := (31, [(4, .int 0), (3, .int (nI (by1 f p))), (0, .ref r), (1, .int (nI k)), (2, .int (nI t))], [.int 7, .int (nI t)], M146)) rfl rfl rfl ?_
      refine ps_if2 (S1 := (74, [(0, .ref r), (1, .int (nI k)), (3, .int (nI (by1 f p))), (4, .int 0)], [], M146)) (S2 := (34, [(4, .int 0), (3, .int (nI (by1 f p))), (0, .ref r), (1, .int (nI k)), (2, .int (nI t))], [], M146)) rfl rfl rfl (fun c_31 => ?_) (fun c_31 => ?_)
      · have c_31 : (nI t) = 7 := of_decide_eq_true c_31
        have n_31 : t = 7 := (eq_nI (p := t) (n := 7) (by omega) (by decide)).mp c_31
        refine ps_st (S' := (75, [(0, .ref r), (1, .int (nI k)), (3, .int (nI (by1 f p))), (4, .int 0)], [.ref r], M146)) rfl rfl rfl ?_
        refine ps_get (S' := (78, [(0, .ref r), (1, .int (nI k)), (3, .int (nI (by1 f p))), (4, .int 0)], [.ref c], M146)) rfl h148 rfl rfl ?_
        refine ps_get (S' := (81, [(0, .ref r), (1, .int (nI k)), (3, .int (nI (by1 f p))), (4, .int 0)], [.ref pq], M146)) rfl h154 rfl rfl ?_
        refine ps_st (S' := (82, [(0, .ref r), (1, .int (nI k)), (3, .int (nI (by1 f p))), (4, .int 0)], [.int (nI k), .ref pq], M146)) rfl rfl rfl ?_
        refine ps_st (S' := (83, [(0, .ref r), (1, .int (nI k)), (3, .int (nI (by1 f p))), (4, .int 0)], [.int (nI (by1 f p)), .int (nI k), .ref pq], M146)) rfl rfl rfl ?_
        refine ps_st (S' := (85, [(0, .ref r), (1, .int (nI k)), (3, .int (nI (by1 f p))), (4, .int 0)], [.int 0, .int (nI (by1 f p)), .int (nI k), .ref pq], M146)) rfl rfl rfl ?_
        refine pl_call (a := [.ref pq, .int (nI k), .int (nI (by1 f p)), .int 0]) (rest := []) rfl rfl rfl (dx_setNumbers h155 h156 h157 h158 (hD) (hh) (hk)) (fun v160 M161 q162 => ?_)
        obtain ⟨rfl, h163, h164, f165⟩ := q162
        have h167 := (f165.1 r (nin2 (ob_ar h148 h157) (ob_ar h148 h158))).trans h148
        have h168 := (f165.1 b (nin2 (ob_ar h152 h157) (ob_ar h152 h158))).trans h152
        have h169 := (f165.1 da (nin2 (ar_ne h153 h157 (by decide)) (ar_ne h153 h158 (by decide)))).trans h153
        have h170 := (f165.1 vd (nin2 (ob_ar h149 h157) (ob_ar h149 h158))).trans h149
        have h171 := (f165.1 c (nin2 (ob_ar h154 h157) (ob_ar h154 h158))).trans h154
        have h172 := (f165.1 pq (nin2 (ob_ar h155 h157) (ob_ar h155 h158))).trans h155
        have h173 := (f165.1 q1 (nin2 hD.1.2.1 hD.1.2.2.1)).trans h156
        have hF174 := hF159.tr f165 (by simp)
        show pl _ _ _ (88, [(0, .ref r), (1, .int (nI k)), (3, .int (nI (by1 f p))), (4, .int 0)], [], M161) _
        refine ps_st (S' := (89, [(0, .ref r), (1, .int (nI k)), (3, .int (nI (by1 f p))), (4, .int 0)], [.int 1], M161)) rfl rfl rfl ?_
        exact ps_ret rfl rfl (Or.inl ⟨p + 1, (by1 f p), 0, _, by
            unfold s_ix
            repeat' split
            all_goals first | rfl | (exfalso; omega), rfl, h167, h170, h163, h164, hF174⟩)
      · have c_31 : ¬ ((nI t) = 7) := of_decide_eq_false c_31
        have n_31 : ¬ (t = 7) := fun h9 => c_31 ((eq_nI (p := t) (n := 7) (by omega) (by decide)).mpr h9)
        refine ps_st (S' := (35, [(4, .int 0), (3, .int (nI (by1 f p))), (0, .ref r), (1, .int (nI k)), (2, .int (nI t))], [.int (nI t)], M146)) rfl rfl rfl ?_
        refine ps_st (S' := (37, [(4, .int 0), (3, .int (nI (by1 f p))), (0, .ref r), (1, .int (nI k)), (2, .int (nI t))], [.int 8, .int (nI t)], M146)) rfl rfl rfl ?_
        refine ps_if2 (S1 := (74, [(0, .ref r), (1, .int (nI k)), (3, .int (nI (by1 f p))), (4, .int 0)], [], M146)) (S2 := (40, [(4, .int 0), (3, .int (nI (by1 f p))), (0, .ref r), (1, .int (nI k)), (2, .int (nI t))], [], M146)) rfl rfl rfl (fun c_37 => ?_) (fun c_37 => ?_)
        · have c_37 : (nI t) = 8 := of_decide_eq_true c_37
          have n_37 : t = 8 := (eq_nI (p := t) (n := 8) (by omega) (by decide)).mp c_37
          refine ps_st (S' := (75, [(0, .ref r), (1, .int (nI k)), (3, .int (nI (by1 f p))), (4, .int 0)], [.ref r], M146)) rfl rfl rfl ?_
          refine ps_get (S' := (78, [(0, .ref r), (1, .int (nI k)), (3, .int (nI (by1 f p))), (4, .int 0)], [.ref c], M146)) rfl h148 rfl rfl ?_
          refine ps_get (S' := (81, [(0, .ref r), (1, .int (nI k)), (3, .int (nI (by1 f p))), (4, .int 0)], [.ref pq], M146)) rfl h154 rfl rfl ?_
          refine ps_st (S' := (82, [(0, .ref r), (1, .int (nI k)), (3, .int (nI (by1 f p))), (4, .int 0)], [.int (nI k), .ref pq], M146)) rfl rfl rfl ?_
          refine ps_st (S' := (83, [(0, .ref r), (1, .int (nI k)), (3, .int (nI (by1 f p))), (4, .int 0)], [.int (nI (by1 f p)), .int (nI k), .ref pq], M146)) rfl rfl rfl ?_
          refine ps_st (S' := (85, [(0, .ref r), (1, .int (nI k)), (3, .int (nI (by1 f p))), (4, .int 0)], [.int 0, .int (nI (by1 f p)), .int (nI k), .ref pq], M146)) rfl rfl rfl ?_
          refine pl_call (a := [.ref pq, .int (nI k), .int (nI (by1 f p)), .int 0]) (rest := []) rfl rfl rfl (dx_setNumbers h155 h156 h157 h158 (hD) (hh) (hk)) (fun v175 M176 q177 => ?_)
          obtain ⟨rfl, h178, h179, f180⟩ := q177
          have h182 := (f180.1 r (nin2 (ob_ar h148 h157) (ob_ar h148 h158))).trans h148
          have h183 := (f180.1 b (nin2 (ob_ar h152 h157) (ob_ar h152 h158))).trans h152
          have h184 := (f180.1 da (nin2 (ar_ne h153 h157 (by decide)) (ar_ne h153 h158 (by decide)))).trans h153
          have h185 := (f180.1 vd (nin2 (ob_ar h149 h157) (ob_ar h149 h158))).trans h149
          have h186 := (f180.1 c (nin2 (ob_ar h154 h157) (ob_ar h154 h158))).trans h154
          have h187 := (f180.1 pq (nin2 (ob_ar h155 h157) (ob_ar h155 h158))).trans h155
          have h188 := (f180.1 q1 (nin2 hD.1.2.1 hD.1.2.2.1)).trans h156
          have hF189 := hF159.tr f180 (by simp)
          show pl _ _ _ (88, [(0, .ref r), (1, .int (nI k)), (3, .int (nI (by1 f p))), (4, .int 0)], [], M176) _
          refine ps_st (S' := (89, [(0, .ref r), (1, .int (nI k)), (3, .int (nI (by1 f p))), (4, .int 0)], [.int 1], M176)) rfl rfl rfl ?_
          exact ps_ret rfl rfl (Or.inl ⟨p + 1, (by1 f p), 0, _, by
              unfold s_ix
              repeat' split
              all_goals first | rfl | (exfalso; omega), rfl, h182, h185, h178, h179, hF189⟩)
        · have c_37 : ¬ ((nI t) = 8) := of_decide_eq_false c_37
          have n_37 : ¬ (t = 8) := fun h9 => c_37 ((eq_nI (p := t) (n := 8) (by omega) (by decide)).mpr h9)
          refine ps_st (S' := (41, [(4, .int 0), (3, .int (nI (by1 f p))), (0, .ref r), (1, .int (nI k)), (2, .int (nI t))], [.int (nI t)], M146)) rfl rfl rfl ?_
          refine ps_st (S' := (43, [(4, .int 0), (3, .int (nI (by1 f p))), (0, .ref r), (1, .int (nI k)), (2, .int (nI t))], [.int 16, .int (nI t)], M146)) rfl rfl rfl ?_
          refine ps_if2 (S1 := (74, [(0, .ref r), (1, .int (nI k)), (3, .int (nI (by1 f p))), (4, .int 0)], [], M146)) (S2 := (46, [(4, .int 0), (3, .int (nI (by1 f p))), (0, .ref r), (1, .int (nI k)), (2, .int (nI t))], [], M146)) rfl rfl rfl (fun c_43 => ?_) (fun c_43 => ?_)
          · have c_43 : (nI t) = 16 := of_decide_eq_true c_43
            have n_43 : t = 16 := (eq_nI (p := t) (n := 16) (by omega) (by decide)).mp c_43
            refine ps_st (S' := (75, [(0, .ref r), (1, .int (nI k)), (3, .int (nI (by1 f p))), (4, .int 0)], [.ref r], M146)) rfl rfl rfl ?_
            refine ps_get (S' := (78, [(0, .ref r), (1, .int (nI k)), (3, .int (nI (by1 f p))), (4, .int 0)], [.ref c], M146)) rfl h148 rfl rfl ?_
            refine ps_get (S' := (81, [(0, .ref r), (1, .int (nI k)), (3, .int (nI (by1 f p))), (4, .int 0)], [.ref pq], M146)) rfl h154 rfl rfl ?_
            refine ps_st (S' := (82, [(0, .ref r), (1, .int (nI k)), (3, .int (nI (by1 f p))), (4, .int 0)], [.int (nI k), .ref pq], M146)) rfl rfl rfl ?_
            refine ps_st (S' := (83, [(0, .ref r), (1, .int (nI k)), (3, .int (nI (by1 f p))), (4, .int 0)], [.int (nI (by1 f p)), .int (nI k), .ref pq], M146)) rfl rfl rfl ?_
            refine ps_st (S' := (85, [(0, .ref r), (1, .int (nI k)), (3, .int (nI (by1 f p))), (4, .int 0)], [.int 0, .int (nI (by1 f p)), .int (nI k), .ref pq], M146)) rfl rfl rfl ?_
            refine pl_call (a := [.ref pq, .int (nI k), .int (nI (by1 f p)), .int 0]) (rest := []) rfl rfl rfl (dx_setNumbers h155 h156 h157 h158 (hD) (hh) (hk)) (fun v190 M191 q192 => ?_)
            obtain ⟨rfl, h193, h194, f195⟩ := q192
            have h197 := (f195.1 r (nin2 (ob_ar h148 h157) (ob_ar h148 h158))).trans h148
            have h198 := (f195.1 b (nin2 (ob_ar h152 h157) (ob_ar h152 h158))).trans h152
            have h199 := (f195.1 da (nin2 (ar_ne h153 h157 (by decide)) (ar_ne h153 h158 (by decide)))).trans h153
            have h200 := (f195.1 vd (nin2 (ob_ar h149 h157) (ob_ar h149 h158))).trans h149
            have h201 := (f195.1 c (nin2 (ob_ar h154 h157) (ob_ar h154 h158))).trans h154
            have h202 := (f195.1 pq (nin2 (ob_ar h155 h157) (ob_ar h155 h158))).trans h155
            have h203 := (f195.1 q1 (nin2 hD.1.2.1 hD.1.2.2.1)).trans h156
            have hF204 := hF159.tr f195 (by simp)
            show pl _ _ _ (88, [(0, .ref r), (1, .int (nI k)), (3, .int (nI (by1 f p))), (4, .int 0)], [], M191) _
            refine ps_st (S' := (89, [(0, .ref r), (1, .int (nI k)), (3, .int (nI (by1 f p))), (4, .int 0)], [.int 1], M191)) rfl rfl rfl ?_
            exact ps_ret rfl rfl (Or.inl ⟨p + 1, (by1 f p), 0, _, by
                unfold s_ix
                repeat' split
                all_goals first | rfl | (exfalso; omega), rfl, h197, h200, h193, h194, hF204⟩)
          · have c_43 : ¬ ((nI t) = 16) := of_decide_eq_false c_43
            have n_43 : ¬ (t = 16) := fun h9 => c_43 ((eq_nI (p := t) (n := 16) (by omega) (by decide)).mpr h9)
            refine ps_st (S' := (47, [(4, .int 0), (3, .int (nI (by1 f p))), (0, .ref r), (1, .int (nI k)), (2, .int (nI t))], [.int (nI t)], M146)) rfl rfl rfl ?_
            refine ps_st (S' := (49, [(4, .int 0), (3, .int (nI (by1 f p))), (0, .ref r), (1, .int (nI k)), (2, .int (nI t))], [.int 19, .int (nI t)], M146)) rfl rfl rfl ?_
            refine ps_if2 (S1 := (74, [(0, .ref r), (1, .int (nI k)), (3, .int (nI (by1 f p))), (4, .int 0)], [], M146)) (S2 := (52, [(4, .int 0), (3, .int (nI (by1 f p))), (0, .ref r), (1, .int (nI k)), (2, .int (nI t))], [], M146)) rfl rfl rfl (fun c_49 => ?_) (fun c_49 => ?_)
            · have c_49 : (nI t) = 19 := of_decide_eq_true c_49
              have n_49 : t = 19 := (eq_nI (p := t) (n := 19) (by omega) (by decide)).mp c_49
              refine ps_st (S' := (75, [(0, .ref r), (1, .int (nI k)), (3, .int (nI (by1 f p))), (4, .int 0)], [.ref r], M146)) rfl rfl rfl ?_
              refine ps_get (S' := (78, [(0, .ref r), (1, .int (nI k)), (3, .int (nI (by1 f p))), (4, .int 0)], [.ref c], M146)) rfl h148 rfl rfl ?_
              refine ps_get (S' := (81, [(0, .ref r), (1, .int (nI k)), (3, .int (nI (by1 f p))), (4, .int 0)], [.ref pq], M146)) rfl h154 rfl rfl ?_
              refine ps_st (S' := (82, [(0, .ref r), (1, .int (nI k)), (3, .int (nI (by1 f p))), (4, .int 0)], [.int (nI k), .ref pq], M146)) rfl rfl rfl ?_
              refine ps_st (S' := (83, [(0, .ref r), (1, .int (nI k)), (3, .int (nI (by1 f p))), (4, .int 0)], [.int (nI (by1 f p)), .int (nI k), .ref pq], M146)) rfl rfl rfl ?_
              refine ps_st (S' := (85, [(0, .ref r), (1, .int (nI k)), (3, .int (nI (by1 f p))), (4, .int 0)], [.int 0, .int (nI (by1 f p)), .int (nI k), .ref pq], M146)) rfl rfl rfl ?_
              refine pl_call (a := [.ref pq, .int (nI k), .int (nI (by1 f p)), .int 0]) (rest := []) rfl rfl rfl (dx_setNumbers h155 h156 h157 h158 (hD) (hh) (hk)) (fun v205 M206 q207 => ?_)
              obtain ⟨rfl, h208, h209, f210⟩ := q207
              have h212 := (f210.1 r (nin2 (ob_ar h148 h157) (ob_ar h148 h158))).trans h148
              have h213 := (f210.1 b (nin2 (ob_ar h152 h157) (ob_ar h152 h158))).trans h152
              have h214 := (f210.1 da (nin2 (ar_ne h153 h157 (by decide)) (ar_ne h153 h158 (by decide)))).trans h153
              have h215 := (f210.1 vd (nin2 (ob_ar h149 h157) (ob_ar h149 h158))).trans h149
              have h216 := (f210.1 c (nin2 (ob_ar h154 h157) (ob_ar h154 h158))).trans h154
              have h217 := (f210.1 pq (nin2 (ob_ar h155 h157) (ob_ar h155 h158))).trans h155
              have h218 := (f210.1 q1 (nin2 hD.1.2.1 hD.1.2.2.1)).trans h156
              have hF219 := hF159.tr f210 (by simp)
              show pl _ _ _ (88, [(0, .ref r), (1, .int (nI k)), (3, .int (nI (by1 f p))), (4, .int 0)], [], M206) _
              refine ps_st (S' := (89, [(0, .ref r), (1, .int (nI k)), (3, .int (nI (by1 f p))), (4, .int 0)], [.int 1], M206)) rfl rfl rfl ?_
              exact ps_ret rfl rfl (Or.inl ⟨p + 1, (by1 f p), 0, _, by
                  unfold s_ix
                  repeat' split
                  all_goals first | rfl | (exfalso; omega), rfl, h212, h215, h208, h209, hF219⟩)
            · have c_49 : ¬ ((nI t) = 19) := of_decide_eq_false c_49
              have n_49 : ¬ (t = 19) := fun h9 => c_49 ((eq_nI (p := t) (n := 19) (by omega) (by decide)).mpr h9)
              refine ps_st (S' := (53, [(4, .int 0), (3, .int (nI (by1 f p))), (0, .ref r), (1, .int (nI k)), (2, .int (nI t))], [.int (nI t)], M146)) rfl rfl rfl ?_
              refine ps_st (S' := (55, [(4, .int 0), (3, .int (nI (by1 f p))), (0, .ref r), (1, .int (nI k)), (2, .int (nI t))], [.int 20, .int (nI t)], M146)) rfl rfl rfl ?_
              refine ps_if2 (S1 := (74, [(0, .ref r), (1, .int (nI k)), (3, .int (nI (by1 f p))), (4, .int 0)], [], M146)) (S2 := (58, [(4, .int 0), (3, .int (nI (by1 f p))), (0, .ref r), (1, .int (nI k)), (2, .int (nI t))], [], M146)) rfl rfl rfl (fun c_55 => ?_) (fun c_55 => ?_)
              · have c_55 : (nI t) = 20 := of_decide_eq_true c_55
                have n_55 : t = 20 := (eq_nI (p := t) (n := 20) (by omega) (by decide)).mp c_55
                refine ps_st (S' := (75, [(0, .ref r), (1, .int (nI k)), (3, .int (nI (by1 f p))), (4, .int 0)], [.ref r], M146)) rfl rfl rfl ?_
                refine ps_get (S' := (78, [(0, .ref r), (1, .int (nI k)), (3, .int (nI (by1 f p))), (4, .int 0)], [.ref c], M146)) rfl h148 rfl rfl ?_
                refine ps_get (S' := (81, [(0, .ref r), (1, .int (nI k)), (3, .int (nI (by1 f p))), (4, .int 0)], [.ref pq], M146)) rfl h154 rfl rfl ?_
                refine ps_st (S' := (82, [(0, .ref r), (1, .int (nI k)), (3, .int (nI (by1 f p))), (4, .int 0)], [.int (nI k), .ref pq], M146)) rfl rfl rfl ?_
                refine ps_st (S' := (83, [(0, .ref r), (1, .int (nI k)), (3, .int (nI (by1 f p))), (4, .int 0)], [.int (nI (by1 f p)), .int (nI k), .ref pq], M146)) rfl rfl rfl ?_
                refine ps_st (S' := (85, [(0, .ref r), (1, .int (nI k)), (3, .int (nI (by1 f p))), (4, .int 0)], [.int 0, .int (nI (by1 f p)), .int (nI k), .ref pq], M146)) rfl rfl rfl ?_
                refine pl_call (a := [.ref pq, .int (nI k), .int (nI (by1 f p)), .int 0]) (rest := []) rfl rfl rfl (dx_setNumbers h155 h156 h157 h158 (hD) (hh) (hk)) (fun v220 M221 q222 => ?_)
                obtain ⟨rfl, h223, h224, f225⟩ := q222
                have h227 := (f225.1 r (nin2 (ob_ar h148 h157) (ob_ar h148 h158))).trans h148
                have h228 := (f225.1 b (nin2 (ob_ar h152 h157) (ob_ar h152 h158))).trans h152
                have h229 := (f225.1 da (nin2 (ar_ne h153 h157 (by decide)) (ar_ne h153 h158 (by decide)))).trans h153
                have h230 := (f225.1 vd (nin2 (ob_ar h149 h157) (ob_ar h149 h158))).trans h149
                have h231 := (f225.1 c (nin2 (ob_ar h154 h157) (ob_ar h154 h158))).trans h154
                have h232 := (f225.1 pq (nin2 (ob_ar h155 h157) (ob_ar h155 h158))).trans h155
                have h233 := (f225.1 q1 (nin2 hD.1.2.1 hD.1.2.2.1)).trans h156
                have hF234 := hF159.tr f225 (by simp)
                show pl _ _ _ (88, [(0, .ref r), (1, .int (nI k)), (3, .int (nI (by1 f p))), (4, .int 0)], [], M221) _
                refine ps_st (S' := (89, [(0, .ref r), (1, .int (nI k)), (3, .int (nI (by1 f p))), (4, .int 0)], [.int 1], M221)) rfl rfl rfl ?_
                exact ps_ret rfl rfl (Or.inl ⟨p + 1, (by1 f p), 0, _, by
                    unfold s_ix
                    repeat' split
                    all_goals first | rfl | (exfalso; omega), rfl, h227, h230, h223, h224, hF234⟩)
              · have c_55 : ¬ ((nI t) = 20) := of_decide_eq_false c_55
                have n_55 : ¬ (t = 20) := fun h9 => c_55 ((eq_nI (p := t) (n := 20) (by omega) (by decide)).mpr h9)
                refine ps_st (S' := (59, [(4, .int 0), (3, .int (nI (by1 f p))), (0, .ref r), (1, .int (nI k)), (2, .int (nI t))], [.ref r], M146)) rfl rfl rfl ?_
                refine ps_st (S' := (60, [(4, .int 0), (3, .int (nI (by1 f p))), (0, .ref r), (1, .int (nI k)), (2, .int (nI t))], [.int 2, .ref r], M146)) rfl rfl rfl ?_
                refine pl_call (a := [.ref r, .int 2]) (rest := []) rfl rfl rfl (dx_takes2 h148 h152 h153 h149 (hn) (by omega)) (fun v235 M236 q237 => ?_)
                rcases q237 with q237 | q237
                · skip
                  obtain ⟨q60_ok, rfl, h238, h239, f240⟩ := q237
                  have h242 := (f240.1 b (nin2 (ob_ne h152 h148 (by decide)) (ob_ne h152 h149 (by decide)))).trans h152
                  have h243 := (f240.1 da (nin2 (Ne.symm (ob_ar h148 h153)) (Ne.symm (ob_ar h149 h153)))).trans h153
                  have h244 := (f240.1 c (nin2 (ob_ne h154 h148 (by decide)) (ob_ne h154 h149 (by decide)))).trans h154
                  have h245 := (f240.1 pq (nin2 (ob_ne h155 h148 (by decide)) (ob_ne h155 h149 (by decide)))).trans h155
                  have h246 := (f240.1 q1 (nin2 (Ne.symm (ob_ar h148 h156)) (Ne.symm (ob_ar h149 h156)))).trans h156
                  have h247 := (f240.1 q3 (nin2 (Ne.symm (ob_ar h148 h157)) (Ne.symm (ob_ar h149 h157)))).trans h157
                  have h248 := (f240.1 q4 (nin2 (Ne.symm (ob_ar h148 h158)) (Ne.symm (ob_ar h149 h158)))).trans h158
                  have hF249 := hF159.tr f240 (by simp)
                  show pl _ _ _ (63, [(4, .int 0), (3, .int (nI (by1 f p))), (0, .ref r), (1, .int (nI k)), (2, .int (nI t))], [.int 1], M236) _
                  refine ps_if (S1 := (68, [(4, .int 0), (3, .int (nI (by1 f p))), (0, .ref r), (1, .int (nI k)), (2, .int (nI t))], [], M236)) (S2 := (66, [(4, .int 0), (3, .int (nI (by1 f p))), (0, .ref r), (1, .int (nI k)), (2, .int (nI t))], [], M236)) rfl rfl rfl (fun c_63 => ?_) (fun c_63 => ?_)
                  rotate_left
                  · exact absurd (by decide) (of_decide_eq_false c_63)
                  refine ps_st (S' := (69, [(4, .int 0), (3, .int (nI (by1 f p))), (0, .ref r), (1, .int (nI k)), (2, .int (nI t))], [.ref r], M236)) rfl rfl rfl ?_
                  refine ps_get (S' := (72, [(4, .int 0), (3, .int (nI (by1 f p))), (0, .ref r), (1, .int (nI k)), (2, .int (nI t))], [.int (nI (by2 f (p + 1)))], M236)) rfl h238 rfl rfl ?_
                  refine ps_st (S' := (74, [(0, .ref r), (1, .int (nI k)), (3, .int (nI (by1 f p))), (4, .int (nI (by2 f (p + 1))))], [], M236)) rfl rfl rfl ?_
                  refine ps_st (S' := (75, [(0, .ref r), (1, .int (nI k)), (3, .int (nI (by1 f p))), (4, .int (nI (by2 f (p + 1))))], [.ref r], M236)) rfl rfl rfl ?_
                  refine ps_get (S' := (78, [(0, .ref r), (1, .int (nI k)), (3, .int (nI (by1 f p))), (4, .int (nI (by2 f (p + 1))))], [.ref c], M236)) rfl h238 rfl rfl ?_
                  refine ps_get (S' := (81, [(0, .ref r), (1, .int (nI k)), (3, .int (nI (by1 f p))), (4, .int (nI (by2 f (p + 1))))], [.ref pq], M236)) rfl h244 rfl rfl ?_
                  refine ps_st (S' := (82, [(0, .ref r), (1, .int (nI k)), (3, .int (nI (by1 f p))), (4, .int (nI (by2 f (p + 1))))], [.int (nI k), .ref pq], M236)) rfl rfl rfl ?_
                  refine ps_st (S' := (83, [(0, .ref r), (1, .int (nI k)), (3, .int (nI (by1 f p))), (4, .int (nI (by2 f (p + 1))))], [.int (nI (by1 f p)), .int (nI k), .ref pq], M236)) rfl rfl rfl ?_
                  refine ps_st (S' := (85, [(0, .ref r), (1, .int (nI k)), (3, .int (nI (by1 f p))), (4, .int (nI (by2 f (p + 1))))], [.int (nI (by2 f (p + 1))), .int (nI (by1 f p)), .int (nI k), .ref pq], M236)) rfl rfl rfl ?_
                  refine pl_call (a := [.ref pq, .int (nI k), .int (nI (by1 f p)), .int (nI (by2 f (p + 1)))]) (rest := []) rfl rfl rfl (dx_setNumbers h245 h246 h247 h248 (hD) (hh) (hk)) (fun v250 M251 q252 => ?_)
                  obtain ⟨rfl, h253, h254, f255⟩ := q252
                  have h257 := (f255.1 r (nin2 (ob_ar h238 h247) (ob_ar h238 h248))).trans h238
                  have h258 := (f255.1 b (nin2 (ob_ar h242 h247) (ob_ar h242 h248))).trans h242
                  have h259 := (f255.1 da (nin2 (ar_ne h243 h247 (by decide)) (ar_ne h243 h248 (by decide)))).trans h243
                  have h260 := (f255.1 vd (nin2 (ob_ar h239 h247) (ob_ar h239 h248))).trans h239
                  have h261 := (f255.1 c (nin2 (ob_ar h244 h247) (ob_ar h244 h248))).trans h244
                  have h262 := (f255.1 pq (nin2 (ob_ar h245 h247) (ob_ar h245 h248))).trans h245
                  have h263 := (f255.1 q1 (nin2 hD.1.2.1 hD.1.2.2.1)).trans h246
                  have hF264 := hF249.tr f255 (by simp)
                  show pl _ _ _ (88, [(0, .ref r), (1, .int (nI k)), (3, .int (nI (by1 f p))), (4, .int (nI (by2 f (p + 1))))], [], M251) _
                  refine ps_st (S' := (89, [(0, .ref r), (1, .int (nI k)), (3, .int (nI (by1 f p))), (4, .int (nI (by2 f (p + 1))))], [.int 1], M251)) rfl rfl rfl ?_
                  exact ps_ret rfl rfl (Or.inl ⟨p + 3, (by1 f p), by2 f (p + 1), _, by
                      unfold s_ix
                      repeat' split
                      all_goals first | rfl | (exfalso; omega), rfl, h257, h260, h253, h254, hF264⟩)
                · skip
                  obtain ⟨q60_no, rfl, h265, h266, f267⟩ := q237
                  have h269 := (f267.1 b (nin2 (ob_ne h152 h148 (by decide)) (ob_ne h152 h149 (by decide)))).trans h152
                  have h270 := (f267.1 da (nin2 (Ne.symm (ob_ar h148 h153)) (Ne.symm (ob_ar h149 h153)))).trans h153
                  have h271 := (f267.1 c (nin2 (ob_ne h154 h148 (by decide)) (ob_ne h154 h149 (by decide)))).trans h154
                  have h272 := (f267.1 pq (nin2 (ob_ne h155 h148 (by decide)) (ob_ne h155 h149 (by decide)))).trans h155
                  have h273 := (f267.1 q1 (nin2 (Ne.symm (ob_ar h148 h156)) (Ne.symm (ob_ar h149 h156)))).trans h156
                  have h274 := (f267.1 q3 (nin2 (Ne.symm (ob_ar h148 h157)) (Ne.symm (ob_ar h149 h157)))).trans h157
                  have h275 := (f267.1 q4 (nin2 (Ne.symm (ob_ar h148 h158)) (Ne.symm (ob_ar h149 h158)))).trans h158
                  have hF276 := hF159.tr f267 (by simp)
                  show pl _ _ _ (63, [(4, .int 0), (3, .int (nI (by1 f p))), (0, .ref r), (1, .int (nI k)), (2, .int (nI t))], [.int 0], M236) _
                  refine ps_if (S1 := (68, [(4, .int 0), (3, .int (nI (by1 f p))), (0, .ref r), (1, .int (nI k)), (2, .int (nI t))], [], M236)) (S2 := (66, [(4, .int 0), (3, .int (nI (by1 f p))), (0, .ref r), (1, .int (nI k)), (2, .int (nI t))], [], M236)) rfl rfl rfl (fun c_63 => ?_) (fun c_63 => ?_)
                  · exact absurd (of_decide_eq_true c_63) (by decide)
                  refine ps_st (S' := (67, [(4, .int 0), (3, .int (nI (by1 f p))), (0, .ref r), (1, .int (nI k)), (2, .int (nI t))], [.int 0], M236)) rfl rfl rfl ?_
                  exact ps_ret rfl rfl (Or.inr ⟨(1, p + 1), by
                      unfold s_ix
                      repeat' split
                      all_goals first | rfl | (exfalso; omega), rfl, h266, hF276⟩)
    · skip
      obtain ⟨q12_no, rfl, h277, h278, f279⟩ := q147
      have h281 := (f279.1 b (nin2 (ob_ne h_b h_r (by decide)) (ob_ne h_b h_vd (by decide)))).trans h_b
      have h282 := (f279.1 da (nin2 (Ne.symm (ob_ar h_r h_da)) (Ne.symm (ob_ar h_vd h_da)))).trans h_da
      have h283 := (f279.1 c (nin2 (ob_ne h_c h_r (by decide)) (ob_ne h_c h_vd (by decide)))).trans h_c
      have h284 := (f279.1 pq (nin2 (ob_ne h_pq h_r (by decide)) (ob_ne h_pq h_vd (by decide)))).trans h_pq
      have h285 := (f279.1 q1 (nin2 (Ne.symm (ob_ar h_r h_q1)) (Ne.symm (ob_ar h_vd h_q1)))).trans h_q1
      have h286 := (f279.1 q3 (nin2 (Ne.symm (ob_ar h_r h_q3)) (Ne.symm (ob_ar h_vd h_q3)))).trans h_q3
      have h287 := (f279.1 q4 (nin2 (Ne.symm (ob_ar h_r h_q4)) (Ne.symm (ob_ar h_vd h_q4)))).trans h_q4
      have hF288 := hF.tr f279 (by simp)
      show pl _ _ _ (15, [(0, .ref r), (1, .int (nI k)), (2, .int (nI t))], [.int 0], M146) _
      refine ps_if (S1 := (20, [(0, .ref r), (1, .int (nI k)), (2, .int (nI t))], [], M146)) (S2 := (18, [(0, .ref r), (1, .int (nI k)), (2, .int (nI t))], [], M146)) rfl rfl rfl (fun c_15 => ?_) (fun c_15 => ?_)
      · exact absurd (of_decide_eq_true c_15) (by decide)
      refine ps_st (S' := (19, [(0, .ref r), (1, .int (nI k)), (2, .int (nI t))], [.int 0], M146)) rfl rfl rfl ?_
      exact ps_ret rfl rfl (Or.inr ⟨(1, p), by
          unfold s_ix
          repeat' split
          all_goals first | rfl | (exfalso; omega), rfl, h278, hF288⟩)
theorem s_ix_le {f : Nat → Int32} {n t p p' x y : Nat} (h : s_ix f n t (p + 1) = .inr (p', x, y)) : p + 3 ≤ p' ∧ p' ≤ n := by
  unfold s_ix at h
  repeat' split at h
  all_goals first | (cases h; omega) | cases h
set_option maxHeartbeats 1000000 in
theorem dx_takesEntry {g : xe_G} {M : mi_H} {r c b vd da n p mj N : Nat} {f : Nat → Int32} {it ru wa mi fa ic ac aa k1 k2 k3 k4 k5 k6 k7 : Int32} {u6 u7 : Value} {pq q1 q2 q3 q4 q5 q6 hd m cc : Nat} {F1 F2 F3 F4 F6 : Nat → Int32} {k : Nat} (h_r : M.1 r = some (ob 9 [.ref c, .ref b, .ref vd, .int (nI p), .int it])) (h_b : M.1 b = some (ob 1 [.ref da])) (h_da : M.1 da = some (ar .byte n f)) (h_vd : M.1 vd = some (ob 10 [.int ru, .int wa])) (h_c : M.1 c = some (ob 3 [.ref b, .ref pq, .int mi, .int (nI mj), .int fa, .int ic, u6, u7, .int ac, .int aa, .int k1, .int k2, .int k3, .int k4, .int k5, .int k6, .int k7])) (h_pq : M.1 pq = some (ob 7 [.int (nI N), .ref q1, .ref q2, .ref q3, .ref q4, .ref q5, .ref q6, .int (nI cc)])) (h_q1 : M.1 q1 = some (ar .int hd F1)) (h_q3 : M.1 q3 = some (ar .int hd F3)) (h_q4 : M.1 q4 = some (ar .int hd F4)) (h_q2 : M.1 q2 = some (ar .int hd F2)) (h_q6 : M.1 q6 = some (ar .char m F6)) (hn : n ≤ 65540) (hp : p ≤ n) (hD : dst5 q1 q2 q3 q4 q5) (hh : hd < 1073741824) (hm : m = n) (hc : cc ≤ p) (hN : N < 65536) (hj : mj < 65536) (hk : k < N) (hk3 : p + 1 ≤ n → k < hd) : pt (mT g) 163 [.ref r, .int (nI k)] M (fun v M' => (∃ (p' : Nat) (l : List Nat) (it' : Int32), (s_entry f n mj N k p = .inr (p', .inl l)) ∧ (cc + l.length ≤ p') ∧ (p + 3 ≤ p' ∧ p' ≤ n) ∧ v = some (.int 1) ∧ M'.1 q1 = some (ar .int hd (upd F1 k (nI (by1 f p)))) ∧ M'.1 q2 = some (ar .int hd (upd F2 k (nI p))) ∧ M'.1 r = some (ob 9 [.ref c, .ref b, .ref vd, .int (nI p'), .int it']) ∧ M'.1 vd = some (ob 10 [.int ru, .int wa]) ∧ M'.1 pq = some (ob 7 [.int (nI N), .ref q1, .ref q2, .ref q3, .ref q4, .ref q5, .ref q6, .int (nI (cc + l.length))]) ∧ M'.1 q3 = some (ar .int hd (upd F3 k (nI cc))) ∧ M'.1 q4 = some (ar .int hd (upd F4 k (nI l.length))) ∧ M'.1 q6 = some (ar .char m (wr F6 cc l)) ∧ fm [r, vd, pq, q1, q2, q3, q4, q6] M M') ∨ (∃ (p' : Nat) (it' : Int32), (s_entry f n mj N k p = .inr (p', .inr none)) ∧ (p + 3 ≤ p' ∧ p' ≤ n) ∧ v = some (.int 1) ∧ M'.1 q1 = some (ar .int hd (upd F1 k (nI (by1 f p)))) ∧ M'.1 q2 = some (ar .int hd (upd F2 k (nI p))) ∧ M'.1 r = some (ob 9 [.ref c, .ref b, .ref vd, .int (nI p'), .int it']) ∧ M'.1 vd = some (ob 10 [.int ru, .int wa]) ∧ M'.1 pq = some (ob 7 [.int (nI N), .ref q1, .ref q2, .ref q3, .ref q4, .ref q5, .ref q6, .int (nI cc)]) ∧ M'.1 q3 = some (ar .int hd F3) ∧ M'.1 q4 = some (ar .int hd F4) ∧ M'.1 q6 = some (ar .char m F6) ∧ fm [r, vd, pq, q1, q2, q3, q4, q6] M M') ∨ (∃ (p' x y : Nat) (it' : Int32), (s_entry f n mj N k p = .inr (p', .inr (some (x, y)))) ∧ (p + 3 ≤ p' ∧ p' ≤ n) ∧ v = some (.int 1) ∧ M'.1 q1 = some (ar .int hd (upd F1 k (nI (by1 f p)))) ∧ M'.1 q2 = some (ar .int hd (upd F2 k (nI p))) ∧ M'.1 r = some (ob 9 [.ref c, .ref b, .ref vd, .int (nI p'), .int it']) ∧ M'.1 vd = some (ob 10 [.int ru, .int wa]) ∧ M'.1 pq = some (ob 7 [.int (nI N), .ref q1, .ref q2, .ref q3, .ref q4, .ref q5, .ref q6, .int (nI cc)]) ∧ M'.1 q3 = some (ar .int hd (upd F3 k (nI x))) ∧ M'.1 q4 = some (ar .int hd (upd F4 k (nI y))) ∧ M'.1 q6 = some (ar .char m F6) ∧ fm [r, vd, pq, q1, q2, q3, q4, q6] M M') ∨ (∃ (e : Nat × Nat), (s_entry f n mj N k p = .inl e) ∧ v = some (.int 0) ∧ M'.1 vd = some (ob 10 [.int (nI e.1), .int (nI e.2)]) ∧ fm [r, vd, pq, q1, q2, q3, q4, q6] M M')) := by
  refine pt_in (b := mb_163 g) rfl (fun kf => ?_)
  show pl (mT g) kf (mb_163 g).2 (0, [(0, .ref r), (1, .int (nI k))], [], M) _
  have hF : fm [r, vd, pq, q1, q2, q3, q4, q6] M M := fm.rf
  have hb1 := by1_lt f p
  have hb2 := by2_lt f (p + 1)
  refine ps_st (S' := (1, [(0, .ref r), (1, .int (nI k))], [.ref r], M)) rfl rfl rfl ?_
  refine ps_get (S' := (4, [(0, .ref r), (1, .int (nI k))], [.int (nI p)], M)) rfl h_r rfl rfl ?_
  refine ps_st (S' := (5, [(2, .int (nI p)), (0, .ref r), (1, .int (nI k))], [], M)) rfl rfl rfl ?_
  refine ps_st (S' := (6, [(2, .int (nI p)), (0, .ref r), (1, .int (nI k))], [.ref r], M)) rfl rfl rfl ?_
  refine ps_st (S' := (7, [(2, .int (nI p)), (0, .ref r), (1, .int (nI k))], [.int 1, .ref r], M)) rfl rfl rfl ?_
  refine pl_call (a := [.ref r, .int 1]) (rest := []) rfl rfl rfl (dx_takes1 h_r h_b h_da h_vd (hn) (by omega)) (fun v1 M2 q3 => ?_)
  rcases q3 with q3 | q3
  · skip
    obtain ⟨q7_ok, rfl, h4, h5, f6⟩ := q3
    have h8 := (f6.1 b (nin2 (ob_ne h_b h_r (by decide)) (ob_ne h_b h_vd (by decide)))).trans h_b
    have h9 := (f6.1 da (nin2 (Ne.symm (ob_ar h_r h_da)) (Ne.symm (ob_ar h_vd h_da)))).trans h_da
    have h10 := (f6.1 c (nin2 (ob_ne h_c h_r (by decide)) (ob_ne h_c h_vd (by decide)))).trans h_c
    have h11 := (f6.1 pq (nin2 (ob_ne h_pq h_r (by decide)) (ob_ne h_pq h_vd (by decide)))).trans h_pq
    have h12 := (f6.1 q1 (nin2 (Ne.symm (ob_ar h_r h_q1)) (Ne.symm (ob_ar h_vd h_q1)))).trans h_q1
    have h13 := (f6.1 q3 (nin2 (Ne.symm (ob_ar h_r h_q3)) (Ne.symm (ob_ar h_vd h_q3)))).trans h_q3
    have h14 := (f6.1 q4 (nin2 (Ne.symm (ob_ar h_r h_q4)) (Ne.symm (ob_ar h_vd h_q4)))).trans h_q4
    have h15 := (f6.1 q2 (nin2 (Ne.symm (ob_ar h_r h_q2)) (Ne.symm (ob_ar h_vd h_q2)))).trans h_q2
    have h16 := (f6.1 q6 (nin2 (Ne.symm (ob_ar h_r h_q6)) (Ne.symm (ob_ar h_vd h_q6)))).trans h_q6
    have hF17 := hF.tr f6 (by simp)
    show pl _ _ _ (10, [(2, .int (nI p)), (0, .ref r), (1, .int (nI k))], [.int 1], M2) _
    refine ps_if (S1 := (15, [(2, .int (nI p)), (0, .ref r), (1, .int (nI k))], [], M2)) (S2 := (13, [(2, .int (nI p)), (0, .ref r), (1, .int (nI k))], [], M2)) rfl rfl rfl (fun c_10 => ?_) (fun c_10 => ?_)
    rotate_left
    · exact absurd (by decide) (of_decide_eq_false c_10)
    refine ps_st (S' := (16, [(2, .int (nI p)), (0, .ref r), (1, .int (nI k))], [.ref r], M2)) rfl rfl rfl ?_
    refine ps_get (S' := (19, [(2, .int (nI p)), (0, .ref r), (1, .int (nI k))], [.int (nI (by1 f p))], M2)) rfl h4 rfl rfl ?_
    refine ps_st (S' := (20, [(3, .int (nI (by1 f p))), (2, .int (nI p)), (0, .ref r), (1, .int (nI k))], [], M2)) rfl rfl rfl ?_
    refine ps_st (S' := (21, [(3, .int (nI (by1 f p))), (2, .int (nI p)), (0, .ref r), (1, .int (nI k))], [.ref r], M2)) rfl rfl rfl ?_
    refine ps_st (S' := (22, [(3, .int (nI (by1 f p))), (2, .int (nI p)), (0, .ref r), (1, .int (nI k))], [.int (nI (by1 f p)), .ref r], M2)) rfl rfl rfl ?_
    refine pl_call (a := [.ref r, .int (nI (by1 f p))]) (rest := []) rfl rfl rfl (dx_isTag h4 h10 (by1_lt _ _) (hj)) (fun v18 M19 q20 => ?_)
    rcases q20 with q20 | q20
    · skip
      obtain ⟨q22_y, rfl, f21⟩ := q20
      have h23 := (f21.1 r (by simp)).trans h4
      have h24 := (f21.1 b (by simp)).trans h8
      have h25 := (f21.1 da (by simp)).trans h9
      have h26 := (f21.1 vd (by simp)).trans h5
      have h27 := (f21.1 c (by simp)).trans h10
      have h28 := (f21.1 pq (by simp)).trans h11
      have h29 := (f21.1 q1 (by simp)).trans h12
      have h30 := (f21.1 q3 (by simp)).trans h13
      have h31 := (f21.1 q4 (by simp)).trans h14
      have h32 := (f21.1 q2 (by simp)).trans h15
      have h33 := (f21.1 q6 (by simp)).trans h16
      have hF34 := hF17.tr f21 (by simp)
      show pl _ _ _ (25, [(3, .int (nI (by1 f p))), (2, .int (nI p)), (0, .ref r), (1, .int (nI k))], [.int 1], M19) _
      refine ps_if (S1 := (38, [(3, .int (nI (by1 f p))), (2, .int (nI p)), (0, .ref r), (1, .int (nI k))], [], M19)) (S2 := (28, [(3, .int (nI (by1 f p))), (2, .int (nI p)), (0, .ref r), (1, .int (nI k))], [], M19)) rfl rfl rfl (fun c_25 => ?_) (fun c_25 => ?_)
      rotate_left
      · exact absurd (by decide) (of_decide_eq_false c_25)
      refine ps_st (S' := (39, [(3, .int (nI (by1 f p))), (2, .int (nI p)), (0, .ref r), (1, .int (nI k))], [.int (nI (by1 f p))], M19)) rfl rfl rfl ?_
      refine ps_st (S' := (40, [(3, .int (nI (by1 f p))), (2, .int (nI p)), (0, .ref r), (1, .int (nI k))], [.int 5, .int (nI (by1 f p))], M19)) rfl rfl rfl ?_
      refine ps_if2 (S1 := (49, [(0, .ref r), (1, .int (nI k)), (2, .int (nI p)), (3, .int (nI (by1 f p)))], [], M19)) (S2 := (43, [(3, .int (nI (by1 f p))), (2, .int (nI p)), (0, .ref r), (1, .int (nI k))], [], M19)) rfl rfl rfl (fun c_40 => ?_) (fun c_40 => ?_)
      · have c_40 : (nI (by1 f p)) = 5 := of_decide_eq_true c_40
        have n_40 : by1 f p = 5 := (eq_nI (p := by1 f p) (n := 5) (Nat.lt_trans (by1_lt _ _) (by decide)) (by decide)).mp c_40
        refine ps_st (S' := (50, [(0, .ref r), (1, .int (nI k)), (2, .int (nI p)), (3, .int (nI (by1 f p)))], [.int (nI k)], M19)) rfl rfl rfl ?_
        refine ps_st (S' := (51, [(0, .ref r), (1, .int (nI k)), (2, .int (nI p)), (3, .int (nI (by1 f p)))], [.int 1, .int (nI k)], M19)) rfl rfl rfl ?_
        refine ps_st (S' := (52, [(0, .ref r), (1, .int (nI k)), (2, .int (nI p)), (3, .int (nI (by1 f p)))], [.int ((nI k) + 1)], M19)) rfl rfl rfl ?_
        rw [nI_add1 (p := k) (k := 1) (x := 1) rfl (by omega)]
        show pl _ _ _ (_, [(0, .ref r), (1, .int (nI k)), (2, .int (nI p)), (3, .int (nI (by1 f p)))], [.int (nI (k + 1))], M19) _
        refine ps_st (S' := (53, [(0, .ref r), (1, .int (nI k)), (2, .int (nI p)), (3, .int (nI (by1 f p)))], [.ref r, .int (nI (k + 1))], M19)) rfl rfl rfl ?_
        refine ps_get (S' := (56, [(0, .ref r), (1, .int (nI k)), (2, .int (nI p)), (3, .int (nI (by1 f p)))], [.ref c, .int (nI (k + 1))], M19)) rfl h23 rfl rfl ?_
        refine ps_get (S' := (59, [(0, .ref r), (1, .int (nI k)), (2, .int (nI p)), (3, .int (nI (by1 f p)))], [.ref pq, .int (nI (k + 1))], M19)) rfl h27 rfl rfl ?_
        refine ps_get (S' := (62, [(0, .ref r), (1, .int (nI k)), (2, .int (nI p)), (3, .int (nI (by1 f p)))], [.int (nI N), .int (nI (k + 1))], M19)) rfl h28 rfl rfl ?_
        refine ps_if2 (S1 := (76, [(0, .ref r), (1, .int (nI k)), (2, .int (nI p)), (3, .int (nI (by1 f p)))], [], M19)) (S2 := (65, [(0, .ref r), (1, .int (nI k)), (2, .int (nI p)), (3, .int (nI (by1 f p)))], [], M19)) rfl rfl rfl (fun c_62 => ?_) (fun c_62 => ?_)
        · have c_62 : (nI (k + 1)) < (nI N) := of_decide_eq_true c_62
          have n_62 : k + 1 < N := (lt_nI (p := k + 1) (n := N) (by omega) (by omega)).mp c_62
          refine ps_st (S' := (77, [(0, .ref r), (1, .int (nI k)), (2, .int (nI p)), (3, .int (nI (by1 f p)))], [.ref r], M19)) rfl rfl rfl ?_
          refine ps_get (S' := (80, [(0, .ref r), (1, .int (nI k)), (2, .int (nI p)), (3, .int (nI (by1 f p)))], [.ref c], M19)) rfl h23 rfl rfl ?_
          refine ps_get (S' := (83, [(0, .ref r), (1, .int (nI k)), (2, .int (nI p)), (3, .int (nI (by1 f p)))], [.ref pq], M19)) rfl h27 rfl rfl ?_
          refine ps_st (S' := (84, [(0, .ref r), (1, .int (nI k)), (2, .int (nI p)), (3, .int (nI (by1 f p)))], [.int (nI k), .ref pq], M19)) rfl rfl rfl ?_
          refine ps_st (S' := (85, [(0, .ref r), (1, .int (nI k)), (2, .int (nI p)), (3, .int (nI (by1 f p)))], [.int (nI (by1 f p)), .int (nI k), .ref pq], M19)) rfl rfl rfl ?_
          refine ps_st (S' := (86, [(0, .ref r), (1, .int (nI k)), (2, .int (nI p)), (3, .int (nI (by1 f p)))], [.int (nI p), .int (nI (by1 f p)), .int (nI k), .ref pq], M19)) rfl rfl rfl ?_
          refine pl_call (a := [.ref pq, .int (nI k), .int (nI (by1 f p)), .int (nI p)]) (rest := []) rfl rfl rfl (dx_setTag h28 h29 h32 (hD) (hh) (hk3 (by omega))) (fun v35 M36 q37 => ?_)
          obtain ⟨rfl, h38, h39, f40⟩ := q37
          have h42 := (f40.1 r (nin2 (ob_ar h23 h29) (ob_ar h23 h32))).trans h23
          have h43 := (f40.1 b (nin2 (ob_ar h24 h29) (ob_ar h24 h32))).trans h24
          have h44 := (f40.1 da (nin2 (ar_ne h25 h29 (by decide)) (ar_ne h25 h32 (by decide)))).trans h25
          have h45 := (f40.1 vd (nin2 (ob_ar h26 h29) (ob_ar h26 h32))).trans h26
          have h46 := (f40.1 c (nin2 (ob_ar h27 h29) (ob_ar h27 h32))).trans h27
          have h47 := (f40.1 pq (nin2 (ob_ar h28 h29) (ob_ar h28 h32))).trans h28
          have h48 := (f40.1 q3 (nin2 (Ne.symm hD.1.2.1) (Ne.symm hD.2.1.1))).trans h30
          have h49 := (f40.1 q4 (nin2 (Ne.symm hD.1.2.2.1) (Ne.symm hD.2.1.2.1))).trans h31
          have h50 := (f40.1 q6 (nin2 (ar_ne h33 h29 (by decide)) (ar_ne h33 h32 (by decide)))).trans h33
          have hF51 := hF34.tr f40 (by simp)
          show pl _ _ _ (89, [(0, .ref r), (1, .int (nI k)), (2, .int (nI p)), (3, .int (nI (by1 f p)))], [], M36) _
          refine ps_st (S' := (90, [(0, .ref r), (1, .int (nI k)), (2, .int (nI p)), (3, .int (nI (by1 f p)))], [.int (nI (by1 f p))], M36)) rfl rfl rfl ?_
          refine pl_sw rfl (fun t_90 et_90 => ?_)
          have ht_90 : t_90 ∈ [128, 134, 140, 162] := mi_sw_sub et_90 (by decide)
          simp only [List.mem_cons, List.not_mem_nil, or_false] at ht_90
          rcases ht_90 with rfl | rfl | rfl | rfl
          · show pl _ _ _ (128, [(0, .ref r), (1, .int (nI k)), (2, .int (nI p)), (3, .int (nI (by1 f p)))], [], M36) _
            have m_90 := sw_nat (t := by1 f p) (by omega) et_90
            simp at m_90
            refine ps_st (S' := (129, [(0, .ref r), (1, .int (nI k)), (2, .int (nI p)), (3, .int (nI (by1 f p)))], [.ref r], M36)) rfl rfl rfl ?_
            refine ps_st (S' := (130, [(0, .ref r), (1, .int (nI k)), (2, .int (nI p)), (3, .int (nI (by1 f p)))], [.int (nI k), .ref r], M36)) rfl rfl rfl ?_
            refine pl_call (a := [.ref r, .int (nI k)]) (rest := []) rfl rfl rfl (dx_takesText h42 h43 h44 h45 h46 h47 h38 h48 h49 h50 (hn) (by omega) (hD) (hh) (hm) (hk3 (by omega)) (by omega)) (fun v52 M53 q54 => ?_)
            rcases q54 with q54 | q54
            · skip
              obtain ⟨l55, it'56, q130_s, q130_e, q130_c, rfl, h57, h58, h59, h60, h61, h62, f63⟩ := q54
              have h65 := (f63.1 b (nin6 (ob_ne h43 h42 (by decide)) (ob_ne h43 h45 (by decide)) (ob_ne h43 h47 (by decide)) (ob_ar h43 h48) (ob_ar h43 h49) (ob_ar h43 h50))).trans h43
              have h66 := (f63.1 da (nin6 (Ne.symm (ob_ar h42 h44)) (Ne.symm (ob_ar h45 h44)) (Ne.symm (ob_ar h47 h44)) (ar_ne h44 h48 (by decide)) (ar_ne h44 h49 (by decide)) (ar_ne h44 h50 (by decide)))).trans h44
              have h67 := (f63.1 c (nin6 (ob_ne h46 h42 (by decide)) (ob_ne h46 h45 (by decide)) (ob_ne h46 h47 (by decide)) (ob_ar h46 h48) (ob_ar h46 h49) (ob_ar h46 h50))).trans h46
              have h68 := (f63.1 q1 (nin6 (Ne.symm (ob_ar h42 h38)) (Ne.symm (ob_ar h45 h38)) (Ne.symm (ob_ar h47 h38)) hD.1.2.1 hD.1.2.2.1 (ar_ne h38 h50 (by decide)))).trans h38
              have h69 := (f63.1 q2 (nin6 (Ne.symm (ob_ar h42 h39)) (Ne.symm (ob_ar h45 h39)) (Ne.symm (ob_ar h47 h39)) hD.2.1.1 hD.2.1.2.1 (ar_ne h39 h50 (by decide)))).trans h39
              have hF70 := hF51.tr f63 (by simp)
              show pl _ _ _ (133, [(0, .ref r), (1, .int (nI k)), (2, .int (nI p)), (3, .int (nI (by1 f p)))], [.int 1], M53) _
              exact ps_ret rfl rfl (Or.inl ⟨_, l55, _, by
                  unfold s_entry
                  rw [if_neg (by omega), if_neg (fun h => h (by assumption)), if_neg (by omega)]
                  rw [if_pos (by omega), q130_s], by omega, by omega, rfl, h68, h69, h57, h58, h59, h60, h61, h62, hF70⟩)
            · skip
              obtain ⟨e71, q130_s, rfl, h72, f73⟩ := q54
              have h75 := (f73.1 b (nin6 (ob_ne h43 h42 (by decide)) (ob_ne h43 h45 (by decide)) (ob_ne h43 h47 (by decide)) (ob_ar h43 h48) (ob_ar h43 h49) (ob_ar h43 h50))).trans h43
              have h76 := (f73.1 da (nin6 (Ne.symm (ob_ar h42 h44)) (Ne.symm (ob_ar h45 h44)) (Ne.symm (ob_ar h47 h44)) (ar_ne h44 h48 (by decide)) (ar_ne h44 h49 (by decide)) (ar_ne h44 h50 (by decide)))).trans h44
              have h77 := (f73.1 c (nin6 (ob_ne h46 h42 (by decide)) (ob_ne h46 h45 (by decide)) (ob_ne h46 h47 (by decide)) (ob_ar h46 h48) (ob_ar h46 h49) (ob_ar h46 h50))).trans h46
              have h78 := (f73.1 q1 (nin6 (Ne.symm (ob_ar h42 h38)) (Ne.symm (ob_ar h45 h38)) (Ne.symm (ob_ar h47 h38)) hD.1.2.1 hD.1.2.2.1 (ar_ne h38 h50 (by decide)))).trans h38
              have h79 := (f73.1 q2 (nin6 (Ne.symm (ob_ar h42 h39)) (Ne.symm (ob_ar h45 h39)) (Ne.symm (ob_ar h47 h39)) hD.2.1.1 hD.2.1.2.1 (ar_ne h39 h50 (by decide)))).trans h39
              have hF80 := hF51.tr f73 (by simp)
              show pl _ _ _ (133, [(0, .ref r), (1, .int (nI k)), (2, .int (nI p)), (3, .int (nI (by1 f p)))], [.int 0], M53) _
              exact ps_ret rfl rfl (Or.inr (Or.inr (Or.inr ⟨_, by
                  unfold s_entry
                  rw [if_neg (by omega), if_neg (fun h => h (by assumption)), if_neg (by omega)]
                  rw [if_pos (by omega), q130_s], rfl, h72, hF80⟩)))
          · show pl _ _ _ (134, [(0, .ref r), (1, .int (nI k)), (2, .int (nI p)), (3, .int (nI (by1 f p)))], [], M36) _
            have m_90 := sw_nat (t := by1 f p) (by omega) et_90
            simp at m_90
            refine ps_st (S' := (135, [(0, .ref r), (1, .int (nI k)), (2, .int (nI p)), (3, .int (nI (by1 f p)))], [.ref r], M36)) rfl rfl rfl ?_
            refine ps_st (S' := (136, [(0, .ref r), (1, .int (nI k)), (2, .int (nI p)), (3, .int (nI (by1 f p)))], [.int 4, .ref r], M36)) rfl rfl rfl ?_
            refine pl_call (a := [.ref r, .int 4]) (rest := []) rfl rfl rfl (dx_takes4 h42 h43 h44 h45 (hn) (by omega)) (fun v81 M82 q83 => ?_)
            rcases q83 with q83 | q83
            · skip
              obtain ⟨q136_ok, rfl, h84, h85, f86⟩ := q83
              have h88 := (f86.1 b (nin2 (ob_ne h43 h42 (by decide)) (ob_ne h43 h45 (by decide)))).trans h43
              have h89 := (f86.1 da (nin2 (Ne.symm (ob_ar h42 h44)) (Ne.symm (ob_ar h45 h44)))).trans h44
              have h90 := (f86.1 c (nin2 (ob_ne h46 h42 (by decide)) (ob_ne h46 h45 (by decide)))).trans h46
              have h91 := (f86.1 pq (nin2 (ob_ne h47 h42 (by decide)) (ob_ne h47 h45 (by decide)))).trans h47
              have h92 := (f86.1 q1 (nin2 (Ne.symm (ob_ar h42 h38)) (Ne.symm (ob_ar h45 h38)))).trans h38
              have h93 := (f86.1 q3 (nin2 (Ne.symm (ob_ar h42 h48)) (Ne.symm (ob_ar h45 h48)))).trans h48
              have h94 := (f86.1 q4 (nin2 (Ne.symm (ob_ar h42 h49)) (Ne.symm (ob_ar h45 h49)))).trans h49
              have h95 := (f86.1 q2 (nin2 (Ne.symm (ob_ar h42 h39)) (Ne.symm (ob_ar h45 h39)))).trans h39
              have h96 := (f86.1 q6 (nin2 (Ne.symm (ob_ar h42 h50)) (Ne.symm (ob_ar h45 h50)))).trans h50
              have hF97 := hF51.tr f86 (by simp)
              show pl _ _ _ (139, [(0, .ref r), (1, .int (nI k)), (2, .int (nI p)), (3, .int (nI (by1 f p)))], [.int 1], M82) _
              exact ps_ret rfl rfl (Or.inr (Or.inl ⟨p + 5, _, by
                  unfold s_entry
                  rw [if_neg (by omega), if_neg (fun h => h (by assumption)), if_neg (by omega)]
                  repeat' split
                  all_goals first | rfl | (exfalso; omega), by omega, rfl, h92, h95, h84, h85, h91, h93, h94, h96, hF97⟩))
            · skip
              obtain ⟨q136_no, rfl, h98, h99, f100⟩ := q83
              have h102 := (f100.1 b (nin2 (ob_ne h43 h42 (by decide)) (ob_ne h43 h45 (by decide)))).trans h43
              have h103 := (f100.1 da (nin2 (Ne.symm (ob_ar h42 h44)) (Ne.symm (ob_ar h45 h44)))).trans h44
              have h104 := (f100.1 c (nin2 (ob_ne h46 h42 (by decide)) (ob_ne h46 h45 (by decide)))).trans h46
              have h105 := (f100.1 pq (nin2 (ob_ne h47 h42 (by decide)) (ob_ne h47 h45 (by decide)))).trans h47
              have h106 := (f100.1 q1 (nin2 (Ne.symm (ob_ar h42 h38)) (Ne.symm (ob_ar h45 h38)))).trans h38
              have h107 := (f100.1 q3 (nin2 (Ne.symm (ob_ar h42 h48)) (Ne.symm (ob_ar h45 h48)))).trans h48
              have h108 := (f100.1 q4 (nin2 (Ne.symm (ob_ar h42 h49)) (Ne.symm (ob_ar h45 h49)))).trans h49
              have h109 := (f100.1 q2 (nin2 (Ne.symm (ob_ar h42 h39)) (Ne.symm (ob_ar h45 h39)))).trans h39
              have h110 := (f100.1 q6 (nin2 (Ne.symm (ob_ar h42 h50)) (Ne.symm (ob_ar h45 h50)))).trans h50
              have hF111 := hF51.tr f100 (by simp)
              show pl _ _ _ (139, [(0, .ref r), (1, .int (nI k)), (2, .int (nI p)), (3, .int (nI (by1 f p)))], [.int 0], M82) _
              exact ps_ret rfl rfl (Or.inr (Or.inr (Or.inr ⟨(1, p + 1), by
                  unfold s_entry
                  rw [if_neg (by omega), if_neg (fun h => h (by assumption)), if_neg (by omega)]
                  repeat' split
                  all_goals first | rfl | (exfalso; omega), rfl, h99, hF111⟩)))
          · show pl _ _ _ (140, [(0, .ref r), (1, .int (nI k)), (2, .int (nI p)), (3, .int (nI (by1 f p)))], [], M36) _
            have m_90 := sw_nat (t := by1 f p) (by omega) et_90
            simp at m_90
            refine ps_st (S' := (141, [(0, .ref r), (1, .int (nI k)), (2, .int (nI p)), (3, .int (nI (by1 f p)))], [.ref r], M36)) rfl rfl rfl ?_
            refine ps_st (S' := (142, [(0, .ref r), (1, .int (nI k)), (2, .int (nI p)), (3, .int (nI (by1 f p)))], [.int 4, .ref r], M36)) rfl rfl rfl ?_
            refine pl_call (a := [.ref r, .int 4]) (rest := []) rfl rfl rfl (dx_takes4 h42 h43 h44 h45 (hn) (by omega)) (fun v112 M113 q114 => ?_)
            rcases q114 with q114 | q114
            · skip
              obtain ⟨q142_ok, rfl, h115, h116, f117⟩ := q114
              have h119 := (f117.1 b (nin2 (ob_ne h43 h42 (by decide)) (ob_ne h43 h45 (by decide)))).trans h43
              have h120 := (f117.1 da (nin2 (Ne.symm (ob_ar h42 h44)) (Ne.symm (ob_ar h45 h44)))).trans h44
              have h121 := (f117.1 c (nin2 (ob_ne h46 h42 (by decide)) (ob_ne h46 h45 (by decide)))).trans h46
              have h122 := (f117.1 pq (nin2 (ob_ne h47 h42 (by decide)) (ob_ne h47 h45 (by decide)))).trans h47
              have h123 := (f117.1 q1 (nin2 (Ne.symm (ob_ar h42 h38)) (Ne.symm (ob_ar h45 h38)))).trans h38
              have h124 := (f117.1 q3 (nin2 (Ne.symm (ob_ar h42 h48)) (Ne.symm (ob_ar h45 h48)))).trans h48
              have h125 := (f117.1 q4 (nin2 (Ne.symm (ob_ar h42 h49)) (Ne.symm (ob_ar h45 h49)))).trans h49
              have h126 := (f117.1 q2 (nin2 (Ne.symm (ob_ar h42 h39)) (Ne.symm (ob_ar h45 h39)))).trans h39
              have h127 := (f117.1 q6 (nin2 (Ne.symm (ob_ar h42 h50)) (Ne.symm (ob_ar h45 h50)))).trans h50
              have hF128 := hF51.tr f117 (by simp)
              show pl _ _ _ (145, [(0, .ref r), (1, .int (nI k)), (2, .int (nI p)), (3, .int (nI (by1 f p)))], [.int 1], M113) _
              refine ps_if (S1 := (160, [], [], M113)) (S2 := (148, [(0, .ref r), (1, .int (nI k)), (2, .int (nI p)), (3, .int (nI (by1 f p)))], [], M113)) rfl rfl rfl (fun c_145 => ?_) (fun c_145 => ?_)
              · exact absurd (of_decide_eq_true c_145) (by decide)
              refine ps_st (S' := (149, [(0, .ref r), (1, .int (nI k)), (2, .int (nI p)), (3, .int (nI (by1 f p)))], [.ref r], M113)) rfl rfl rfl ?_
              refine ps_st (S' := (150, [(0, .ref r), (1, .int (nI k)), (2, .int (nI p)), (3, .int (nI (by1 f p)))], [.int 4, .ref r], M113)) rfl rfl rfl ?_
              refine pl_call (a := [.ref r, .int 4]) (rest := []) rfl rfl rfl (dx_takes4 h115 h119 h120 h116 (hn) (by omega)) (fun v129 M130 q131 => ?_)
              rcases q131 with q131 | q131
              · skip
                obtain ⟨q150_ok, rfl, h132, h133, f134⟩ := q131
                have h136 := (f134.1 b (nin2 (ob_ne h119 h115 (by decide)) (ob_ne h119 h116 (by decide)))).trans h119
                have h137 := (f134.1 da (nin2 (Ne.symm (ob_ar h115 h120)) (Ne.symm (ob_ar h116 h120)))).trans h120
                have h138 := (f134.1 c (nin2 (ob_ne h121 h115 (by decide)) (ob_ne h121 h116 (by decide)))).trans h121
                have h139 := (f134.1 pq (nin2 (ob_ne h122 h115 (by decide)) (ob_ne h122 h116 (by decide)))).trans h122
                have h140 := (f134.1 q1 (nin2 (Ne.symm (ob_ar h115 h123)) (Ne.symm (ob_ar h116 h123)))).trans h123
                have h141 := (f134.1 q3 (nin2 (Ne.symm (ob_ar h115 h124)) (Ne.symm (ob_ar h116 h124)))).trans h124
                have h142 := (f134.1 q4 (nin2 (Ne.symm (ob_ar h115 h125)) (Ne.symm (ob_ar h116 h125)))).trans h125
                have h143 := (f134.1 q2 (nin2 (Ne.symm (ob_ar h115 h126)) (Ne.symm (ob_ar h116 h126)))).trans h126
                have h144 := (f134.1 q6 (nin2 (Ne.symm (ob_ar h115 h127)) (Ne.symm (ob_ar h116 h127)))).trans h127
                have hF145 := hF128.tr f134 (by simp)
                show pl _ _ _ (153, [(0, .ref r), (1, .int (nI k)), (2, .int (nI p)), (3, .int (nI (by1 f p)))], [.int 1], M130) _
                refine ps_if (S1 := (160, [], [], M130)) (S2 := (156, [(0, .ref r), (1, .int (nI k)), (2, .int (nI p)), (3, .int (nI (by1 f p)))], [], M130)) rfl rfl rfl (fun c_153 => ?_) (fun c_153 => ?_)
                · exact absurd (of_decide_eq_true c_153) (by decide)
                refine ps_st (S' := (157, [(0, .ref r), (1, .int (nI k)), (2, .int (nI p)), (3, .int (nI (by1 f p)))], [.int 1], M130)) rfl rfl rfl ?_
                refine ps_st (S' := (161, [], [.int 1], M130)) rfl rfl rfl ?_
                exact ps_ret rfl rfl (Or.inr (Or.inl ⟨p + 9, _, by
                    unfold s_entry
                    rw [if_neg (by omega), if_neg (fun h => h (by assumption)), if_neg (by omega)]
                    repeat' split
                    all_goals first | rfl | (exfalso; omega), by omega, rfl, h140, h143, h132, h133, h139, h141, h142, h144, hF145⟩))
              · skip
                obtain ⟨q150_no, rfl, h146, h147, f148⟩ := q131
                have h150 := (f148.1 b (nin2 (ob_ne h119 h115 (by decide)) (ob_ne h119 h116 (by decide)))).trans h119
                have h151 := (f148.1 da (nin2 (Ne.symm (ob_ar h115 h120)) (Ne.symm (ob_ar h116 h120)))).trans h120
                have h152 := (f148.1 c (nin2 (ob_ne h121 h115 (by decide)) (ob_ne h121 h116 (by decide)))).trans h121
                have h153 := (f148.1 pq (nin2 (ob_ne h122 h115 (by decide)) (ob_ne h122 h116 (by decide)))).trans h122
                have h154 := (f148.1 q1 (nin2 (Ne.symm (ob_ar h115 h123)) (Ne.symm (ob_ar h116 h123)))).trans h123
                have h155 := (f148.1 q3 (nin2 (Ne.symm (ob_ar h115 h124)) (Ne.symm (ob_ar h116 h124)))).trans h124
                have h156 := (f148.1 q4 (nin2 (Ne.symm (ob_ar h115 h125)) (Ne.symm (ob_ar h116 h125)))).trans h125
                have h157 := (f148.1 q2 (nin2 (Ne.symm (ob_ar h115 h126)) (Ne.symm (ob_ar h116 h126)))).trans h126
                have h158 := (f148.1 q6 (nin2 (Ne.symm (ob_ar h115 h127)) (Ne.symm (ob_ar h116 h127)))).trans h127
                have hF159 := hF128.tr f148 (by simp)
                show pl _ _ _ (153, [(0, .ref r), (1, .int (nI k)), (2, .int (nI p)), (3, .int (nI (by1 f p)))], [.int 0], M130) _
                refine ps_if (S1 := (160, [], [], M130)) (S2 := (156, [(0, .ref r), (1, .int (nI k)), (2, .int (nI p)), (3, .int (nI (by1 f p)))], [], M130)) rfl rfl rfl (fun c_153 => ?_) (fun c_153 => ?_)
                rotate_left
                · exact absurd (by decide) (of_decide_eq_false c_153)
                refine ps_st (S' := (161, [], [.int 0], M130)) rfl rfl rfl ?_
                exact ps_ret rfl rfl (Or.inr (Or.inr (Or.inr ⟨(1, p + 5), by
                    unfold s_entry
                    rw [if_neg (by omega), if_neg (fun h => h (by assumption)), if_neg (by omega)]
                    repeat' split
                    all_goals first | rfl | (exfalso; omega), rfl, h147, hF159⟩)))
            · skip
              obtain ⟨q142_no, rfl, h160, h161, f162⟩ := q114
              have h164 := (f162.1 b (nin2 (ob_ne h43 h42 (by decide)) (ob_ne h43 h45 (by decide)))).trans h43
              have h165 := (f162.1 da (nin2 (Ne.symm (ob_ar h42 h44)) (Ne.symm (ob_ar h45 h44)))).trans h44
              have h166 := (f162.1 c (nin2 (ob_ne h46 h42 (by decide)) (ob_ne h46 h45 (by decide)))).trans h46
              have h167 := (f162.1 pq (nin2 (ob_ne h47 h42 (by decide)) (ob_ne h47 h45 (by decide)))).trans h47
              have h168 := (f162.1 q1 (nin2 (Ne.symm (ob_ar h42 h38)) (Ne.symm (ob_ar h45 h38)))).trans h38
              have h169 := (f162.1 q3 (nin2 (Ne.symm (ob_ar h42 h48)) (Ne.symm (ob_ar h45 h48)))).trans h48
              have h170 := (f162.1 q4 (nin2 (Ne.symm (ob_ar h42 h49)) (Ne.symm (ob_ar h45 h49)))).trans h49
              have h171 := (f162.1 q2 (nin2 (Ne.symm (ob_ar h42 h39)) (Ne.symm (ob_ar h45 h39)))).trans h39
              have h172 := (f162.1 q6 (nin2 (Ne.symm (ob_ar h42 h50)) (Ne.symm (ob_ar h45 h50)))).trans h50
              have hF173 := hF51.tr f162 (by simp)
              show pl _ _ _ (145, [(0, .ref r), (1, .int (nI k)), (2, .int (nI p)), (3, .int (nI (by1 f p)))], [.int 0], M113) _
              refine ps_if (S1 := (160, [], [], M113)) (S2 := (148, [(0, .ref r), (1, .int (nI k)), (2, .int (nI p)), (3, .int (nI (by1 f p)))], [], M113)) rfl rfl rfl (fun c_145 => ?_) (fun c_145 => ?_)
              rotate_left
              · exact absurd (by decide) (of_decide_eq_false c_145)
              refine ps_st (S' := (161, [], [.int 0], M113)) rfl rfl rfl ?_
              exact ps_ret rfl rfl (Or.inr (Or.inr (Or.inr ⟨(1, p + 1), by
                  unfold s_entry
                  rw [if_neg (by omega), if_neg (fun h => h (by assumption)), if_neg (by omega)]
                  repeat' split
                  all_goals first | rfl | (exfalso; omega), rfl, h161, hF173⟩)))
          · show pl _ _ _ (162, [(0, .ref r), (1, .int (nI k)), (2, .int (nI p)), (3, .int (nI (by1 f p)))], [], M36) _
            have m_90 := sw_nat (t := by1 f p) (by omega) et_90
            simp at m_90
            refine ps_st (S' := (163, [(0, .ref r), (1, .int (nI k)), (2, .int (nI p)), (3, .int (nI (by1 f p)))], [.ref r], M36)) rfl rfl rfl ?_
            refine ps_st (S' := (164, [(0, .ref r), (1, .int (nI k)), (2, .int (nI p)), (3, .int (nI (by1 f p)))], [.int (nI k), .ref r], M36)) rfl rfl rfl ?_
            refine ps_st (S' := (165, [(0, .ref r), (1, .int (nI k)), (2, .int (nI p)), (3, .int (nI (by1 f p)))], [.int (nI (by1 f p)), .int (nI k), .ref r], M36)) rfl rfl rfl ?_
            refine pl_call (a := [.ref r, .int (nI k), .int (nI (by1 f p))]) (rest := []) rfl rfl rfl (dx_takesIndexes h42 h43 h44 h45 h46 h47 h38 h48 h49 (hn) (by omega) (hD) (hh) (hk3 (by omega)) (by1_lt _ _)) (fun v174 M175 q176 => ?_)
            rcases q176 with q176 | q176
            · skip
              obtain ⟨p'177, x178, y179, it'180, q165_s, rfl, h181, h182, h183, h184, f185⟩ := q176
              have h187 := (f185.1 b (nin4 (ob_ne h43 h42 (by decide)) (ob_ne h43 h45 (by decide)) (ob_ar h43 h48) (ob_ar h43 h49))).trans h43
              have h188 := (f185.1 da (nin4 (Ne.symm (ob_ar h42 h44)) (Ne.symm (ob_ar h45 h44)) (ar_ne h44 h48 (by decide)) (ar_ne h44 h49 (by decide)))).trans h44
              have h189 := (f185.1 c (nin4 (ob_ne h46 h42 (by decide)) (ob_ne h46 h45 (by decide)) (ob_ar h46 h48) (ob_ar h46 h49))).trans h46
              have h190 := (f185.1 pq (nin4 (ob_ne h47 h42 (by decide)) (ob_ne h47 h45 (by decide)) (ob_ar h47 h48) (ob_ar h47 h49))).trans h47
              have h191 := (f185.1 q1 (nin4 (Ne.symm (ob_ar h42 h38)) (Ne.symm (ob_ar h45 h38)) hD.1.2.1 hD.1.2.2.1)).trans h38
              have h192 := (f185.1 q2 (nin4 (Ne.symm (ob_ar h42 h39)) (Ne.symm (ob_ar h45 h39)) hD.2.1.1 hD.2.1.2.1)).trans h39
              have h193 := (f185.1 q6 (nin4 (Ne.symm (ob_ar h42 h50)) (Ne.symm (ob_ar h45 h50)) (ar_ne h50 h48 (by decide)) (ar_ne h50 h49 (by decide)))).trans h50
              have hF194 := hF51.tr f185 (by simp)
              show pl _ _ _ (168, [(0, .ref r), (1, .int (nI k)), (2, .int (nI p)), (3, .int (nI (by1 f p)))], [.int 1], M175) _
              exact ps_ret rfl rfl (Or.inr (Or.inr (Or.inl ⟨_, _, _, _, by
                  unfold s_entry
                  rw [if_neg (by omega), if_neg (fun h => h (by assumption)), if_neg (by omega)]
                  rw [if_neg (by omega), if_neg (by omega), if_neg (by omega), q165_s], s_ix_le q165_s, rfl, h191, h192, h181, h182, h190, h183, h184, h193, hF194⟩)))
            · skip
              obtain ⟨e195, q165_s, rfl, h196, f197⟩ := q176
              have h199 := (f197.1 b (nin4 (ob_ne h43 h42 (by decide)) (ob_ne h43 h45 (by decide)) (ob_ar h43 h48) (ob_ar h43 h49))).trans h43
              have h200 := (f197.1 da (nin4 (Ne.symm (ob_ar h42 h44)) (Ne.symm (ob_ar h45 h44)) (ar_ne h44 h48 (by decide)) (ar_ne h44 h49 (by decide)))).trans h44
              have h201 := (f197.1 c (nin4 (ob_ne h46 h42 (by decide)) (ob_ne h46 h45 (by decide)) (ob_ar h46 h48) (ob_ar h46 h49))).trans h46
              have h202 := (f197.1 pq (nin4 (ob_ne h47 h42 (by decide)) (ob_ne h47 h45 (by decide)) (ob_ar h47 h48) (ob_ar h47 h49))).trans h47
              have h203 := (f197.1 q1 (nin4 (Ne.symm (ob_ar h42 h38)) (Ne.symm (ob_ar h45 h38)) hD.1.2.1 hD.1.2.2.1)).trans h38
              have h204 := (f197.1 q2 (nin4 (Ne.symm (ob_ar h42 h39)) (Ne.symm (ob_ar h45 h39)) hD.2.1.1 hD.2.1.2.1)).trans h39
              have h205 := (f197.1 q6 (nin4 (Ne.symm (ob_ar h42 h50)) (Ne.symm (ob_ar h45 h50)) (ar_ne h50 h48 (by decide)) (ar_ne h50 h49 (by decide)))).trans h50
              have hF206 := hF51.tr f197 (by simp)
              show pl _ _ _ (168, [(0, .ref r), (1, .int (nI k)), (2, .int (nI p)), (3, .int (nI (by1 f p)))], [.int 0], M175) _
              exact ps_ret rfl rfl (Or.inr (Or.inr (Or.inr ⟨_, by
                  unfold s_entry
                  rw [if_neg (by omega), if_neg (fun h => h (by assumption)), if_neg (by omega)]
                  rw [if_neg (by omega), if_neg (by omega), if_neg (by omega), q165_s], rfl, h196, hF206⟩)))
        · have c_62 : ¬ ((nI (k + 1)) < (nI N)) := of_decide_eq_false c_62
          have n_62 : ¬ (k + 1 < N) := fun h9 => c_62 ((lt_nI (p := k + 1) (n := N) (by omega) (by omega)).mpr h9)
          refine ps_st (S' := (66, [(0, .ref r), (1, .int (nI k)), (2, .int (nI p)), (3, .int (nI (by1 f p)))], [.ref r], M19)) rfl rfl rfl ?_
          refine ps_get (S' := (69, [(0, .ref r), (1, .int (nI k)), (2, .int (nI p)), (3, .int (nI (by1 f p)))], [.ref vd], M19)) rfl h23 rfl rfl ?_
          refine ps_st (S' := (71, [(0, .ref r), (1, .int (nI k)), (2, .int (nI p)), (3, .int (nI (by1 f p)))], [.int 7, .ref vd], M19)) rfl rfl rfl ?_
          refine ps_st (S' := (72, [(0, .ref r), (1, .int (nI k)), (2, .int (nI p)), (3, .int (nI (by1 f p)))], [.int (nI p), .int 7, .ref vd], M19)) rfl rfl rfl ?_
          refine pl_call (a := [.ref vd, .int 7, .int (nI p)]) (rest := []) rfl rfl rfl (dx_wrong h26) (fun v207 M208 q209 => ?_)
          obtain ⟨rfl, h210, f211⟩ := q209
          have h213 := (f211.1 r (nin1 (ob_ne h23 h26 (by decide)))).trans h23
          have h214 := (f211.1 b (nin1 (ob_ne h24 h26 (by decide)))).trans h24
          have h215 := (f211.1 da (nin1 (Ne.symm (ob_ar h26 h25)))).trans h25
          have h216 := (f211.1 c (nin1 (ob_ne h27 h26 (by decide)))).trans h27
          have h217 := (f211.1 pq (nin1 (ob_ne h28 h26 (by decide)))).trans h28
          have h218 := (f211.1 q1 (nin1 (Ne.symm (ob_ar h26 h29)))).trans h29
          have h219 := (f211.1 q3 (nin1 (Ne.symm (ob_ar h26 h30)))).trans h30
          have h220 := (f211.1 q4 (nin1 (Ne.symm (ob_ar h26 h31)))).trans h31
          have h221 := (f211.1 q2 (nin1 (Ne.symm (ob_ar h26 h32)))).trans h32
          have h222 := (f211.1 q6 (nin1 (Ne.symm (ob_ar h26 h33)))).trans h33
          have hF223 := hF34.tr f211 (by simp)
          show pl _ _ _ (75, [(0, .ref r), (1, .int (nI k)), (2, .int (nI p)), (3, .int (nI (by1 f p)))], [.int 0], M208) _
          exact ps_ret rfl rfl (Or.inr (Or.inr (Or.inr ⟨(7, p), by
              unfold s_entry
              rw [if_neg (by omega), if_neg (fun h => h (by assumption)), if_pos (by omega)], rfl, h210, hF223⟩)))
      · have c_40 : ¬ ((nI (by1 f p)) = 5) := of_decide_eq_false c_40
        have n_40 : ¬ (by1 f p = 5) := fun h9 => c_40 ((eq_nI (p := by1 f p) (n := 5) (Nat.lt_trans (by1_lt _ _) (by decide)) (by decide)).mpr h9)
        refine ps_st (S' := (44, [(3, .int (nI (by1 f p))), (2, .int (nI p)), (0, .ref r), (1, .int (nI k))], [.int (nI (by1 f p))], M19)) rfl rfl rfl ?_
        refine ps_st (S' := (46, [(3, .int (nI (by1 f p))), (2, .int (nI p)), (0, .ref r), (1, .int (nI k))], [.int 6, .int (nI (by1 f p))], M19)) rfl rfl rfl ?_
        refine ps_if2 (S1 := (76, [(0, .ref r), (1, .int (nI k)), (2, .int (nI p)), (3, .int (nI (by1 f p)))], [], M19)) (S2 := (49, [(0, .ref r), (1, .int (nI k)), (2, .int (nI p)), (3, .int (nI (by1 f p)))], [], M19)) rfl rfl rfl (fun c_46 => ?_) (fun c_46 => ?_)
        · have c_46 : ¬ (nI (by1 f p)) = 6 := of_decide_eq_true c_46
          have n_46 : ¬ (by1 f p = 6) := fun h9 => c_46 ((eq_nI (p := by1 f p) (n := 6) (Nat.lt_trans (by1_lt _ _) (by decide)) (by decide)).mpr h9)
          refine ps_st (S' := (77, [(0, .ref r), (1, .int (nI k)), (2, .int (nI p)), (3, .int (nI (by1 f p)))], [.ref r], M19)) rfl rfl rfl ?_
          refine ps_get (S' := (80, [(0, .ref r), (1, .int (nI k)), (2, .int (nI p)), (3, .int (nI (by1 f p)))], [.ref c], M19)) rfl h23 rfl rfl ?_
          refine ps_get (S' := (83, [(0, .ref r), (1, .int (nI k)), (2, .int (nI p)), (3, .int (nI (by1 f p)))], [.ref pq], M19)) rfl h27 rfl rfl ?_
          refine ps_st (S' := (84, [(0, .ref r), (1, .int (nI k)), (2, .int (nI p)), (3, .int (nI (by1 f p)))], [.int (nI k), .ref pq], M19)) rfl rfl rfl ?_
          refine ps_st (S' := (85, [(0, .ref r), (1, .int (nI k)), (2, .int (nI p)), (3, .int (nI (by1 f p)))], [.int (nI (by1 f p)), .int (nI k), .ref pq], M19)) rfl rfl rfl ?_
          refine ps_st (S' := (86, [(0, .ref r), (1, .int (nI k)), (2, .int (nI p)), (3, .int (nI (by1 f p)))], [.int (nI p), .int (nI (by1 f p)), .int (nI k), .ref pq], M19)) rfl rfl rfl ?_
          refine pl_call (a := [.ref pq, .int (nI k), .int (nI (by1 f p)), .int (nI p)]) (rest := []) rfl rfl rfl (dx_setTag h28 h29 h32 (hD) (hh) (hk3 (by omega))) (fun v224 M225 q226 => ?_)
          obtain ⟨rfl, h227, h228, f229⟩ := q226
          have h231 := (f229.1 r (nin2 (ob_ar h23 h29) (ob_ar h23 h32))).trans h23
          have h232 := (f229.1 b (nin2 (ob_ar h24 h29) (ob_ar h24 h32))).trans h24
          have h233 := (f229.1 da (nin2 (ar_ne h25 h29 (by decide)) (ar_ne h25 h32 (by decide)))).trans h25
          have h234 := (f229.1 vd (nin2 (ob_ar h26 h29) (ob_ar h26 h32))).trans h26
          have h235 := (f229.1 c (nin2 (ob_ar h27 h29) (ob_ar h27 h32))).trans h27
          have h236 := (f229.1 pq (nin2 (ob_ar h28 h29) (ob_ar h28 h32))).trans h28
          have h237 := (f229.1 q3 (nin2 (Ne.symm hD.1.2.1) (Ne.symm hD.2.1.1))).trans h30
          have h238 := (f229.1 q4 (nin2 (Ne.symm hD.1.2.2.1) (Ne.symm hD.2.1.2.1))).trans h31
          have h239 := (f229.1 q6 (nin2 (ar_ne h33 h29 (by decide)) (ar_ne h33 h32 (by decide)))).trans h33
          have hF240 := hF34.tr f229 (by simp)
          show pl _ _ _ (89, [(0, .ref r), (1, .int (nI k)), (2, .int (nI p)), (3, .int (nI (by1 f p)))], [], M225) _
          refine ps_st (S' := (90, [(0, .ref r), (1, .int (nI k)), (2, .int (nI p)), (3, .int (nI (by1 f p)))], [.int (nI (by1 f p))], M225)) rfl rfl rfl ?_
          refine pl_sw rfl (fun t_90 et_90 => ?_)
          have ht_90 : t_90 ∈ [128, 134, 140, 162] := mi_sw_sub et_90 (by decide)
          simp only [List.mem_cons, List.not_mem_nil, or_false] at ht_90
          rcases ht_90 with rfl | rfl | rfl | rfl
          · show pl _ _ _ (128, [(0, .ref r), (1, .int (nI k)), (2, .int (nI p)), (3, .int (nI (by1 f p)))], [], M225) _
            have m_90 := sw_nat (t := by1 f p) (by omega) et_90
            simp at m_90
            refine ps_st (S' := (129, [(0, .ref r), (1, .int (nI k)), (2, .int (nI p)), (3, .int (nI (by1 f p)))], [.ref r], M225)) rfl rfl rfl ?_
            refine ps_st (S' := (130, [(0, .ref r), (1, .int (nI k)), (2, .int (nI p)), (3, .int (nI (by1 f p)))], [.int (nI k), .ref r], M225)) rfl rfl rfl ?_
            refine pl_call (a := [.ref r, .int (nI k)]) (rest := []) rfl rfl rfl (dx_takesText h231 h232 h233 h234 h235 h236 h227 h237 h238 h239 (hn) (by omega) (hD) (hh) (hm) (hk3 (by omega)) (by omega)) (fun v241 M242 q243 => ?_)
            rcases q243 with q243 | q243
            · skip
              obtain ⟨l244, it'245, q130_s, q130_e, q130_c, rfl, h246, h247, h248, h249, h250, h251, f252⟩ := q243
              have h254 := (f252.1 b (nin6 (ob_ne h232 h231 (by decide)) (ob_ne h232 h234 (by decide)) (ob_ne h232 h236 (by decide)) (ob_ar h232 h237) (ob_ar h232 h238) (ob_ar h232 h239))).trans h232
              have h255 := (f252.1 da (nin6 (Ne.symm (ob_ar h231 h233)) (Ne.symm (ob_ar h234 h233)) (Ne.symm (ob_ar h236 h233)) (ar_ne h233 h237 (by decide)) (ar_ne h233 h238 (by decide)) (ar_ne h233 h239 (by decide)))).trans h233
              have h256 := (f252.1 c (nin6 (ob_ne h235 h231 (by decide)) (ob_ne h235 h234 (by decide)) (ob_ne h235 h236 (by decide)) (ob_ar h235 h237) (ob_ar h235 h238) (ob_ar h235 h239))).trans h235
              have h257 := (f252.1 q1 (nin6 (Ne.symm (ob_ar h231 h227)) (Ne.symm (ob_ar h234 h227)) (Ne.symm (ob_ar h236 h227)) hD.1.2.1 hD.1.2.2.1 (ar_ne h227 h239 (by decide)))).trans h227
              have h258 := (f252.1 q2 (nin6 (Ne.symm (ob_ar h231 h228)) (Ne.symm (ob_ar h234 h228)) (Ne.symm (ob_ar h236 h228)) hD.2.1.1 hD.2.1.2.1 (ar_ne h228 h239 (by decide)))).trans h228
              have hF259 := hF240.tr f252 (by simp)
              show pl _ _ _ (133, [(0, .ref r), (1, .int (nI k)), (2, .int (nI p)), (3, .int (nI (by1 f p)))], [.int 1], M242) _
              exact ps_ret rfl rfl (Or.inl ⟨_, l244, _, by
                  unfold s_entry
                  rw [if_neg (by omega), if_neg (fun h => h (by assumption)), if_neg (by omega)]
                  rw [if_pos (by omega), q130_s], by omega, by omega, rfl, h257, h258, h246, h247, h248, h249, h250, h251, hF259⟩)
            · skip
              obtain ⟨e260, q130_s, rfl, h261, f262⟩ := q243
              have h264 := (f262.1 b (nin6 (ob_ne h232 h231 (by decide)) (ob_ne h232 h234 (by decide)) (ob_ne h232 h236 (by decide)) (ob_ar h232 h237) (ob_ar h232 h238) (ob_ar h232 h239))).trans h232
              have h265 := (f262.1 da (nin6 (Ne.symm (ob_ar h231 h233)) (Ne.symm (ob_ar h234 h233)) (Ne.symm (ob_ar h236 h233)) (ar_ne h233 h237 (by decide)) (ar_ne h233 h238 (by decide)) (ar_ne h233 h239 (by decide)))).trans h233
              have h266 := (f262.1 c (nin6 (ob_ne h235 h231 (by decide)) (ob_ne h235 h234 (by decide)) (ob_ne h235 h236 (by decide)) (ob_ar h235 h237) (ob_ar h235 h238) (ob_ar h235 h239))).trans h235
              have h267 := (f262.1 q1 (nin6 (Ne.symm (ob_ar h231 h227)) (Ne.symm (ob_ar h234 h227)) (Ne.symm (ob_ar h236 h227)) hD.1.2.1 hD.1.2.2.1 (ar_ne h227 h239 (by decide)))).trans h227
              have h268 := (f262.1 q2 (nin6 (Ne.symm (ob_ar h231 h228)) (Ne.symm (ob_ar h234 h228)) (Ne.symm (ob_ar h236 h228)) hD.2.1.1 hD.2.1.2.1 (ar_ne h228 h239 (by decide)))).trans h228
              have hF269 := hF240.tr f262 (by simp)
              show pl _ _ _ (133, [(0, .ref r), (1, .int (nI k)), (2, .int (nI p)), (3, .int (nI (by1 f p)))], [.int 0], M242) _
              exact ps_ret rfl rfl (Or.inr (Or.inr (Or.inr ⟨_, by
                  unfold s_entry
                  rw [if_neg (by omega), if_neg (fun h => h (by assumption)), if_neg (by omega)]
                  rw [if_pos (by omega), q130_s], rfl, h261, hF269⟩)))
          · show pl _ _ _ (134, [(0, .ref r), (1, .int (nI k)), (2, .int (nI p)), (3, .int (nI (by1 f p)))], [], M225) _
            have m_90 := sw_nat (t := by1 f p) (by omega) et_90
            simp at m_90
            refine ps_st (S' := (135, [(0, .ref r), (1, .int (nI k)), (2, .int (nI p)), (3, .int (nI (by1 f p)))], [.ref r], M225)) rfl rfl rfl ?_
            refine ps_st (S' := (136, [(0, .ref r), (1, .int (nI k)), (2, .int (nI p)), (3, .int (nI (by1 f p)))], [.int 4, .ref r], M225)) rfl rfl rfl ?_
            refine pl_call (a := [.ref r, .int 4]) (rest := []) rfl rfl rfl (dx_takes4 h231 h232 h233 h234 (hn) (by omega)) (fun v270 M271 q272 => ?_)
            rcases q272 with q272 | q272
            · skip
              obtain ⟨q136_ok, rfl, h273, h274, f275⟩ := q272
              have h277 := (f275.1 b (nin2 (ob_ne h232 h231 (by decide)) (ob_ne h232 h234 (by decide)))).trans h232
              have h278 := (f275.1 da (nin2 (Ne.symm (ob_ar h231 h233)) (Ne.symm (ob_ar h234 h233)))).trans h233
              have h279 := (f275.1 c (nin2 (ob_ne h235 h231 (by decide)) (ob_ne h235 h234 (by decide)))).trans h235
              have h280 := (f275.1 pq (nin2 (ob_ne h236 h231 (by decide)) (ob_ne h236 h234 (by decide)))).trans h236
              have h281 := (f275.1 q1 (nin2 (Ne.symm (ob_ar h231 h227)) (Ne.symm (ob_ar h234 h227)))).trans h227
              have h282 := (f275.1 q3 (nin2 (Ne.symm (ob_ar h231 h237)) (Ne.symm (ob_ar h234 h237)))).trans h237
              have h283 := (f275.1 q4 (nin2 (Ne.symm (ob_ar h231 h238)) (Ne.symm (ob_ar h234 h238)))).trans h238
              have h284 := (f275.1 q2 (nin2 (Ne.symm (ob_ar h231 h228)) (Ne.symm (ob_ar h234 h228)))).trans h228
              have h285 := (f275.1 q6 (nin2 (Ne.symm (ob_ar h231 h239)) (Ne.symm (ob_ar h234 h239)))).trans h239
              have hF286 := hF240.tr f275 (by simp)
              show pl _ _ _ (139, [(0, .ref r), (1, .int (nI k)), (2, .int (nI p)), (3, .int (nI (by1 f p)))], [.int 1], M271) _
              exact ps_ret rfl rfl (Or.inr (Or.inl ⟨p + 5, _, by
                  unfold s_entry
                  rw [if_neg (by omega), if_neg (fun h => h (by assumption)), if_neg (by omega)]
                  repeat' split
                  all_goals first | rfl | (exfalso; omega), by omega, rfl, h281, h284, h273, h274, h280, h282, h283, h285, hF286⟩))
            · skip
              obtain ⟨q136_no, rfl, h287, h288, f289⟩ := q272
              have h291 := (f289.1 b (nin2 (ob_ne h232 h231 (by decide)) (ob_ne h232 h234 (by decide)))).trans h232
              have h292 := (f289.1 da (nin2 (Ne.symm (ob_ar h231 h233)) (Ne.symm (ob_ar h234 h233)))).trans h233
              have h293 := (f289.1 c (nin2 (ob_ne h235 h231 (by decide)) (ob_ne h235 h234 (by decide)))).trans h235
              have h294 := (f289.1 pq (nin2 (ob_ne h236 h231 (by decide)) (ob_ne h236 h234 (by decide)))).trans h236
              have h295 := (f289.1 q1 (nin2 (Ne.symm (ob_ar h231 h227)) (Ne.symm (ob_ar h234 h227)))).trans h227
              have h296 := (f289.1 q3 (nin2 (Ne.symm (ob_ar h231 h237)) (Ne.symm (ob_ar h234 h237)))).trans h237
              have h297 := (f289.1 q4 (nin2 (Ne.symm (ob_ar h231 h238)) (Ne.symm (ob_ar h234 h238)))).trans h238
              have h298 := (f289.1 q2 (nin2 (Ne.symm (ob_ar h231 h228)) (Ne.symm (ob_ar h234 h228)))).trans h228
              have h299 := (f289.1 q6 (nin2 (Ne.symm (ob_ar h231 h239)) (Ne.symm (ob_ar h234 h239)))).trans h239
              have hF300 := hF240.tr f289 (by simp)
              show pl _ _ _ (139, [(0, .ref r), (1, .int (nI k)), (2, .int (nI p)), (3, .int (nI (by1 f p)))], [.int 0], M271) _
              exact ps_ret rfl rfl (Or.inr (Or.inr (Or.inr ⟨(1, p + 1), by
                  unfold s_entry
                  rw [if_neg (by omega), if_neg (fun h => h (by assumption)), if_neg (by omega)]
                  repeat' split
                  all_goals first | rfl | (exfalso; omega), rfl, h288, hF300⟩)))
          · show pl _ _ _ (140, [(0, .ref r), (1, .int (nI k)), (2, .int (nI p)), (3, .int (nI (by1 f p)))], [], M225) _
            have m_90 := sw_nat (t := by1 f p) (by omega) et_90
            simp at m_90
            refine ps_st (S' := (141, [(0, .ref r), (1, .int (nI k)), (2, .int (nI p)), (3, .int (nI (by1 f p)))], [.ref r], M225)) rfl rfl rfl ?_
            refine ps_st (S' := (142, [(0, .ref r), (1, .int (nI k)), (2, .int (nI p)), (3, .int (nI (by1 f p)))], [.int 4, .ref r], M225)) rfl rfl rfl ?_
            refine pl_call (a := [.ref r, .int 4]) (rest := []) rfl rfl rfl (dx_takes4 h231 h232 h233 h234 (hn) (by omega)) (fun v301 M302 q303 => ?_)
            rcases q303 with q303 | q303
            · skip
              obtain ⟨q142_ok, rfl, h304, h305, f306⟩ := q303
              have h308 := (f306.1 b (nin2 (ob_ne h232 h231 (by decide)) (ob_ne h232 h234 (by decide)))).trans h232
              have h309 := (f306.1 da (nin2 (Ne.symm (ob_ar h231 h233)) (Ne.symm (ob_ar h234 h233)))).trans h233
              have h310 := (f306.1 c (nin2 (ob_ne h235 h231 (by decide)) (ob_ne h235 h234 (by decide)))).trans h235
              have h311 := (f306.1 pq (nin2 (ob_ne h236 h231 (by decide)) (ob_ne h236 h234 (by decide)))).trans h236
              have h312 := (f306.1 q1 (nin2 (Ne.symm (ob_ar h231 h227)) (Ne.symm (ob_ar h234 h227)))).trans h227
              have h313 := (f306.1 q3 (nin2 (Ne.symm (ob_ar h231 h237)) (Ne.symm (ob_ar h234 h237)))).trans h237
              have h314 := (f306.1 q4 (nin2 (Ne.symm (ob_ar h231 h238)) (Ne.symm (ob_ar h234 h238)))).trans h238
              have h315 := (f306.1 q2 (nin2 (Ne.symm (ob_ar h231 h228)) (Ne.symm (ob_ar h234 h228)))).trans h228
              have h316 := (f306.1 q6 (nin2 (Ne.symm (ob_ar h231 h239)) (Ne.symm (ob_ar h234 h239)))).trans h239
              have hF317 := hF240.tr f306 (by simp)
              show pl _ _ _ (145, [(0, .ref r), (1, .int (nI k)), (2, .int (nI p)), (3, .int (nI (by1 f p)))], [.int 1], M302) _
              refine ps_if (S1 := (160, [], [], M302)) (S2 := (148, [(0, .ref r), (1, .int (nI k)), (2, .int (nI p)), (3, .int (nI (by1 f p)))], [], M302)) rfl rfl rfl (fun c_145 => ?_) (fun c_145 => ?_)
              · exact absurd (of_decide_eq_true c_145) (by decide)
              refine ps_st (S' := (149, [(0, .ref r), (1, .int (nI k)), (2, .int (nI p)), (3, .int (nI (by1 f p)))], [.ref r], M302)) rfl rfl rfl ?_
              refine ps_st (S' := (150, [(0, .ref r), (1, .int (nI k)), (2, .int (nI p)), (3, .int (nI (by1 f p)))], [.int 4, .ref r], M302)) rfl rfl rfl ?_
              refine pl_call (a := [.ref r, .int 4]) (rest := []) rfl rfl rfl (dx_takes4 h304 h308 h309 h305 (hn) (by omega)) (fun v318 M319 q320 => ?_)
              rcases q320 with q320 | q320
              · skip
                obtain ⟨q150_ok, rfl, h321, h322, f323⟩ := q320
                have h325 := (f323.1 b (nin2 (ob_ne h308 h304 (by decide)) (ob_ne h308 h305 (by decide)))).trans h308
                have h326 := (f323.1 da (nin2 (Ne.symm (ob_ar h304 h309)) (Ne.symm (ob_ar h305 h309)))).trans h309
                have h327 := (f323.1 c (nin2 (ob_ne h310 h304 (by decide)) (ob_ne h310 h305 (by decide)))).trans h310
                have h328 := (f323.1 pq (nin2 (ob_ne h311 h304 (by decide)) (ob_ne h311 h305 (by decide)))).trans h311
                have h329 := (f323.1 q1 (nin2 (Ne.symm (ob_ar h304 h312)) (Ne.symm (ob_ar h305 h312)))).trans h312
                have h330 := (f323.1 q3 (nin2 (Ne.symm (ob_ar h304 h313)) (Ne.symm (ob_ar h305 h313)))).trans h313
                have h331 := (f323.1 q4 (nin2 (Ne.symm (ob_ar h304 h314)) (Ne.symm (ob_ar h305 h314)))).trans h314
                have h332 := (f323.1 q2 (nin2 (Ne.symm (ob_ar h304 h315)) (Ne.symm (ob_ar h305 h315)))).trans h315
                have h333 := (f323.1 q6 (nin2 (Ne.symm (ob_ar h304 h316)) (Ne.symm (ob_ar h305 h316)))).trans h316
                have hF334 := hF317.tr f323 (by simp)
                show pl _ _ _ (153, [(0, .ref r), (1, .int (nI k)), (2, .int (nI p)), (3, .int (nI (by1 f p)))], [.int 1], M319) _
                refine ps_if (S1 := (160, [], [], M319)) (S2 := (156, [(0, .ref r), (1, .int (nI k)), (2, .int (nI p)), (3, .int (nI (by1 f p)))], [], M319)) rfl rfl rfl (fun c_153 => ?_) (fun c_153 => ?_)
                · exact absurd (of_decide_eq_true c_153) (by decide)
                refine ps_st (S' := (157, [(0, .ref r), (1, .int (nI k)), (2, .int (nI p)), (3, .int (nI (by1 f p)))], [.int 1], M319)) rfl rfl rfl ?_
                refine ps_st (S' := (161, [], [.int 1], M319)) rfl rfl rfl ?_
                exact ps_ret rfl rfl (Or.inr (Or.inl ⟨p + 9, _, by
                    unfold s_entry
                    rw [if_neg (by omega), if_neg (fun h => h (by assumption)), if_neg (by omega)]
                    repeat' split
                    all_goals first | rfl | (exfalso; omega), by omega, rfl, h329, h332, h321, h322, h328, h330, h331, h333, hF334⟩))
              · skip
                obtain ⟨q150_no, rfl, h335, h336, f337⟩ := q320
                have h339 := (f337.1 b (nin2 (ob_ne h308 h304 (by decide)) (ob_ne h308 h305 (by decide)))).trans h308
                have h340 := (f337.1 da (nin2 (Ne.symm (ob_ar h304 h309)) (Ne.symm (ob_ar h305 h309)))).trans h309
                have h341 := (f337.1 c (nin2 (ob_ne h310 h304 (by decide)) (ob_ne h310 h305 (by decide)))).trans h310
                have h342 := (f337.1 pq (nin2 (ob_ne h311 h304 (by decide)) (ob_ne h311 h305 (by decide)))).trans h311
                have h343 := (f337.1 q1 (nin2 (Ne.symm (ob_ar h304 h312)) (Ne.symm (ob_ar h305 h312)))).trans h312
                have h344 := (f337.1 q3 (nin2 (Ne.symm (ob_ar h304 h313)) (Ne.symm (ob_ar h305 h313)))).trans h313
                have h345 := (f337.1 q4 (nin2 (Ne.symm (ob_ar h304 h314)) (Ne.symm (ob_ar h305 h314)))).trans h314
                have h346 := (f337.1 q2 (nin2 (Ne.symm (ob_ar h304 h315)) (Ne.symm (ob_ar h305 h315)))).trans h315
                have h347 := (f337.1 q6 (nin2 (Ne.symm (ob_ar h304 h316)) (Ne.symm (ob_ar h305 h316)))).trans h316
                have hF348 := hF317.tr f337 (by simp)
                show pl _ _ _ (153, [(0, .ref r), (1, .int (nI k)), (2, .int (nI p)), (3, .int (nI (by1 f p)))], [.int 0], M319) _
                refine ps_if (S1 := (160, [], [], M319)) (S2 := (156, [(0, .ref r), (1, .int (nI k)), (2, .int (nI p)), (3, .int (nI (by1 f p)))], [], M319)) rfl rfl rfl (fun c_153 => ?_) (fun c_153 => ?_)
                rotate_left
                · exact absurd (by decide) (of_decide_eq_false c_153)
                refine ps_st (S' := (161, [], [.int 0], M319)) rfl rfl rfl ?_
                exact ps_ret rfl rfl (Or.inr (Or.inr (Or.inr ⟨(1, p + 5), by
                    unfold s_entry
                    rw [if_neg (by omega), if_neg (fun h => h (by assumption)), if_neg (by omega)]
                    repeat' split
                    all_goals first | rfl | (exfalso; omega), rfl, h336, hF348⟩)))
            · skip
              obtain ⟨q142_no, rfl, h349, h350, f351⟩ := q303
              have h353 := (f351.1 b (nin2 (ob_ne h232 h231 (by decide)) (ob_ne h232 h234 (by decide)))).trans h232
              have h354 := (f351.1 da (nin2 (Ne.symm (ob_ar h231 h233)) (Ne.symm (ob_ar h234 h233)))).trans h233
              have h355 := (f351.1 c (nin2 (ob_ne h235 h231 (by decide)) (ob_ne h235 h234 (by decide)))).trans h235
              have h356 := (f351.1 pq (nin2 (ob_ne h236 h231 (by decide)) (ob_ne h236 h234 (by decide)))).trans h236
              have h357 := (f351.1 q1 (nin2 (Ne.symm (ob_ar h231 h227)) (Ne.symm (ob_ar h234 h227)))).trans h227
              have h358 := (f351.1 q3 (nin2 (Ne.symm (ob_ar h231 h237)) (Ne.symm (ob_ar h234 h237)))).trans h237
              have h359 := (f351.1 q4 (nin2 (Ne.symm (ob_ar h231 h238)) (Ne.symm (ob_ar h234 h238)))).trans h238
              have h360 := (f351.1 q2 (nin2 (Ne.symm (ob_ar h231 h228)) (Ne.symm (ob_ar h234 h228)))).trans h228
              have h361 := (f351.1 q6 (nin2 (Ne.symm (ob_ar h231 h239)) (Ne.symm (ob_ar h234 h239)))).trans h239
              have hF362 := hF240.tr f351 (by simp)
              show pl _ _ _ (145, [(0, .ref r), (1, .int (nI k)), (2, .int (nI p)), (3, .int (nI (by1 f p)))], [.int 0], M302) _
              refine ps_if (S1 := (160, [], [], M302)) (S2 := (148, [(0, .ref r), (1, .int (nI k)), (2, .int (nI p)), (3, .int (nI (by1 f p)))], [], M302)) rfl rfl rfl (fun c_145 => ?_) (fun c_145 => ?_)
              rotate_left
              · exact absurd (by decide) (of_decide_eq_false c_145)
              refine ps_st (S' := (161, [], [.int 0], M302)) rfl rfl rfl ?_
              exact ps_ret rfl rfl (Or.inr (Or.inr (Or.inr ⟨(1, p + 1), by
                  unfold s_entry
                  rw [if_neg (by omega), if_neg (fun h => h (by assumption)), if_neg (by omega)]
                  repeat' split
                  all_goals first | rfl | (exfalso; omega), rfl, h350, hF362⟩)))
          · show pl _ _ _ (162, [(0, .ref r), (1, .int (nI k)), (2, .int (nI p)), (3, .int (nI (by1 f p)))], [], M225) _
            have m_90 := sw_nat (t := by1 f p) (by omega) et_90
            simp at m_90
            refine ps_st (S' := (163, [(0, .ref r), (1, .int (nI k)), (2, .int (nI p)), (3, .int (nI (by1 f p)))], [.ref r], M225)) rfl rfl rfl ?_
            refine ps_st (S' := (164, [(0, .ref r), (1, .int (nI k)), (2, .int (nI p)), (3, .int (nI (by1 f p)))], [.int (nI k), .ref r], M225)) rfl rfl rfl ?_
            refine ps_st (S' := (165, [(0, .ref r), (1, .int (nI k)), (2, .int (nI p)), (3, .int (nI (by1 f p)))], [.int (nI (by1 f p)), .int (nI k), .ref r], M225)) rfl rfl rfl ?_
            refine pl_call (a := [.ref r, .int (nI k), .int (nI (by1 f p))]) (rest := []) rfl rfl rfl (dx_takesIndexes h231 h232 h233 h234 h235 h236 h227 h237 h238 (hn) (by omega) (hD) (hh) (hk3 (by omega)) (by1_lt _ _)) (fun v363 M364 q365 => ?_)
            rcases q365 with q365 | q365
            · skip
              obtain ⟨p'366, x367, y368, it'369, q165_s, rfl, h370, h371, h372, h373, f374⟩ := q365
              have h376 := (f374.1 b (nin4 (ob_ne h232 h231 (by decide)) (ob_ne h232 h234 (by decide)) (ob_ar h232 h237) (ob_ar h232 h238))).trans h232
              have h377 := (f374.1 da (nin4 (Ne.symm (ob_ar h231 h233)) (Ne.symm (ob_ar h234 h233)) (ar_ne h233 h237 (by decide)) (ar_ne h233 h238 (by decide)))).trans h233
              have h378 := (f374.1 c (nin4 (ob_ne h235 h231 (by decide)) (ob_ne h235 h234 (by decide)) (ob_ar h235 h237) (ob_ar h235 h238))).trans h235
              have h379 := (f374.1 pq (nin4 (ob_ne h236 h231 (by decide)) (ob_ne h236 h234 (by decide)) (ob_ar h236 h237) (ob_ar h236 h238))).trans h236
              have h380 := (f374.1 q1 (nin4 (Ne.symm (ob_ar h231 h227)) (Ne.symm (ob_ar h234 h227)) hD.1.2.1 hD.1.2.2.1)).trans h227
              have h381 := (f374.1 q2 (nin4 (Ne.symm (ob_ar h231 h228)) (Ne.symm (ob_ar h234 h228)) hD.2.1.1 hD.2.1.2.1)).trans h228
              have h382 := (f374.1 q6 (nin4 (Ne.symm (ob_ar h231 h239)) (Ne.symm (ob_ar h234 h239)) (ar_ne h239 h237 (by decide)) (ar_ne h239 h238 (by decide)))).trans h239
              have hF383 := hF240.tr f374 (by simp)
              show pl _ _ _ (168, [(0, .ref r), (1, .int (nI k)), (2, .int (nI p)), (3, .int (nI (by1 f p)))], [.int 1], M364) _
              exact ps_ret rfl rfl (Or.inr (Or.inr (Or.inl ⟨_, _, _, _, by
                  unfold s_entry
                  rw [if_neg (by omega), if_neg (fun h => h (by assumption)), if_neg (by omega)]
                  rw [if_neg (by omega), if_neg (by omega), if_neg (by omega), q165_s], s_ix_le q165_s, rfl, h380, h381, h370, h371, h379, h372, h373, h382, hF383⟩)))
            · skip
              obtain ⟨e384, q165_s, rfl, h385, f386⟩ := q365
              have h388 := (f386.1 b (nin4 (ob_ne h232 h231 (by decide)) (ob_ne h232 h234 (by decide)) (ob_ar h232 h237) (ob_ar h232 h238))).trans h232
              have h389 := (f386.1 da (nin4 (Ne.symm (ob_ar h231 h233)) (Ne.symm (ob_ar h234 h233)) (ar_ne h233 h237 (by decide)) (ar_ne h233 h238 (by decide)))).trans h233
              have h390 := (f386.1 c (nin4 (ob_ne h235 h231 (by decide)) (ob_ne h235 h234 (by decide)) (ob_ar h235 h237) (ob_ar h235 h238))).trans h235
              have h391 := (f386.1 pq (nin4 (ob_ne h236 h231 (by decide)) (ob_ne h236 h234 (by decide)) (ob_ar h236 h237) (ob_ar h236 h238))).trans h236
              have h392 := (f386.1 q1 (nin4 (Ne.symm (ob_ar h231 h227)) (Ne.symm (ob_ar h234 h227)) hD.1.2.1 hD.1.2.2.1)).trans h227
              have h393 := (f386.1 q2 (nin4 (Ne.symm (ob_ar h231 h228)) (Ne.symm (ob_ar h234 h228)) hD.2.1.1 hD.2.1.2.1)).trans h228
              have h394 := (f386.1 q6 (nin4 (Ne.symm (ob_ar h231 h239)) (Ne.symm (ob_ar h234 h239)) (ar_ne h239 h237 (by decide)) (ar_ne h239 h238 (by decide)))).trans h239
              have hF395 := hF240.tr f386 (by simp)
              show pl _ _ _ (168, [(0, .ref r), (1, .int (nI k)), (2, .int (nI p)), (3, .int (nI (by1 f p)))], [.int 0], M364) _
              exact ps_ret rfl rfl (Or.inr (Or.inr (Or.inr ⟨_, by
                  unfold s_entry
                  rw [if_neg (by omega), if_neg (fun h => h (by assumption)), if_neg (by omega)]
                  rw [if_neg (by omega), if_neg (by omega), if_neg (by omega), q165_s], rfl, h385, hF395⟩)))
        · have c_46 : ¬ (¬ (nI (by1 f p)) = 6) := of_decide_eq_false c_46
          have n_46 : by1 f p = 6 := (eq_nI (p := by1 f p) (n := 6) (Nat.lt_trans (by1_lt _ _) (by decide)) (by decide)).mp (Decidable.not_not.mp c_46)
          refine ps_st (S' := (50, [(0, .ref r), (1, .int (nI k)), (2, .int (nI p)), (3, .int (nI (by1 f p)))], [.int (nI k)], M19)) rfl rfl rfl ?_
          refine ps_st (S' := (51, [(0, .ref r), (1, .int (nI k)), (2, .int (nI p)), (3, .int (nI (by1 f p)))], [.int 1, .int (nI k)], M19)) rfl rfl rfl ?_
          refine ps_st (S' := (52, [(0, .ref r), (1, .int (nI k)), (2, .int (nI p)), (3, .int (nI (by1 f p)))], [.int ((nI k) + 1)], M19)) rfl rfl rfl ?_
          rw [nI_add1 (p := k) (k := 1) (x := 1) rfl (by omega)]
          show pl _ _ _ (_, [(0, .ref r), (1, .int (nI k)), (2, .int (nI p)), (3, .int (nI (by1 f p)))], [.int (nI (k + 1))], M19) _
          refine ps_st (S' := (53, [(0, .ref r), (1, .int (nI k)), (2, .int (nI p)), (3, .int (nI (by1 f p)))], [.ref r, .int (nI (k + 1))], M19)) rfl rfl rfl ?_
          refine ps_get (S' := (56, [(0, .ref r), (1, .int (nI k)), (2, .int (nI p)), (3, .int (nI (by1 f p)))], [.ref c, .int (nI (k + 1))], M19)) rfl h23 rfl rfl ?_
          refine ps_get (S' := (59, [(0, .ref r), (1, .int (nI k)), (2, .int (nI p)), (3, .int (nI (by1 f p)))], [.ref pq, .int (nI (k + 1))], M19)) rfl h27 rfl rfl ?_
          refine ps_get (S' := (62, [(0, .ref r), (1, .int (nI k)), (2, .int (nI p)), (3, .int (nI (by1 f p)))], [.int (nI N), .int (nI (k + 1))], M19)) rfl h28 rfl rfl ?_
          refine ps_if2 (S1 := (76, [(0, .ref r), (1, .int (nI k)), (2, .int (nI p)), (3, .int (nI (by1 f p)))], [], M19)) (S2 := (65, [(0, .ref r), (1, .int (nI k)), (2, .int (nI p)), (3, .int (nI (by1 f p)))], [], M19)) rfl rfl rfl (fun c_62 => ?_) (fun c_62 => ?_)
          · have c_62 : (nI (k + 1)) < (nI N) := of_decide_eq_true c_62
            have n_62 : k + 1 < N := (lt_nI (p := k + 1) (n := N) (by omega) (by omega)).mp c_62
            refine ps_st (S' := (77, [(0, .ref r), (1, .int (nI k)), (2, .int (nI p)), (3, .int (nI (by1 f p)))], [.ref r], M19)) rfl rfl rfl ?_
            refine ps_get (S' := (80, [(0, .ref r), (1, .int (nI k)), (2, .int (nI p)), (3, .int (nI (by1 f p)))], [.ref c], M19)) rfl h23 rfl rfl ?_
            refine ps_get (S' := (83, [(0, .ref r), (1, .int (nI k)), (2, .int (nI p)), (3, .int (nI (by1 f p)))], [.ref pq], M19)) rfl h27 rfl rfl ?_
            refine ps_st (S' := (84, [(0, .ref r), (1, .int (nI k)), (2, .int (nI p)), (3, .int (nI (by1 f p)))], [.int (nI k), .ref pq], M19)) rfl rfl rfl ?_
            refine ps_st (S' := (85, [(0, .ref r), (1, .int (nI k)), (2, .int (nI p)), (3, .int (nI (by1 f p)))], [.int (nI (by1 f p)), .int (nI k), .ref pq], M19)) rfl rfl rfl ?_
            refine ps_st (S' := (86, [(0, .ref r), (1, .int (nI k)), (2, .int (nI p)), (3, .int (nI (by1 f p)))], [.int (nI p), .int (nI (by1 f p)), .int (nI k), .ref pq], M19)) rfl rfl rfl ?_
            refine pl_call (a := [.ref pq, .int (nI k), .int (nI (by1 f p)), .int (nI p)]) (rest := []) rfl rfl rfl (dx_setTag h28 h29 h32 (hD) (hh) (hk3 (by omega))) (fun v396 M397 q398 => ?_)
            obtain ⟨rfl, h399, h400, f401⟩ := q398
            have h403 := (f401.1 r (nin2 (ob_ar h23 h29) (ob_ar h23 h32))).trans h23
            have h404 := (f401.1 b (nin2 (ob_ar h24 h29) (ob_ar h24 h32))).trans h24
            have h405 := (f401.1 da (nin2 (ar_ne h25 h29 (by decide)) (ar_ne h25 h32 (by decide)))).trans h25
            have h406 := (f401.1 vd (nin2 (ob_ar h26 h29) (ob_ar h26 h32))).trans h26
            have h407 := (f401.1 c (nin2 (ob_ar h27 h29) (ob_ar h27 h32))).trans h27
            have h408 := (f401.1 pq (nin2 (ob_ar h28 h29) (ob_ar h28 h32))).trans h28
            have h409 := (f401.1 q3 (nin2 (Ne.symm hD.1.2.1) (Ne.symm hD.2.1.1))).trans h30
            have h410 := (f401.1 q4 (nin2 (Ne.symm hD.1.2.2.1) (Ne.symm hD.2.1.2.1))).trans h31
            have h411 := (f401.1 q6 (nin2 (ar_ne h33 h29 (by decide)) (ar_ne h33 h32 (by decide)))).trans h33
            have hF412 := hF34.tr f401 (by simp)
            show pl _ _ _ (89, [(0, .ref r), (1, .int (nI k)), (2, .int (nI p)), (3, .int (nI (by1 f p)))], [], M397) _
            refine ps_st (S' := (90, [(0, .ref r), (1, .int (nI k)), (2, .int (nI p)), (3, .int (nI (by1 f p)))], [.int (nI (by1 f p))], M397)) rfl rfl rfl ?_
            refine pl_sw rfl (fun t_90 et_90 => ?_)
            have ht_90 : t_90 ∈ [128, 134, 140, 162] := mi_sw_sub et_90 (by decide)
            simp only [List.mem_cons, List.not_mem_nil, or_false] at ht_90
            rcases ht_90 with rfl | rfl | rfl | rfl
            · show pl _ _ _ (128, [(0, .ref r), (1, .int (nI k)), (2, .int (nI p)), (3, .int (nI (by1 f p)))], [], M397) _
              have m_90 := sw_nat (t := by1 f p) (by omega) et_90
              simp at m_90
              refine ps_st (S' := (129, [(0, .ref r), (1, .int (nI k)), (2, .int (nI p)), (3, .int (nI (by1 f p)))], [.ref r], M397)) rfl rfl rfl ?_
              refine ps_st (S' := (130, [(0, .ref r), (1, .int (nI k)), (2, .int (nI p)), (3, .int (nI (by1 f p)))], [.int (nI k), .ref r], M397)) rfl rfl rfl ?_
              refine pl_call (a := [.ref r, .int (nI k)]) (rest := []) rfl rfl rfl (dx_takesText h403 h404 h405 h406 h407 h408 h399 h409 h410 h411 (hn) (by omega) (hD) (hh) (hm) (hk3 (by omega)) (by omega)) (fun v413 M414 q415 => ?_)
              rcases q415 with q415 | q415
              · skip
                obtain ⟨l416, it'417, q130_s, q130_e, q130_c, rfl, h418, h419, h420, h421, h422, h423, f424⟩ := q415
                have h426 := (f424.1 b (nin6 (ob_ne h404 h403 (by decide)) (ob_ne h404 h406 (by decide)) (ob_ne h404 h408 (by decide)) (ob_ar h404 h409) (ob_ar h404 h410) (ob_ar h404 h411))).trans h404
                have h427 := (f424.1 da (nin6 (Ne.symm (ob_ar h403 h405)) (Ne.symm (ob_ar h406 h405)) (Ne.symm (ob_ar h408 h405)) (ar_ne h405 h409 (by decide)) (ar_ne h405 h410 (by decide)) (ar_ne h405 h411 (by decide)))).trans h405
                have h428 := (f424.1 c (nin6 (ob_ne h407 h403 (by decide)) (ob_ne h407 h406 (by decide)) (ob_ne h407 h408 (by decide)) (ob_ar h407 h409) (ob_ar h407 h410) (ob_ar h407 h411))).trans h407
                have h429 := (f424.1 q1 (nin6 (Ne.symm (ob_ar h403 h399)) (Ne.symm (ob_ar h406 h399)) (Ne.symm (ob_ar h408 h399)) hD.1.2.1 hD.1.2.2.1 (ar_ne h399 h411 (by decide)))).trans h399
                have h430 := (f424.1 q2 (nin6 (Ne.symm (ob_ar h403 h400)) (Ne.symm (ob_ar h406 h400)) (Ne.symm (ob_ar h408 h400)) hD.2.1.1 hD.2.1.2.1 (ar_ne h400 h411 (by decide)))).trans h400
                have hF431 := hF412.tr f424 (by simp)
                show pl _ _ _ (133, [(0, .ref r), (1, .int (nI k)), (2, .int (nI p)), (3, .int (nI (by1 f p)))], [.int 1], M414) _
                exact ps_ret rfl rfl (Or.inl ⟨_, l416, _, by
                    unfold s_entry
                    rw [if_neg (by omega), if_neg (fun h => h (by assumption)), if_neg (by omega)]
                    rw [if_pos (by omega), q130_s], by omega, by omega, rfl, h429, h430, h418, h419, h420, h421, h422, h423, hF431⟩)
              · skip
                obtain ⟨e432, q130_s, rfl, h433, f434⟩ := q415
                have h436 := (f434.1 b (nin6 (ob_ne h404 h403 (by decide)) (ob_ne h404 h406 (by decide)) (ob_ne h404 h408 (by decide)) (ob_ar h404 h409) (ob_ar h404 h410) (ob_ar h404 h411))).trans h404
                have h437 := (f434.1 da (nin6 (Ne.symm (ob_ar h403 h405)) (Ne.symm (ob_ar h406 h405)) (Ne.symm (ob_ar h408 h405)) (ar_ne h405 h409 (by decide)) (ar_ne h405 h410 (by decide)) (ar_ne h405 h411 (by decide)))).trans h405
                have h438 := (f434.1 c (nin6 (ob_ne h407 h403 (by decide)) (ob_ne h407 h406 (by decide)) (ob_ne h407 h408 (by decide)) (ob_ar h407 h409) (ob_ar h407 h410) (ob_ar h407 h411))).trans h407
                have h439 := (f434.1 q1 (nin6 (Ne.symm (ob_ar h403 h399)) (Ne.symm (ob_ar h406 h399)) (Ne.symm (ob_ar h408 h399)) hD.1.2.1 hD.1.2.2.1 (ar_ne h399 h411 (by decide)))).trans h399
                have h440 := (f434.1 q2 (nin6 (Ne.symm (ob_ar h403 h400)) (Ne.symm (ob_ar h406 h400)) (Ne.symm (ob_ar h408 h400)) hD.2.1.1 hD.2.1.2.1 (ar_ne h400 h411 (by decide)))).trans h400
                have hF441 := hF412.tr f434 (by simp)
                show pl _ _ _ (133, [(0, .ref r), (1, .int (nI k)), (2, .int (nI p)), (3, .int (nI (by1 f p)))], [.int 0], M414) _
                exact ps_ret rfl rfl (Or.inr (Or.inr (Or.inr ⟨_, by
                    unfold s_entry
                    rw [if_neg (by omega), if_neg (fun h => h (by assumption)), if_neg (by omega)]
                    rw [if_pos (by omega), q130_s], rfl, h433, hF441⟩)))
            · show pl _ _ _ (134, [(0, .ref r), (1, .int (nI k)), (2, .int (nI p)), (3, .int (nI (by1 f p)))], [], M397) _
              have m_90 := sw_nat (t := by1 f p) (by omega) et_90
              simp at m_90
              refine ps_st (S' := (135, [(0, .ref r), (1, .int (nI k)), (2, .int (nI p)), (3, .int (nI (by1 f p)))], [.ref r], M397)) rfl rfl rfl ?_
              refine ps_st (S' := (136, [(0, .ref r), (1, .int (nI k)), (2, .int (nI p)), (3, .int (nI (by1 f p)))], [.int 4, .ref r], M397)) rfl rfl rfl ?_
              refine pl_call (a := [.ref r, .int 4]) (rest := []) rfl rfl rfl (dx_takes4 h403 h404 h405 h406 (hn) (by omega)) (fun v442 M443 q444 => ?_)
              rcases q444 with q444 | q444
              · skip
                obtain ⟨q136_ok, rfl, h445, h446, f447⟩ := q444
                have h449 := (f447.1 b (nin2 (ob_ne h404 h403 (by decide)) (ob_ne h404 h406 (by decide)))).trans h404
                have h450 := (f447.1 da (nin2 (Ne.symm (ob_ar h403 h405)) (Ne.symm (ob_ar h406 h405)))).trans h405
                have h451 := (f447.1 c (nin2 (ob_ne h407 h403 (by decide)) (ob_ne h407 h406 (by decide)))).trans h407
                have h452 := (f447.1 pq (nin2 (ob_ne h408 h403 (by decide)) (ob_ne h408 h406 (by decide)))).trans h408
                have h453 := (f447.1 q1 (nin2 (Ne.symm (ob_ar h403 h399)) (Ne.symm (ob_ar h406 h399)))).trans h399
                have h454 := (f447.1 q3 (nin2 (Ne.symm (ob_ar h403 h409)) (Ne.symm (ob_ar h406 h409)))).trans h409
                have h455 := (f447.1 q4 (nin2 (Ne.symm (ob_ar h403 h410)) (Ne.symm (ob_ar h406 h410)))).trans h410
                have h456 := (f447.1 q2 (nin2 (Ne.symm (ob_ar h403 h400)) (Ne.symm (ob_ar h406 h400)))).trans h400
                have h457 := (f447.1 q6 (nin2 (Ne.symm (ob_ar h403 h411)) (Ne.symm (ob_ar h406 h411)))).trans h411
                have hF458 := hF412.tr f447 (by simp)
                show pl _ _ _ (139, [(0, .ref r), (1, .int (nI k)), (2, .int (nI p)), (3, .int (nI (by1 f p)))], [.int 1], M443) _
                exact ps_ret rfl rfl (Or.inr (Or.inl ⟨p + 5, _, by
                    unfold s_entry
                    rw [if_neg (by omega), if_neg (fun h => h (by assumption)), if_neg (by omega)]
                    repeat' split
                    all_goals first | rfl | (exfalso; omega), by omega, rfl, h453, h456, h445, h446, h452, h454, h455, h457, hF458⟩))
              · skip
                obtain ⟨q136_no, rfl, h459, h460, f461⟩ := q444
                have h463 := (f461.1 b (nin2 (ob_ne h404 h403 (by decide)) (ob_ne h404 h406 (by decide)))).trans h404
                have h464 := (f461.1 da (nin2 (Ne.symm (ob_ar h403 h405)) (Ne.symm (ob_ar h406 h405)))).trans h405
                have h465 := (f461.1 c (nin2 (ob_ne h407 h403 (by decide)) (ob_ne h407 h406 (by decide)))).trans h407
                have h466 := (f461.1 pq (nin2 (ob_ne h408 h403 (by decide)) (ob_ne h408 h406 (by decide)))).trans h408
                have h467 := (f461.1 q1 (nin2 (Ne.symm (ob_ar h403 h399)) (Ne.symm (ob_ar h406 h399)))).trans h399
                have h468 := (f461.1 q3 (nin2 (Ne.symm (ob_ar h403 h409)) (Ne.symm (ob_ar h406 h409)))).trans h409
                have h469 := (f461.1 q4 (nin2 (Ne.symm (ob_ar h403 h410)) (Ne.symm (ob_ar h406 h410)))).trans h410
                have h470 := (f461.1 q2 (nin2 (Ne.symm (ob_ar h403 h400)) (Ne.symm (ob_ar h406 h400)))).trans h400
                have h471 := (f461.1 q6 (nin2 (Ne.symm (ob_ar h403 h411)) (Ne.symm (ob_ar h406 h411)))).trans h411
                have hF472 := hF412.tr f461 (by simp)
                show pl _ _ _ (139, [(0, .ref r), (1, .int (nI k)), (2, .int (nI p)), (3, .int (nI (by1 f p)))], [.int 0], M443) _
                exact ps_ret rfl rfl (Or.inr (Or.inr (Or.inr ⟨(1, p + 1), by
                    unfold s_entry
                    rw [if_neg (by omega), if_neg (fun h => h (by assumption)), if_neg (by omega)]
                    repeat' split
                    all_goals first | rfl | (exfalso; omega), rfl, h460, hF472⟩)))
            · show pl _ _ _ (140, [(0, .ref r), (1, .int (nI k)), (2, .int (nI p)), (3, .int (nI (by1 f p)))], [], M397) _
              have m_90 := sw_nat (t := by1 f p) (by omega) et_90
              simp at m_90
              refine ps_st (S' := (141, [(0, .ref r), (1, .int (nI k)), (2, .int (nI p)), (3, .int (nI (by1 f p)))], [.ref r], M397)) rfl rfl rfl ?_
              refine ps_st (S' := (142, [(0, .ref r), (1, .int (nI k)), (2, .int (nI p)), (3, .int (nI (by1 f p)))], [.int 4, .ref r], M397)) rfl rfl rfl ?_
              refine pl_call (a := [.ref r, .int 4]) (rest := []) rfl rfl rfl (dx_takes4 h403 h404 h405 h406 (hn) (by omega)) (fun v473 M474 q475 => ?_)
              rcases q475 with q475 | q475
              · skip
                obtain ⟨q142_ok, rfl, h476, h477, f478⟩ := q475
                have h480 := (f478.1 b (nin2 (ob_ne h404 h403 (by decide)) (ob_ne h404 h406 (by decide)))).trans h404
                have h481 := (f478.1 da (nin2 (Ne.symm (ob_ar h403 h405)) (Ne.symm (ob_ar h406 h405)))).trans h405
                have h482 := (f478.1 c (nin2 (ob_ne h407 h403 (by decide)) (ob_ne h407 h406 (by decide)))).trans h407
                have h483 := (f478.1 pq (nin2 (ob_ne h408 h403 (by decide)) (ob_ne h408 h406 (by decide)))).trans h408
                have h484 := (f478.1 q1 (nin2 (Ne.symm (ob_ar h403 h399)) (Ne.symm (ob_ar h406 h399)))).trans h399
                have h485 := (f478.1 q3 (nin2 (Ne.symm (ob_ar h403 h409)) (Ne.symm (ob_ar h406 h409)))).trans h409
                have h486 := (f478.1 q4 (nin2 (Ne.symm (ob_ar h403 h410)) (Ne.symm (ob_ar h406 h410)))).trans h410
                have h487 := (f478.1 q2 (nin2 (Ne.symm (ob_ar h403 h400)) (Ne.symm (ob_ar h406 h400)))).trans h400
                have h488 := (f478.1 q6 (nin2 (Ne.symm (ob_ar h403 h411)) (Ne.symm (ob_ar h406 h411)))).trans h411
                have hF489 := hF412.tr f478 (by simp)
                show pl _ _ _ (145, [(0, .ref r), (1, .int (nI k)), (2, .int (nI p)), (3, .int (nI (by1 f p)))], [.int 1], M474) _
                refine ps_if (S1 := (160, [], [], M474)) (S2 := (148, [(0, .ref r), (1, .int (nI k)), (2, .int (nI p)), (3, .int (nI (by1 f p)))], [], M474)) rfl rfl rfl (fun c_145 => ?_) (fun c_145 => ?_)
                · exact absurd (of_decide_eq_true c_145) (by decide)
                refine ps_st (S' := (149, [(0, .ref r), (1, .int (nI k)), (2, .int (nI p)), (3, .int (nI (by1 f p)))], [.ref r], M474)) rfl rfl rfl ?_
                refine ps_st (S' := (150, [(0, .ref r), (1, .int (nI k)), (2, .int (nI p)), (3, .int (nI (by1 f p)))], [.int 4, .ref r], M474)) rfl rfl rfl ?_
                refine pl_call (a := [.ref r, .int 4]) (rest := []) rfl rfl rfl (dx_takes4 h476 h480 h481 h477 (hn) (by omega)) (fun v490 M491 q492 => ?_)
                rcases q492 with q492 | q492
                · skip
                  obtain ⟨q150_ok, rfl, h493, h494, f495⟩ := q492
                  have h497 := (f495.1 b (nin2 (ob_ne h480 h476 (by decide)) (ob_ne h480 h477 (by decide)))).trans h480
                  have h498 := (f495.1 da (nin2 (Ne.symm (ob_ar h476 h481)) (Ne.symm (ob_ar h477 h481)))).trans h481
                  have h499 := (f495.1 c (nin2 (ob_ne h482 h476 (by decide)) (ob_ne h482 h477 (by decide)))).trans h482
                  have h500 := (f495.1 pq (nin2 (ob_ne h483 h476 (by decide)) (ob_ne h483 h477 (by decide)))).trans h483
                  have h501 := (f495.1 q1 (nin2 (Ne.symm (ob_ar h476 h484)) (Ne.symm (ob_ar h477 h484)))).trans h484
                  have h502 := (f495.1 q3 (nin2 (Ne.symm (ob_ar h476 h485)) (Ne.symm (ob_ar h477 h485)))).trans h485
                  have h503 := (f495.1 q4 (nin2 (Ne.symm (ob_ar h476 h486)) (Ne.symm (ob_ar h477 h486)))).trans h486
                  have h504 := (f495.1 q2 (nin2 (Ne.symm (ob_ar h476 h487)) (Ne.symm (ob_ar h477 h487)))).trans h487
                  have h505 := (f495.1 q6 (nin2 (Ne.symm (ob_ar h476 h488)) (Ne.symm (ob_ar h477 h488)))).trans h488
                  have hF506 := hF489.tr f495 (by simp)
                  show pl _ _ _ (153, [(0, .ref r), (1, .int (nI k)), (2, .int (nI p)), (3, .int (nI (by1 f p)))], [.int 1], M491) _
                  refine ps_if (S1 := (160, [], [], M491)) (S2 := (156, [(0, .ref r), (1, .int (nI k)), (2, .int (nI p)), (3, .int (nI (by1 f p)))], [], M491)) rfl rfl rfl (fun c_153 => ?_) (fun c_153 => ?_)
                  · exact absurd (of_decide_eq_true c_153) (by decide)
                  refine ps_st (S' := (157, [(0, .ref r), (1, .int (nI k)), (2, .int (nI p)), (3, .int (nI (by1 f p)))], [.int 1], M491)) rfl rfl rfl ?_
                  refine ps_st (S' := (161, [], [.int 1], M491)) rfl rfl rfl ?_
                  exact ps_ret rfl rfl (Or.inr (Or.inl ⟨p + 9, _, by
                      unfold s_entry
                      rw [if_neg (by omega), if_neg (fun h => h (by assumption)), if_neg (by omega)]
                      repeat' split
                      all_goals first | rfl | (exfalso; omega), by omega, rfl, h501, h504, h493, h494, h500, h502, h503, h505, hF506⟩))
                · skip
                  obtain ⟨q150_no, rfl, h507, h508, f509⟩ := q492
                  have h511 := (f509.1 b (nin2 (ob_ne h480 h476 (by decide)) (ob_ne h480 h477 (by decide)))).trans h480
                  have h512 := (f509.1 da (nin2 (Ne.symm (ob_ar h476 h481)) (Ne.symm (ob_ar h477 h481)))).trans h481
                  have h513 := (f509.1 c (nin2 (ob_ne h482 h476 (by decide)) (ob_ne h482 h477 (by decide)))).trans h482
                  have h514 := (f509.1 pq (nin2 (ob_ne h483 h476 (by decide)) (ob_ne h483 h477 (by decide)))).trans h483
                  have h515 := (f509.1 q1 (nin2 (Ne.symm (ob_ar h476 h484)) (Ne.symm (ob_ar h477 h484)))).trans h484
                  have h516 := (f509.1 q3 (nin2 (Ne.symm (ob_ar h476 h485)) (Ne.symm (ob_ar h477 h485)))).trans h485
                  have h517 := (f509.1 q4 (nin2 (Ne.symm (ob_ar h476 h486)) (Ne.symm (ob_ar h477 h486)))).trans h486
                  have h518 := (f509.1 q2 (nin2 (Ne.symm (ob_ar h476 h487)) (Ne.symm (ob_ar h477 h487)))).trans h487
                  have h519 := (f509.1 q6 (nin2 (Ne.symm (ob_ar h476 h488)) (Ne.symm (ob_ar h477 h488)))).trans h488
                  have hF520 := hF489.tr f509 (by simp)
                  show pl _ _ _ (153, [(0, .ref r), (1, .int (nI k)), (2, .int (nI p)), (3, .int (nI (by1 f p)))], [.int 0], M491) _
                  refine ps_if (S1 := (160, [], [], M491)) (S2 := (156, [(0, .ref r), (1, .int (nI k)), (2, .int (nI p)), (3, .int (nI (by1 f p)))], [], M491)) rfl rfl rfl (fun c_153 => ?_) (fun c_153 => ?_)
                  rotate_left
                  · exact absurd (by decide) (of_decide_eq_false c_153)
                  refine ps_st (S' := (161, [], [.int 0], M491)) rfl rfl rfl ?_
                  exact ps_ret rfl rfl (Or.inr (Or.inr (Or.inr ⟨(1, p + 5), by
                      unfold s_entry
                      rw [if_neg (by omega), if_neg (fun h => h (by assumption)), if_neg (by omega)]
                      repeat' split
                      all_goals first | rfl | (exfalso; omega), rfl, h508, hF520⟩)))
              · skip
                obtain ⟨q142_no, rfl, h521, h522, f523⟩ := q475
                have h525 := (f523.1 b (nin2 (ob_ne h404 h403 (by decide)) (ob_ne h404 h406 (by decide)))).trans h404
                have h526 := (f523.1 da (nin2 (Ne.symm (ob_ar h403 h405)) (Ne.symm (ob_ar h406 h405)))).trans h405
                have h527 := (f523.1 c (nin2 (ob_ne h407 h403 (by decide)) (ob_ne h407 h406 (by decide)))).trans h407
                have h528 := (f523.1 pq (nin2 (ob_ne h408 h403 (by decide)) (ob_ne h408 h406 (by decide)))).trans h408
                have h529 := (f523.1 q1 (nin2 (Ne.symm (ob_ar h403 h399)) (Ne.symm (ob_ar h406 h399)))).trans h399
                have h530 := (f523.1 q3 (nin2 (Ne.symm (ob_ar h403 h409)) (Ne.symm (ob_ar h406 h409)))).trans h409
                have h531 := (f523.1 q4 (nin2 (Ne.symm (ob_ar h403 h410)) (Ne.symm (ob_ar h406 h410)))).trans h410
                have h532 := (f523.1 q2 (nin2 (Ne.symm (ob_ar h403 h400)) (Ne.symm (ob_ar h406 h400)))).trans h400
                have h533 := (f523.1 q6 (nin2 (Ne.symm (ob_ar h403 h411)) (Ne.symm (ob_ar h406 h411)))).trans h411
                have hF534 := hF412.tr f523 (by simp)
                show pl _ _ _ (145, [(0, .ref r), (1, .int (nI k)), (2, .int (nI p)), (3, .int (nI (by1 f p)))], [.int 0], M474) _
                refine ps_if (S1 := (160, [], [], M474)) (S2 := (148, [(0, .ref r), (1, .int (nI k)), (2, .int (nI p)), (3, .int (nI (by1 f p)))], [], M474)) rfl rfl rfl (fun c_145 => ?_) (fun c_145 => ?_)
                rotate_left
                · exact absurd (by decide) (of_decide_eq_false c_145)
                refine ps_st (S' := (161, [], [.int 0], M474)) rfl rfl rfl ?_
                exact ps_ret rfl rfl (Or.inr (Or.inr (Or.inr ⟨(1, p + 1), by
                    unfold s_entry
                    rw [if_neg (by omega), if_neg (fun h => h (by assumption)), if_neg (by omega)]
                    repeat' split
                    all_goals first | rfl | (exfalso; omega), rfl, h522, hF534⟩)))
            · show pl _ _ _ (162, [(0, .ref r), (1, .int (nI k)), (2, .int (nI p)), (3, .int (nI (by1 f p)))], [], M397) _
              have m_90 := sw_nat (t := by1 f p) (by omega) et_90
              simp at m_90
              refine ps_st (S' := (163, [(0, .ref r), (1, .int (nI k)), (2, .int (nI p)), (3, .int (nI (by1 f p)))], [.ref r], M397)) rfl rfl rfl ?_
              refine ps_st (S' := (164, [(0, .ref r), (1, .int (nI k)), (2, .int (nI p)), (3, .int (nI (by1 f p)))], [.int (nI k), .ref r], M397)) rfl rfl rfl ?_
              refine ps_st (S' := (165, [(0, .ref r), (1, .int (nI k)), (2, .int (nI p)), (3, .int (nI (by1 f p)))], [.int (nI (by1 f p)), .int (nI k), .ref r], M397)) rfl rfl rfl ?_
              refine pl_call (a := [.ref r, .int (nI k), .int (nI (by1 f p))]) (rest := []) rfl rfl rfl (dx_takesIndexes h403 h404 h405 h406 h407 h408 h399 h409 h410 (hn) (by omega) (hD) (hh) (hk3 (by omega)) (by1_lt _ _)) (fun v535 M536 q537 => ?_)
              rcases q537 with q537 | q537
              · skip
                obtain ⟨p'538, x539, y540, it'541, q165_s, rfl, h542, h543, h544, h545, f546⟩ := q537
                have h548 := (f546.1 b (nin4 (ob_ne h404 h403 (by decide)) (ob_ne h404 h406 (by decide)) (ob_ar h404 h409) (ob_ar h404 h410))).trans h404
                have h549 := (f546.1 da (nin4 (Ne.symm (ob_ar h403 h405)) (Ne.symm (ob_ar h406 h405)) (ar_ne h405 h409 (by decide)) (ar_ne h405 h410 (by decide)))).trans h405
                have h550 := (f546.1 c (nin4 (ob_ne h407 h403 (by decide)) (ob_ne h407 h406 (by decide)) (ob_ar h407 h409) (ob_ar h407 h410))).trans h407
                have h551 := (f546.1 pq (nin4 (ob_ne h408 h403 (by decide)) (ob_ne h408 h406 (by decide)) (ob_ar h408 h409) (ob_ar h408 h410))).trans h408
                have h552 := (f546.1 q1 (nin4 (Ne.symm (ob_ar h403 h399)) (Ne.symm (ob_ar h406 h399)) hD.1.2.1 hD.1.2.2.1)).trans h399
                have h553 := (f546.1 q2 (nin4 (Ne.symm (ob_ar h403 h400)) (Ne.symm (ob_ar h406 h400)) hD.2.1.1 hD.2.1.2.1)).trans h400
                have h554 := (f546.1 q6 (nin4 (Ne.symm (ob_ar h403 h411)) (Ne.symm (ob_ar h406 h411)) (ar_ne h411 h409 (by decide)) (ar_ne h411 h410 (by decide)))).trans h411
                have hF555 := hF412.tr f546 (by simp)
                show pl _ _ _ (168, [(0, .ref r), (1, .int (nI k)), (2, .int (nI p)), (3, .int (nI (by1 f p)))], [.int 1], M536) _
                exact ps_ret rfl rfl (Or.inr (Or.inr (Or.inl ⟨_, _, _, _, by
                    unfold s_entry
                    rw [if_neg (by omega), if_neg (fun h => h (by assumption)), if_neg (by omega)]
                    rw [if_neg (by omega), if_neg (by omega), if_neg (by omega), q165_s], s_ix_le q165_s, rfl, h552, h553, h542, h543, h551, h544, h545, h554, hF555⟩)))
              · skip
                obtain ⟨e556, q165_s, rfl, h557, f558⟩ := q537
                have h560 := (f558.1 b (nin4 (ob_ne h404 h403 (by decide)) (ob_ne h404 h406 (by decide)) (ob_ar h404 h409) (ob_ar h404 h410))).trans h404
                have h561 := (f558.1 da (nin4 (Ne.symm (ob_ar h403 h405)) (Ne.symm (ob_ar h406 h405)) (ar_ne h405 h409 (by decide)) (ar_ne h405 h410 (by decide)))).trans h405
                have h562 := (f558.1 c (nin4 (ob_ne h407 h403 (by decide)) (ob_ne h407 h406 (by decide)) (ob_ar h407 h409) (ob_ar h407 h410))).trans h407
                have h563 := (f558.1 pq (nin4 (ob_ne h408 h403 (by decide)) (ob_ne h408 h406 (by decide)) (ob_ar h408 h409) (ob_ar h408 h410))).trans h408
                have h564 := (f558.1 q1 (nin4 (Ne.symm (ob_ar h403 h399)) (Ne.symm (ob_ar h406 h399)) hD.1.2.1 hD.1.2.2.1)).trans h399
                have h565 := (f558.1 q2 (nin4 (Ne.symm (ob_ar h403 h400)) (Ne.symm (ob_ar h406 h400)) hD.2.1.1 hD.2.1.2.1)).trans h400
                have h566 := (f558.1 q6 (nin4 (Ne.symm (ob_ar h403 h411)) (Ne.symm (ob_ar h406 h411)) (ar_ne h411 h409 (by decide)) (ar_ne h411 h410 (by decide)))).trans h411
                have hF567 := hF412.tr f558 (by simp)
                show pl _ _ _ (168, [(0, .ref r), (1, .int (nI k)), (2, .int (nI p)), (3, .int (nI (by1 f p)))], [.int 0], M536) _
                exact ps_ret rfl rfl (Or.inr (Or.inr (Or.inr ⟨_, by
                    unfold s_entry
                    rw [if_neg (by omega), if_neg (fun h => h (by assumption)), if_neg (by omega)]
                    rw [if_neg (by omega), if_neg (by omega), if_neg (by omega), q165_s], rfl, h557, hF567⟩)))
          · have c_62 : ¬ ((nI (k + 1)) < (nI N)) := of_decide_eq_false c_62
            have n_62 : ¬ (k + 1 < N) := fun h9 => c_62 ((lt_nI (p := k + 1) (n := N) (by omega) (by omega)).mpr h9)
            refine ps_st (S' := (66, [(0, .ref r), (1, .int (nI k)), (2, .int (nI p)), (3, .int (nI (by1 f p)))], [.ref r], M19)) rfl rfl rfl ?_
            refine ps_get (S' := (69, [(0, .ref r), (1, .int (nI k)), (2, .int (nI p)), (3, .int (nI (by1 f p)))], [.ref vd], M19)) rfl h23 rfl rfl ?_
            refine ps_st (S' := (71, [(0, .ref r), (1, .int (nI k)), (2, .int (nI p)), (3, .int (nI (by1 f p)))], [.int 7, .ref vd], M19)) rfl rfl rfl ?_
            refine ps_st (S' := (72, [(0, .ref r), (1, .int (nI k)), (2, .int (nI p)), (3, .int (nI (by1 f p)))], [.int (nI p), .int 7, .ref vd], M19)) rfl rfl rfl ?_
            refine pl_call (a := [.ref vd, .int 7, .int (nI p)]) (rest := []) rfl rfl rfl (dx_wrong h26) (fun v568 M569 q570 => ?_)
            obtain ⟨rfl, h571, f572⟩ := q570
            have h574 := (f572.1 r (nin1 (ob_ne h23 h26 (by decide)))).trans h23
            have h575 := (f572.1 b (nin1 (ob_ne h24 h26 (by decide)))).trans h24
            have h576 := (f572.1 da (nin1 (Ne.symm (ob_ar h26 h25)))).trans h25
            have h577 := (f572.1 c (nin1 (ob_ne h27 h26 (by decide)))).trans h27
            have h578 := (f572.1 pq (nin1 (ob_ne h28 h26 (by decide)))).trans h28
            have h579 := (f572.1 q1 (nin1 (Ne.symm (ob_ar h26 h29)))).trans h29
            have h580 := (f572.1 q3 (nin1 (Ne.symm (ob_ar h26 h30)))).trans h30
            have h581 := (f572.1 q4 (nin1 (Ne.symm (ob_ar h26 h31)))).trans h31
            have h582 := (f572.1 q2 (nin1 (Ne.symm (ob_ar h26 h32)))).trans h32
            have h583 := (f572.1 q6 (nin1 (Ne.symm (ob_ar h26 h33)))).trans h33
            have hF584 := hF34.tr f572 (by simp)
            show pl _ _ _ (75, [(0, .ref r), (1, .int (nI k)), (2, .int (nI p)), (3, .int (nI (by1 f p)))], [.int 0], M569) _
            exact ps_ret rfl rfl (Or.inr (Or.inr (Or.inr ⟨(7, p), by
                unfold s_entry
                rw [if_neg (by omega), if_neg (fun h => h (by assumption)), if_pos (by omega)], rfl, h571, hF584⟩)))
    · skip
      obtain ⟨q22_n, rfl, f585⟩ := q20
      have h587 := (f585.1 r (by simp)).trans h4
      have h588 := (f585.1 b (by simp)).trans h8
      have h589 := (f585.1 da (by simp)).trans h9
      have h590 := (f585.1 vd (by simp)).trans h5
      have h591 := (f585.1 c (by simp)).trans h10
      have h592 := (f585.1 pq (by simp)).trans h11
      have h593 := (f585.1 q1 (by simp)).trans h12
      have h594 := (f585.1 q3 (by simp)).trans h13
      have h595 := (f585.1 q4 (by simp)).trans h14
      have h596 := (f585.1 q2 (by simp)).trans h15
      have h597 := (f585.1 q6 (by simp)).trans h16
      have hF598 := hF17.tr f585 (by simp)
      show pl _ _ _ (25, [(3, .int (nI (by1 f p))), (2, .int (nI p)), (0, .ref r), (1, .int (nI k))], [.int 0], M19) _
      refine ps_if (S1 := (38, [(3, .int (nI (by1 f p))), (2, .int (nI p)), (0, .ref r), (1, .int (nI k))], [], M19)) (S2 := (28, [(3, .int (nI (by1 f p))), (2, .int (nI p)), (0, .ref r), (1, .int (nI k))], [], M19)) rfl rfl rfl (fun c_25 => ?_) (fun c_25 => ?_)
      · exact absurd (of_decide_eq_true c_25) (by decide)
      refine ps_st (S' := (29, [(3, .int (nI (by1 f p))), (2, .int (nI p)), (0, .ref r), (1, .int (nI k))], [.ref r], M19)) rfl rfl rfl ?_
      refine ps_get (S' := (32, [(3, .int (nI (by1 f p))), (2, .int (nI p)), (0, .ref r), (1, .int (nI k))], [.ref vd], M19)) rfl h587 rfl rfl ?_
      refine ps_st (S' := (33, [(3, .int (nI (by1 f p))), (2, .int (nI p)), (0, .ref r), (1, .int (nI k))], [.int 5, .ref vd], M19)) rfl rfl rfl ?_
      refine ps_st (S' := (34, [(3, .int (nI (by1 f p))), (2, .int (nI p)), (0, .ref r), (1, .int (nI k))], [.int (nI p), .int 5, .ref vd], M19)) rfl rfl rfl ?_
      refine pl_call (a := [.ref vd, .int 5, .int (nI p)]) (rest := []) rfl rfl rfl (dx_wrong h590) (fun v599 M600 q601 => ?_)
      obtain ⟨rfl, h602, f603⟩ := q601
      have h605 := (f603.1 r (nin1 (ob_ne h587 h590 (by decide)))).trans h587
      have h606 := (f603.1 b (nin1 (ob_ne h588 h590 (by decide)))).trans h588
      have h607 := (f603.1 da (nin1 (Ne.symm (ob_ar h590 h589)))).trans h589
      have h608 := (f603.1 c (nin1 (ob_ne h591 h590 (by decide)))).trans h591
      have h609 := (f603.1 pq (nin1 (ob_ne h592 h590 (by decide)))).trans h592
      have h610 := (f603.1 q1 (nin1 (Ne.symm (ob_ar h590 h593)))).trans h593
      have h611 := (f603.1 q3 (nin1 (Ne.symm (ob_ar h590 h594)))).trans h594
      have h612 := (f603.1 q4 (nin1 (Ne.symm (ob_ar h590 h595)))).trans h595
      have h613 := (f603.1 q2 (nin1 (Ne.symm (ob_ar h590 h596)))).trans h596
      have h614 := (f603.1 q6 (nin1 (Ne.symm (ob_ar h590 h597)))).trans h597
      have hF615 := hF598.tr f603 (by simp)
      show pl _ _ _ (37, [(3, .int (nI (by1 f p))), (2, .int (nI p)), (0, .ref r), (1, .int (nI k))], [.int 0], M600) _
      exact ps_ret rfl rfl (Or.inr (Or.inr (Or.inr ⟨(5, p), by
          unfold s_entry
          rw [if_neg (by omega), if_pos (by assumption)], rfl, h602, hF615⟩)))
  · skip
    obtain ⟨q7_no, rfl, h616, h617, f618⟩ := q3
    have h620 := (f618.1 b (nin2 (ob_ne h_b h_r (by decide)) (ob_ne h_b h_vd (by decide)))).trans h_b
    have h621 := (f618.1 da (nin2 (Ne.symm (ob_ar h_r h_da)) (Ne.symm (ob_ar h_vd h_da)))).trans h_da
    have h622 := (f618.1 c (nin2 (ob_ne h_c h_r (by decide)) (ob_ne h_c h_vd (by decide)))).trans h_c
    have h623 := (f618.1 pq (nin2 (ob_ne h_pq h_r (by decide)) (ob_ne h_pq h_vd (by decide)))).trans h_pq
    have h624 := (f618.1 q1 (nin2 (Ne.symm (ob_ar h_r h_q1)) (Ne.symm (ob_ar h_vd h_q1)))).trans h_q1
    have h625 := (f618.1 q3 (nin2 (Ne.symm (ob_ar h_r h_q3)) (Ne.symm (ob_ar h_vd h_q3)))).trans h_q3
    have h626 := (f618.1 q4 (nin2 (Ne.symm (ob_ar h_r h_q4)) (Ne.symm (ob_ar h_vd h_q4)))).trans h_q4
    have h627 := (f618.1 q2 (nin2 (Ne.symm (ob_ar h_r h_q2)) (Ne.symm (ob_ar h_vd h_q2)))).trans h_q2
    have h628 := (f618.1 q6 (nin2 (Ne.symm (ob_ar h_r h_q6)) (Ne.symm (ob_ar h_vd h_q6)))).trans h_q6
    have hF629 := hF.tr f618 (by simp)
    show pl _ _ _ (10, [(2, .int (nI p)), (0, .ref r), (1, .int (nI k))], [.int 0], M2) _
    refine ps_if (S1 := (15, [(2, .int (nI p)), (0, .ref r), (1, .int (nI k))], [], M2)) (S2 := (13, [(2, .int (nI p)), (0, .ref r), (1, .int (nI k))], [], M2)) rfl rfl rfl (fun c_10 => ?_) (fun c_10 => ?_)
    · exact absurd (of_decide_eq_true c_10) (by decide)
    refine ps_st (S' := (14, [(2, .int (nI p)), (0, .ref r), (1, .int (nI k))], [.int 0], M2)) rfl rfl rfl ?_
    exact ps_ret rfl rfl (Or.inr (Or.inr (Or.inr ⟨(1, p), by
        unfold s_entry
        rw [if_pos (by omega)], rfl, h617, hF629⟩)))
end
section
/-! the pool is made and read (laid by wip/p4/d5.py) -/
section CLA
/-- how many characters the texts of these entries have -/
def chE (f : Nat → Int32) (n p : Nat) : Nat := if by1 f p = 1 then (match s_utf f n (p + 1) with | .inr l => l.length | .inl _ => 0) else 0
def chL (f : Nat → Int32) (n : Nat) : List (Nat × Nat) → Nat
  | [] => 0
  | q :: r => chE f n q.2 + chL f n r
theorem chL_app {f : Nat → Int32} {n k p : Nat} : ∀ {E : List (Nat × Nat)}, chL f n (E ++ [(k, p)]) = chL f n E + (if by1 f p = 1 then (match s_utf f n (p + 1) with | .inr l => l.length | .inl _ => 0) else 0) := by
  intro E
  induction E with
  | nil =>
    show chE f n p + 0 = 0 + chE f n p
    omega
  | cons q r ih =>
    show chE f n q.2 + chL f n (r ++ [(k, p)]) = chE f n q.2 + chL f n r + _
    rw [ih]
    omega
end CLA
set_option maxHeartbeats 1000000 in
theorem dx_pool {g : xe_G} {M : mi_H} {pq N n : Nat} (h_pq : M.1 pq = some (ob 7 [.int 0, .null, .null, .null, .null, .null, .null, .int 0])) (hq : pq < M.2.1) (hN : N < 65536) (hn : n ≤ 65540) : pt (mT g) 110 [.ref pq, .int (nI N), .int (nI n)] M (fun v M' => (v = none ∧ M'.1 pq = some (ob 7 [.int (nI N), .ref (M.2.1), .ref (M.2.1 + 1), .ref (M.2.1 + 2), .ref (M.2.1 + 3), .ref (M.2.1 + 4), .ref (M.2.1 + 5), .int 0]) ∧ M'.1 (M.2.1) = some (ar .int (min N (n / 3 + 1)) (fun _ => 0)) ∧ M'.1 (M.2.1 + 1) = some (ar .int (min N (n / 3 + 1)) (fun _ => 0)) ∧ M'.1 (M.2.1 + 2) = some (ar .int (min N (n / 3 + 1)) (fun _ => 0)) ∧ M'.1 (M.2.1 + 3) = some (ar .int (min N (n / 3 + 1)) (fun _ => 0)) ∧ M'.1 (M.2.1 + 4) = some (ar .int (min N (n / 3 + 1)) (fun _ => 0)) ∧ M'.1 (M.2.1 + 5) = some (ar .char n (fun _ => 0)) ∧ gm [pq] M M' ∧ M'.2.1 = M.2.1 + 6)) := by
  refine pt_in (b := mb_110 g) rfl (fun kf => ?_)
  show pl (mT g) kf (mb_110 g).2 (0, [(0, .ref pq), (1, .int (nI N)), (2, .int (nI n))], [], M) _
  have hF : gm [pq] M M := gm.rf
  obtain ⟨z0, tp0⟩ : ∃ z0, M.2.1 = z0 := ⟨_, rfl⟩
  refine ps_st (S' := (1, [(0, .ref pq), (1, .int (nI N)), (2, .int (nI n))], [.ref pq], M)) rfl rfl rfl ?_
  refine ps_st (S' := (4, [(0, .ref pq), (1, .int (nI N)), (2, .int (nI n))], [], M)) rfl rfl rfl ?_
  refine ps_st (S' := (5, [(0, .ref pq), (1, .int (nI N)), (2, .int (nI n))], [.ref pq], M)) rfl rfl rfl ?_
  refine ps_st (S' := (6, [(0, .ref pq), (1, .int (nI N)), (2, .int (nI n))], [.int (nI N), .ref pq], M)) rfl rfl rfl ?_
  refine ps_put (l' := [.int (nI N), .null, .null, .null, .null, .null, .null, .int 0]) rfl h_pq rfl rfl (fun M1 h2 f3 z4 => ?_)
  have hF5 := hF.up (Or.inl (by simp)) f3 (by rw [z4]; exact Nat.le_refl _)
  have tp6 : M1.2.1 = z0 := by rw [z4]; exact tp0
  show pl _ _ _ (9, [(0, .ref pq), (1, .int (nI N)), (2, .int (nI n))], [], M1) _
  refine ps_st (S' := (10, [(0, .ref pq), (1, .int (nI N)), (2, .int (nI n))], [.int 0], M1)) rfl rfl rfl ?_
  refine ps_st (S' := (11, [(0, .ref pq), (1, .int (nI N)), (2, .int (nI n))], [.int (nI N), .int 0], M1)) rfl rfl rfl ?_
  refine ps_st (S' := (12, [(0, .ref pq), (1, .int (nI N)), (2, .int (nI n))], [.int (nI n), .int (nI N), .int 0], M1)) rfl rfl rfl ?_
  refine ps_st (S' := (13, [(0, .ref pq), (1, .int (nI N)), (2, .int (nI n))], [.int 3, .int (nI n), .int (nI N), .int 0], M1)) rfl rfl rfl ?_
  refine ps_st (S' := (14, [(0, .ref pq), (1, .int (nI N)), (2, .int (nI n))], [.int ((nI n) / 3), .int (nI N), .int 0], M1)) rfl rfl rfl ?_
  rw [ndiv_nI (k := 3) rfl (by decide) (by omega)]
  show pl _ _ _ (_, [(0, .ref pq), (1, .int (nI N)), (2, .int (nI n))], [.int (nI (n / 3)), .int (nI N), .int 0], M1) _
  refine ps_st (S' := (15, [(0, .ref pq), (1, .int (nI N)), (2, .int (nI n))], [.int 1, .int (nI (n / 3)), .int (nI N), .int 0], M1)) rfl rfl rfl ?_
  refine ps_st (S' := (16, [(0, .ref pq), (1, .int (nI N)), (2, .int (nI n))], [.int ((nI (n / 3)) + 1), .int (nI N), .int 0], M1)) rfl rfl rfl ?_
  rw [nI_add1 (p := n / 3) (k := 1) (x := 1) rfl (by omega)]
  show pl _ _ _ (_, [(0, .ref pq), (1, .int (nI N)), (2, .int (nI n))], [.int (nI (n / 3 + 1)), .int (nI N), .int 0], M1) _
  refine ps_st (S' := (19, [(0, .ref pq), (1, .int (nI N)), (2, .int (nI n))], [.int (if (nI (n / 3 + 1)) < (nI N) then (nI (n / 3 + 1)) else (nI N)), .int 0], M1)) rfl rfl rfl ?_
  rw [nmin_nI (by omega) (by omega)]
  show pl _ _ _ (_, [(0, .ref pq), (1, .int (nI N)), (2, .int (nI n))], [.int (nI (min N (n / 3 + 1))), .int 0], M1) _
  refine ps_st (S' := (22, [(0, .ref pq), (1, .int (nI N)), (2, .int (nI n))], [.int (if 0 < (nI (min N (n / 3 + 1))) then (nI (min N (n / 3 + 1))) else 0)], M1)) rfl rfl rfl ?_
  rw [nmax0 (by omega)]
  show pl _ _ _ (_, [(0, .ref pq), (1, .int (nI N)), (2, .int (nI n))], [.int (nI (min N (n / 3 + 1)))], M1) _
  refine ps_st (S' := (23, [(3, .int (nI (min N (n / 3 + 1)))), (0, .ref pq), (1, .int (nI N)), (2, .int (nI n))], [], M1)) rfl rfl rfl ?_
  refine ps_st (S' := (24, [(3, .int (nI (min N (n / 3 + 1)))), (0, .ref pq), (1, .int (nI N)), (2, .int (nI n))], [.ref pq], M1)) rfl rfl rfl ?_
  refine ps_st (S' := (25, [(3, .int (nI (min N (n / 3 + 1)))), (0, .ref pq), (1, .int (nI N)), (2, .int (nI n))], [.int (nI (min N (n / 3 + 1))), .ref pq], M1)) rfl rfl rfl ?_
  refine ps_newa rfl tp6 (fun M7 i0_25 h8 f9 tp10 => ?_)
  rw [nI_toNat (by omega)] at h8
  have h11 := (f9 pq (show pq ≠ z0 by omega)).trans h2
  have hF12 := hF5.up (Or.inr (by omega)) f9 (by omega)
  show pl _ _ _ (27, [(3, .int (nI (min N (n / 3 + 1)))), (0, .ref pq), (1, .int (nI N)), (2, .int (nI n))], [.ref z0, .ref pq], M7) _
  refine ps_put (l' := [.int (nI N), .ref z0, .null, .null, .null, .null, .null, .int 0]) rfl h11 rfl rfl (fun M13 h14 f15 z16 => ?_)
  have h17 := (f15 z0 (show z0 ≠ pq by omega)).trans h8
  have hF18 := hF12.up (Or.inl (by simp)) f15 (by rw [z16]; exact Nat.le_refl _)
  have tp19 : M13.2.1 = z0 + 1 := by rw [z16]; exact tp10
  show pl _ _ _ (30, [(3, .int (nI (min N (n / 3 + 1)))), (0, .ref pq), (1, .int (nI N)), (2, .int (nI n))], [], M13) _
  refine ps_st (S' := (31, [(3, .int (nI (min N (n / 3 + 1)))), (0, .ref pq), (1, .int (nI N)), (2, .int (nI n))], [.ref pq], M13)) rfl rfl rfl ?_
  refine ps_st (S' := (32, [(3, .int (nI (min N (n / 3 + 1)))), (0, .ref pq), (1, .int (nI N)), (2, .int (nI n))], [.int (nI (min N (n / 3 + 1))), .ref pq], M13)) rfl rfl rfl ?_
  refine ps_newa rfl tp19 (fun M20 i0_32 h21 f22 tp23 => ?_)
  rw [nI_toNat (by omega)] at h21
  have h24 := (f22 pq (show pq ≠ (z0 + 1) by omega)).trans h14
  have h25 := (f22 z0 (show z0 ≠ (z0 + 1) by omega)).trans h17
  have hF26 := hF18.up (Or.inr (by omega)) f22 (by omega)
  show pl _ _ _ (34, [(3, .int (nI (min N (n / 3 + 1)))), (0, .ref pq), (1, .int (nI N)), (2, .int (nI n))], [.ref (z0 + 1), .ref pq], M20) _
  refine ps_put (l' := [.int (nI N), .ref z0, .ref (z0 + 1), .null, .null, .null, .null, .int 0]) rfl h24 rfl rfl (fun M27 h28 f29 z30 => ?_)
  have h31 := (f29 z0 (show z0 ≠ pq by omega)).trans h25
  have h32 := (f29 (z0 + 1) (show (z0 + 1) ≠ pq by omega)).trans h21
  have hF33 := hF26.up (Or.inl (by simp)) f29 (by rw [z30]; exact Nat.le_refl _)
  have tp34 : M27.2.1 = z0 + 2 := by rw [z30]; exact tp23
  show pl _ _ _ (37, [(3, .int (nI (min N (n / 3 + 1)))), (0, .ref pq), (1, .int (nI N)), (2, .int (nI n))], [], M27) _
  refine ps_st (S' := (38, [(3, .int (nI (min N (n / 3 + 1)))), (0, .ref pq), (1, .int (nI N)), (2, .int (nI n))], [.ref pq], M27)) rfl rfl rfl ?_
  refine ps_st (S' := (39, [(3, .int (nI (min N (n / 3 + 1)))), (0, .ref pq), (1, .int (nI N)), (2, .int (nI n))], [.int (nI (min N (n / 3 + 1))), .ref pq], M27)) rfl rfl rfl ?_
  refine ps_newa rfl tp34 (fun M35 i0_39 h36 f37 tp38 => ?_)
  rw [nI_toNat (by omega)] at h36
  have h39 := (f37 pq (show pq ≠ (z0 + 2) by omega)).trans h28
  have h40 := (f37 z0 (show z0 ≠ (z0 + 2) by omega)).trans h31
  have h41 := (f37 (z0 + 1) (show (z0 + 1) ≠ (z0 + 2) by omega)).trans h32
  have hF42 := hF33.up (Or.inr (by omega)) f37 (by omega)
  show pl _ _ _ (41, [(3, .int (nI (min N (n / 3 + 1)))), (0, .ref pq), (1, .int (nI N)), (2, .int (nI n))], [.ref (z0 + 2), .ref pq], M35) _
  refine ps_put (l' := [.int (nI N), .ref z0, .ref (z0 + 1), .ref (z0 + 2), .null, .null, .null, .int 0]) rfl h39 rfl rfl (fun M43 h44 f45 z46 => ?_)
  have h47 := (f45 z0 (show z0 ≠ pq by omega)).trans h40
  have h48 := (f45 (z0 + 1) (show (z0 + 1) ≠ pq by omega)).trans h41
  have h49 := (f45 (z0 + 2) (show (z0 + 2) ≠ pq by omega)).trans h36
  have hF50 := hF42.up (Or.inl (by simp)) f45 (by rw [z46]; exact Nat.le_refl _)
  have tp51 : M43.2.1 = z0 + 3 := by rw [z46]; exact tp38
  show pl _ _ _ (44, [(3, .int (nI (min N (n / 3 + 1)))), (0, .ref pq), (1, .int (nI N)), (2, .int (nI n))], [], M43) _
  refine ps_st (S' := (45, [(3, .int (nI (min N (n / 3 + 1)))), (0, .ref pq), (1, .int (nI N)), (2, .int (nI n))], [.ref pq], M43)) rfl rfl rfl ?_
  refine ps_st (S' := (46, [(3, .int (nI (min N (n / 3 + 1)))), (0, .ref pq), (1, .int (nI N)), (2, .int (nI n))], [.int (nI (min N (n / 3 + 1))), .ref pq], M43)) rfl rfl rfl ?_
  refine ps_newa rfl tp51 (fun M52 i0_46 h53 f54 tp55 => ?_)
  rw [nI_toNat (by omega)] at h53
  have h56 := (f54 pq (show pq ≠ (z0 + 3) by omega)).trans h44
  have h57 := (f54 z0 (show z0 ≠ (z0 + 3) by omega)).trans h47
  have h58 := (f54 (z0 + 1) (show (z0 + 1) ≠ (z0 + 3) by omega)).trans h48
  have h59 := (f54 (z0 + 2) (show (z0 + 2) ≠ (z0 + 3) by omega)).trans h49
  have hF60 := hF50.up (Or.inr (by omega)) f54 (by omega)
  show pl _ _ _ (48, [(3, .int (nI (min N (n / 3 + 1)))), (0, .ref pq), (1, .int (nI N)), (2, .int (nI n))], [.ref (z0 + 3), .ref pq], M52) _
  refine ps_put (l' := [.int (nI N), .ref z0, .ref (z0 + 1), .ref (z0 + 2), .ref (z0 + 3), .null, .null, .int 0]) rfl h56 rfl rfl (fun M61 h62 f63 z64 => ?_)
  have h65 := (f63 z0 (show z0 ≠ pq by omega)).trans h57
  have h66 := (f63 (z0 + 1) (show (z0 + 1) ≠ pq by omega)).trans h58
  have h67 := (f63 (z0 + 2) (show (z0 + 2) ≠ pq by omega)).trans h59
  have h68 := (f63 (z0 + 3) (show (z0 + 3) ≠ pq by omega)).trans h53
  have hF69 := hF60.up (Or.inl (by simp)) f63 (by rw [z64]; exact Nat.le_refl _)
  have tp70 : M61.2.1 = z0 + 4 := by rw [z64]; exact tp55
  show pl _ _ _ (51, [(3, .int (nI (min N (n / 3 + 1)))), (0, .ref pq), (1, .int (nI N)), (2, .int (nI n))], [], M61) _
  refine ps_st (S' := (52, [(3, .int (nI (min N (n / 3 + 1)))), (0, .ref pq), (1, .int (nI N)), (2, .int (nI n))], [.ref pq], M61)) rfl rfl rfl ?_
  refine ps_st (S' := (53, [(3, .int (nI (min N (n / 3 + 1)))), (0, .ref pq), (1, .int (nI N)), (2, .int (nI n))], [.int (nI (min N (n / 3 + 1))), .ref pq], M61)) rfl rfl rfl ?_
  refine ps_newa rfl tp70 (fun M71 i0_53 h72 f73 tp74 => ?_)
  rw [nI_toNat (by omega)] at h72
  have h75 := (f73 pq (show pq ≠ (z0 + 4) by omega)).trans h62
  have h76 := (f73 z0 (show z0 ≠ (z0 + 4) by omega)).trans h65
  have h77 := (f73 (z0 + 1) (show (z0 + 1) ≠ (z0 + 4) by omega)).trans h66
  have h78 := (f73 (z0 + 2) (show (z0 + 2) ≠ (z0 + 4) by omega)).trans h67
  have h79 := (f73 (z0 + 3) (show (z0 + 3) ≠ (z0 + 4) by omega)).trans h68
  have hF80 := hF69.up (Or.inr (by omega)) f73 (by omega)
  show pl _ _ _ (55, [(3, .int (nI (min N (n / 3 + 1)))), (0, .ref pq), (1, .int (nI N)), (2, .int (nI n))], [.ref (z0 + 4), .ref pq], M71) _
  refine ps_put (l' := [.int (nI N), .ref z0, .ref (z0 + 1), .ref (z0 + 2), .ref (z0 + 3), .ref (z0 + 4), .null, .int 0]) rfl h75 rfl rfl (fun M81 h82 f83 z84 => ?_)
  have h85 := (f83 z0 (show z0 ≠ pq by omega)).trans h76
  have h86 := (f83 (z0 + 1) (show (z0 + 1) ≠ pq by omega)).trans h77
  have h87 := (f83 (z0 + 2) (show (z0 + 2) ≠ pq by omega)).trans h78
  have h88 := (f83 (z0 + 3) (show (z0 + 3) ≠ pq by omega)).trans h79
  have h89 := (f83 (z0 + 4) (show (z0 + 4) ≠ pq by omega)).trans h72
  have hF90 := hF80.up (Or.inl (by simp)) f83 (by rw [z84]; exact Nat.le_refl _)
  have tp91 : M81.2.1 = z0 + 5 := by rw [z84]; exact tp74
  show pl _ _ _ (58, [(3, .int (nI (min N (n / 3 + 1)))), (0, .ref pq), (1, .int (nI N)), (2, .int (nI n))], [], M81) _
  refine ps_st (S' := (59, [(3, .int (nI (min N (n / 3 + 1)))), (0, .ref pq), (1, .int (nI N)), (2, .int (nI n))], [.ref pq], M81)) rfl rfl rfl ?_
  refine ps_st (S' := (60, [(3, .int (nI (min N (n / 3 + 1)))), (0, .ref pq), (1, .int (nI N)), (2, .int (nI n))], [.int 0, .ref pq], M81)) rfl rfl rfl ?_
  refine ps_st (S' := (61, [(3, .int (nI (min N (n / 3 + 1)))), (0, .ref pq), (1, .int (nI N)), (2, .int (nI n))], [.int (nI n), .int 0, .ref pq], M81)) rfl rfl rfl ?_
  refine ps_st (S' := (64, [(3, .int (nI (min N (n / 3 + 1)))), (0, .ref pq), (1, .int (nI N)), (2, .int (nI n))], [.int (if 0 < (nI n) then (nI n) else 0), .ref pq], M81)) rfl rfl rfl ?_
  rw [nmax0 (by omega)]
  show pl _ _ _ (_, [(3, .int (nI (min N (n / 3 + 1)))), (0, .ref pq), (1, .int (nI N)), (2, .int (nI n))], [.int (nI (n)), .ref pq], M81) _
  refine ps_newa rfl tp91 (fun M92 i0_64 h93 f94 tp95 => ?_)
  rw [nI_toNat (by omega)] at h93
  have h96 := (f94 pq (show pq ≠ (z0 + 5) by omega)).trans h82
  have h97 := (f94 z0 (show z0 ≠ (z0 + 5) by omega)).trans h85
  have h98 := (f94 (z0 + 1) (show (z0 + 1) ≠ (z0 + 5) by omega)).trans h86
  have h99 := (f94 (z0 + 2) (show (z0 + 2) ≠ (z0 + 5) by omega)).trans h87
  have h100 := (f94 (z0 + 3) (show (z0 + 3) ≠ (z0 + 5) by omega)).trans h88
  have h101 := (f94 (z0 + 4) (show (z0 + 4) ≠ (z0 + 5) by omega)).trans h89
  have hF102 := hF90.up (Or.inr (by omega)) f94 (by omega)
  show pl _ _ _ (66, [(3, .int (nI (min N (n / 3 + 1)))), (0, .ref pq), (1, .int (nI N)), (2, .int (nI n))], [.ref (z0 + 5), .ref pq], M92) _
  refine ps_put (l' := [.int (nI N), .ref z0, .ref (z0 + 1), .ref (z0 + 2), .ref (z0 + 3), .ref (z0 + 4), .ref (z0 + 5), .int 0]) rfl h96 rfl rfl (fun M103 h104 f105 z106 => ?_)
  have h107 := (f105 z0 (show z0 ≠ pq by omega)).trans h97
  have h108 := (f105 (z0 + 1) (show (z0 + 1) ≠ pq by omega)).trans h98
  have h109 := (f105 (z0 + 2) (show (z0 + 2) ≠ pq by omega)).trans h99
  have h110 := (f105 (z0 + 3) (show (z0 + 3) ≠ pq by omega)).trans h100
  have h111 := (f105 (z0 + 4) (show (z0 + 4) ≠ pq by omega)).trans h101
  have h112 := (f105 (z0 + 5) (show (z0 + 5) ≠ pq by omega)).trans h93
  have hF113 := hF102.up (Or.inl (by simp)) f105 (by rw [z106]; exact Nat.le_refl _)
  have tp114 : M103.2.1 = z0 + 6 := by rw [z106]; exact tp95
  show pl _ _ _ (69, [(3, .int (nI (min N (n / 3 + 1)))), (0, .ref pq), (1, .int (nI N)), (2, .int (nI n))], [], M103) _
  exact ps_ret rfl rfl (⟨rfl, by rw [tp0]; exact h104, by rw [tp0]; exact h107, by rw [tp0]; exact h108, by rw [tp0]; exact h109, by rw [tp0]; exact h110, by rw [tp0]; exact h111, by rw [tp0]; exact h112, hF113, by rw [tp0]; exact tp114⟩)
set_option maxHeartbeats 1000000 in
theorem dx_tagOf {g : xe_G} {M : mi_H} {pq q1 q2 q3 q4 q5 q6 hd cc : Nat} {sz : Int32} {F1 : Nat → Int32} {k : Nat} (h_pq : M.1 pq = some (ob 7 [.int sz, .ref q1, .ref q2, .ref q3, .ref q4, .ref q5, .ref q6, .int (nI cc)])) (h_q1 : M.1 q1 = some (ar .int hd F1)) (hh : hd < 1073741824) (hk : k < hd) : pt (mT g) 138 [.ref pq, .int (nI k)] M (fun v M' => (v = some (.int (F1 k)) ∧ fm [] M M')) := by
  refine pt_in (b := mb_138 g) rfl (fun kf => ?_)
  show pl (mT g) kf (mb_138 g).2 (0, [(0, .ref pq), (1, .int (nI k))], [], M) _
  have hF : fm [] M M := fm.rf
  refine ps_st (S' := (1, [(0, .ref pq), (1, .int (nI k))], [.int (nI k)], M)) rfl rfl rfl ?_
  refine ps_if (S1 := (13, [], [], M)) (S2 := (4, [(0, .ref pq), (1, .int (nI k))], [], M)) rfl rfl rfl (fun c_1 => ?_) (fun c_1 => ?_)
  · exact absurd (of_decide_eq_true c_1) (nI_n0 (by omega))
  refine ps_st (S' := (5, [(0, .ref pq), (1, .int (nI k))], [.int (nI k)], M)) rfl rfl rfl ?_
  refine ps_st (S' := (6, [(0, .ref pq), (1, .int (nI k))], [.ref pq, .int (nI k)], M)) rfl rfl rfl ?_
  refine ps_get (S' := (9, [(0, .ref pq), (1, .int (nI k))], [.ref q1, .int (nI k)], M)) rfl h_pq rfl rfl ?_
  refine ps_alen (S' := (10, [(0, .ref pq), (1, .int (nI k))], [.int (nI hd), .int (nI k)], M)) rfl h_q1 rfl ?_
  refine ps_if2 (S1 := (17, [(0, .ref pq), (1, .int (nI k))], [], M)) (S2 := (13, [], [], M)) rfl rfl rfl (fun c_10 => ?_) (fun c_10 => ?_)
  rotate_left
  · exact absurd ((lt_nI (by omega) (by omega)).mpr (by omega)) (of_decide_eq_false c_10)
  refine ps_st (S' := (18, [(0, .ref pq), (1, .int (nI k))], [.ref pq], M)) rfl rfl rfl ?_
  refine ps_get (S' := (21, [(0, .ref pq), (1, .int (nI k))], [.ref q1], M)) rfl h_pq rfl rfl ?_
  refine ps_st (S' := (22, [(0, .ref pq), (1, .int (nI k))], [.int (nI k), .ref q1], M)) rfl rfl rfl ?_
  refine ps_ald (S' := (23, [], [.int (F1 (Int32.toNatClampNeg (nI k)))], M)) rfl h_q1 rfl (fun i0_22 i1_22 => ?_)
  exact ps_ret rfl rfl (⟨by rw [nI_toNat (by omega)], hF⟩)
set_option maxHeartbeats 1000000 in
theorem dx_isWide {g : xe_G} {M : mi_H} {pq q1 q2 q3 q4 q5 q6 hd cc : Nat} {sz : Int32} {F1 : Nat → Int32} {k t : Nat} (h_pq : M.1 pq = some (ob 7 [.int sz, .ref q1, .ref q2, .ref q3, .ref q4, .ref q5, .ref q6, .int (nI cc)])) (h_q1 : M.1 q1 = some (ar .int hd F1)) (hh : hd < 1073741824) (hk : k < hd) (hf : F1 k = nI t) (ht : t < 256) : pt (mT g) 125 [.ref pq, .int (nI k)] M (fun v M' => ((t = 5 ∨ t = 6) ∧ v = some (.int 1) ∧ fm [] M M') ∨ ((¬ (t = 5 ∨ t = 6)) ∧ v = some (.int 0) ∧ fm [] M M')) := by
  refine pt_in (b := mb_125 g) rfl (fun kf => ?_)
  show pl (mT g) kf (mb_125 g).2 (0, [(0, .ref pq), (1, .int (nI k))], [], M) _
  have hF : fm [] M M := fm.rf
  refine ps_st (S' := (1, [(0, .ref pq), (1, .int (nI k))], [.ref pq], M)) rfl rfl rfl ?_
  refine ps_st (S' := (2, [(0, .ref pq), (1, .int (nI k))], [.int (nI k), .ref pq], M)) rfl rfl rfl ?_
  refine pl_call (a := [.ref pq, .int (nI k)]) (rest := []) rfl rfl rfl (dx_tagOf h_pq h_q1 (hh) (hk)) (fun v1 M2 q3 => ?_)
  obtain ⟨rfl, f4⟩ := q3
  have h6 := (f4.1 pq (by simp)).trans h_pq
  have h7 := (f4.1 q1 (by simp)).trans h_q1
  have hF8 := hF.tr f4 (by simp)
  show pl _ _ _ (5, [(0, .ref pq), (1, .int (nI k))], [.int (F1 k)], M2) _
  rw [hf]
  show pl _ _ _ (_, [(0, .ref pq), (1, .int (nI k))], [.int (nI t)], M2) _
  refine ps_st (S' := (6, [(2, .int (nI t)), (0, .ref pq), (1, .int (nI k))], [], M2)) rfl rfl rfl ?_
  refine ps_st (S' := (7, [(2, .int (nI t)), (0, .ref pq), (1, .int (nI k))], [.int (nI t)], M2)) rfl rfl rfl ?_
  refine ps_st (S' := (8, [(2, .int (nI t)), (0, .ref pq), (1, .int (nI k))], [.int 5, .int (nI t)], M2)) rfl rfl rfl ?_
  refine ps_if2 (S1 := (17, [], [], M2)) (S2 := (11, [(2, .int (nI t)), (0, .ref pq), (1, .int (nI k))], [], M2)) rfl rfl rfl (fun c_8 => ?_) (fun c_8 => ?_)
  · have c_8 : (nI t) = 5 := of_decide_eq_true c_8
    have n_8 : t = 5 := (eq_nI (p := t) (n := 5) (by omega) (by decide)).mp c_8
    refine ps_st (S' := (18, [], [.int 1], M2)) rfl rfl rfl ?_
    refine ps_st (S' := (22, [], [.int 1], M2)) rfl rfl rfl ?_
    exact ps_ret rfl rfl (Or.inl ⟨by omega, rfl, hF8⟩)
  · have c_8 : ¬ ((nI t) = 5) := of_decide_eq_false c_8
    have n_8 : ¬ (t = 5) := fun h9 => c_8 ((eq_nI (p := t) (n := 5) (by omega) (by decide)).mpr h9)
    refine ps_st (S' := (12, [(2, .int (nI t)), (0, .ref pq), (1, .int (nI k))], [.int (nI t)], M2)) rfl rfl rfl ?_
    refine ps_st (S' := (14, [(2, .int (nI t)), (0, .ref pq), (1, .int (nI k))], [.int 6, .int (nI t)], M2)) rfl rfl rfl ?_
    refine ps_if2 (S1 := (21, [(2, .int (nI t)), (0, .ref pq), (1, .int (nI k))], [], M2)) (S2 := (17, [], [], M2)) rfl rfl rfl (fun c_14 => ?_) (fun c_14 => ?_)
    · have c_14 : ¬ (nI t) = 6 := of_decide_eq_true c_14
      have n_14 : ¬ (t = 6) := fun h9 => c_14 ((eq_nI (p := t) (n := 6) (by omega) (by decide)).mpr h9)
      refine ps_st (S' := (22, [], [.int 0], M2)) rfl rfl rfl ?_
      exact ps_ret rfl rfl (Or.inr ⟨by omega, rfl, hF8⟩)
    · have c_14 : ¬ (¬ (nI t) = 6) := of_decide_eq_false c_14
      have n_14 : t = 6 := (eq_nI (p := t) (n := 6) (by omega) (by decide)).mp (Decidable.not_not.mp c_14)
      refine ps_st (S' := (18, [], [.int 1], M2)) rfl rfl rfl ?_
      refine ps_st (S' := (22, [], [.int 1], M2)) rfl rfl rfl ?_
      exact ps_ret rfl rfl (Or.inl ⟨by omega, rfl, hF8⟩)
theorem poolC.to {f : Nat → Int32} {n : Nat} {F1 F2 F3 F4 F6 : Nat → Int32} {cc k k' : Nat} {E : List (Nat × Nat)} (h : poolC f n F1 F2 F3 F4 F6 cc k E) (hk : k ≤ k') : poolC f n F1 F2 F3 F4 F6 cc k' E := ⟨fun q hq => ⟨Nat.lt_of_lt_of_le (h.1 q hq).1 hk, (h.1 q hq).2⟩, h.2⟩
set_option maxHeartbeats 1000000 in
theorem dx_takesPool {g : xe_G} {M : mi_H} {r c b vd da n mj : Nat} {f : Nat → Int32} {it ru wa mi fa ic ac aa k1 k2 k3 k4 k5 k6 k7 : Int32} {u1 u6 u7 : Value} (h_r : M.1 r = some (ob 9 [.ref c, .ref b, .ref vd, .int (nI 8), .int it])) (h_b : M.1 b = some (ob 1 [.ref da])) (h_da : M.1 da = some (ar .byte n f)) (h_vd : M.1 vd = some (ob 10 [.int ru, .int wa])) (h_c : M.1 c = some (ob 3 [.ref b, u1, .int mi, .int (nI mj), .int fa, .int ic, u6, u7, .int ac, .int aa, .int k1, .int k2, .int k3, .int k4, .int k5, .int k6, .int k7])) (hn : n ≤ 65540) (h8 : 8 ≤ n) (hj : mj < 65536) (l_r : r < M.2.1) (l_b : b < M.2.1) (l_da : da < M.2.1) (l_vd : vd < M.2.1) (l_c : c < M.2.1) : pt (mT g) 169 [.ref r] M (fun v M' => (∃ (p' cc : Nat) (it' : Int32) (E : List (Nat × Nat)) (F1 F2 F3 F4 F6 : Nat → Int32), (s_pool f n mj = .inr (p', E)) ∧ (poolC f n F1 F2 F3 F4 F6 cc (by2 f 8) E) ∧ (p' ≤ n ∧ cc ≤ p' ∧ 10 ≤ n) ∧ (cc = chL f n E) ∧ v = some (.int 1) ∧ M'.1 r = some (ob 9 [.ref c, .ref b, .ref vd, .int (nI p'), .int it']) ∧ M'.1 vd = some (ob 10 [.int ru, .int wa]) ∧ M'.1 c = some (ob 3 [.ref b, .ref (M.2.1), .int mi, .int (nI mj), .int fa, .int ic, u6, u7, .int ac, .int aa, .int k1, .int k2, .int k3, .int k4, .int k5, .int k6, .int k7]) ∧ M'.1 (M.2.1) = some (ob 7 [.int (nI (by2 f 8)), .ref (M.2.1 + 1), .ref (M.2.1 + 2), .ref (M.2.1 + 3), .ref (M.2.1 + 4), .ref (M.2.1 + 5), .ref (M.2.1 + 6), .int (nI cc)]) ∧ M'.1 (M.2.1 + 1) = some (ar .int (hldC f n) F1) ∧ M'.1 (M.2.1 + 2) = some (ar .int (hldC f n) F2) ∧ M'.1 (M.2.1 + 3) = some (ar .int (hldC f n) F3) ∧ M'.1 (M.2.1 + 4) = some (ar .int (hldC f n) F4) ∧ M'.1 (M.2.1 + 5) = some (ar .int (hldC f n) (fun _ => 0)) ∧ M'.1 (M.2.1 + 6) = some (ar .char n F6) ∧ gm [r, vd, c] M M' ∧ M'.2.1 = M.2.1 + 7) ∨ (∃ (e : Nat × Nat), (s_pool f n mj = .inl e) ∧ v = some (.int 0) ∧ M'.1 vd = some (ob 10 [.int (nI e.1), .int (nI e.2)]) ∧ gm [r, vd, c] M M' ∧ M.2.1 ≤ M'.2.1)) := by
  refine pt_in (b := mb_169 g) rfl (fun kf => ?_)
  show pl (mT g) kf (mb_169 g).2 (0, [(0, .ref r)], [], M) _
  have hF : gm [r, vd, c] M M := gm.rf
  obtain ⟨z0, tp0⟩ : ∃ z0, M.2.1 = z0 := ⟨_, rfl⟩
  have hb2 := by2_lt f 8
  have L61 : ∀ (kf : Nat) (k p1 cc : Nat) (E : List (Nat × Nat)) (it1 : Int32) (F1 F2 F3 F4 F6 : Nat → Int32) (M1 : mi_H), (M1.1 r = some (ob 9 [.ref c, .ref b, .ref vd, .int (nI p1), .int it1])) → (M1.1 b = some (ob 1 [.ref da])) → (M1.1 da = some (ar .byte n f)) → (M1.1 vd = some (ob 10 [.int ru, .int wa])) → (M1.1 c = some (ob 3 [.ref b, .ref z0, .int mi, .int (nI mj), .int fa, .int ic, u6, u7, .int ac, .int aa, .int k1, .int k2, .int k3, .int k4, .int k5, .int k6, .int k7])) → (M1.1 z0 = some (ob 7 [.int (nI (by2 f 8)), .ref (z0 + 1), .ref (z0 + 2), .ref (z0 + 3), .ref (z0 + 4), .ref (z0 + 5), .ref (z0 + 6), .int (nI cc)])) → (M1.1 (z0 + 1) = some (ar .int (hldC f n) F1)) → (M1.1 (z0 + 2) = some (ar .int (hldC f n) F2)) → (M1.1 (z0 + 3) = some (ar .int (hldC f n) F3)) → (M1.1 (z0 + 4) = some (ar .int (hldC f n) F4)) → (M1.1 (z0 + 5) = some (ar .int (hldC f n) (fun _ => 0))) → (M1.1 (z0 + 6) = some (ar .char n F6)) → (gm [r, vd, c] M M1) → (M1.2.1 = z0 + 7) → (1 ≤ k ∧ 7 + 3 * k ≤ p1 ∧ p1 ≤ n ∧ 10 ≤ n ∧ k ≤ by2 f 8) → (cc ≤ p1) → (¬ by2 f 8 = 0) → (poolC f n F1 F2 F3 F4 F6 cc k E) → (s_ents f n mj (by2 f 8) (by2 f 8 - k) k p1 E = s_ents f n mj (by2 f 8) (by2 f 8 - 1) 1 10 []) → (cc = chL f n E) → pl (mT g) kf (mb_169 g).2 (61, [(0, .ref r), (2, .ref z0), (3, .int (nI k))], [], M1) (fun v M' => (∃ (p' cc : Nat) (it' : Int32) (E : List (Nat × Nat)) (F1 F2 F3 F4 F6 : Nat → Int32), (s_pool f n mj = .inr (p', E)) ∧ (poolC f n F1 F2 F3 F4 F6 cc (by2 f 8) E) ∧ (p' ≤ n ∧ cc ≤ p' ∧ 10 ≤ n) ∧ (cc = chL f n E) ∧ v = some (.int 1) ∧ M'.1 r = some (ob 9 [.ref c, .ref b, .ref vd, .int (nI p'), .int it']) ∧ M'.1 vd = some (ob 10 [.int ru, .int wa]) ∧ M'.1 c = some (ob 3 [.ref b, .ref (M.2.1), .int mi, .int (nI mj), .int fa, .int ic, u6, u7, .int ac, .int aa, .int k1, .int k2, .int k3, .int k4, .int k5, .int k6, .int k7]) ∧ M'.1 (M.2.1) = some (ob 7 [.int (nI (by2 f 8)), .ref (M.2.1 + 1), .ref (M.2.1 + 2), .ref (M.2.1 + 3), .ref (M.2.1 + 4), .ref (M.2.1 + 5), .ref (M.2.1 + 6), .int (nI cc)]) ∧ M'.1 (M.2.1 + 1) = some (ar .int (hldC f n) F1) ∧ M'.1 (M.2.1 + 2) = some (ar .int (hldC f n) F2) ∧ M'.1 (M.2.1 + 3) = some (ar .int (hldC f n) F3) ∧ M'.1 (M.2.1 + 4) = some (ar .int (hldC f n) F4) ∧ M'.1 (M.2.1 + 5) = some (ar .int (hldC f n) (fun _ => 0)) ∧ M'.1 (M.2.1 + 6) = some (ar .char n F6) ∧ gm [r, vd, c] M M' ∧ M'.2.1 = M.2.1 + 7) ∨ (∃ (e : Nat × Nat), (s_pool f n mj = .inl e) ∧ v = some (.int 0) ∧ M'.1 vd = some (ob 10 [.int (nI e.1), .int (nI e.2)]) ∧ gm [r, vd, c] M M' ∧ M.2.1 ≤ M'.2.1)) := by
    intro kf
    induction kf with
    | zero => intros; exact pl_0
    | succ kf ih =>
      intro k p1 cc E it1 F1 F2 F3 F4 F6 M1 hl_r hl_b hl_da hl_vd hl_c hl_z0 hl_z0___1 hl_z0___2 hl_z0___3 hl_z0___4 hl_z0___5 hl_z0___6 hF1 tp1 hk1 hc h0 hP hs hcs
      have hb2 := by2_lt f 8
      refine ps_st1 (S' := (62, [(0, .ref r), (2, .ref z0), (3, .int (nI k))], [.int (nI k)], M1)) rfl rfl rfl ?_
      refine ps_st (S' := (63, [(0, .ref r), (2, .ref z0), (3, .int (nI k))], [.ref z0, .int (nI k)], M1)) rfl rfl rfl ?_
      refine ps_get (S' := (66, [(0, .ref r), (2, .ref z0), (3, .int (nI k))], [.int (nI (by2 f 8)), .int (nI k)], M1)) rfl hl_z0 rfl rfl ?_
      refine ps_if2 (S1 := (98, [(0, .ref r), (2, .ref z0), (3, .int (nI k))], [], M1)) (S2 := (69, [(0, .ref r), (2, .ref z0), (3, .int (nI k))], [], M1)) rfl rfl rfl (fun c_66 => ?_) (fun c_66 => ?_)
      · have c_66 : (nI (by2 f 8)) ≤ (nI k) := of_decide_eq_true c_66
        have n_66 : by2 f 8 ≤ k := (le_nI (p := by2 f 8) (n := k) (Nat.lt_trans (by2_lt _ _) (by decide)) (by omega)).mp c_66
        refine ps_st (S' := (99, [(0, .ref r), (2, .ref z0), (3, .int (nI k))], [.int 1], M1)) rfl rfl rfl ?_
        exact ps_ret rfl rfl (Or.inl ⟨p1, cc, _, E, F1, F2, F3, F4, F6, by
            unfold s_pool
            rw [if_neg (by omega), if_neg (by omega), ← hs]
            exact s_ents_0 (by omega), hP.to (by omega), by omega, hcs, rfl, by first | exact hl_r | (rw [tp0]; exact hl_r), by first | exact hl_vd | (rw [tp0]; exact hl_vd), by first | exact hl_c | (rw [tp0]; exact hl_c), by first | exact hl_z0 | (rw [tp0]; exact hl_z0), by first | exact hl_z0___1 | (rw [tp0]; exact hl_z0___1), by first | exact hl_z0___2 | (rw [tp0]; exact hl_z0___2), by first | exact hl_z0___3 | (rw [tp0]; exact hl_z0___3), by first | exact hl_z0___4 | (rw [tp0]; exact hl_z0___4), by first | exact hl_z0___5 | (rw [tp0]; exact hl_z0___5), by first | exact hl_z0___6 | (rw [tp0]; exact hl_z0___6), hF1, by rw [tp0]; exact tp1⟩)
      · have c_66 : ¬ ((nI (by2 f 8)) ≤ (nI k)) := of_decide_eq_false c_66
        have n_66 : ¬ (by2 f 8 ≤ k) := fun h9 => c_66 ((le_nI (p := by2 f 8) (n := k) (Nat.lt_trans (by2_lt _ _) (by decide)) (by omega)).mpr h9)
        refine ps_st (S' := (70, [(0, .ref r), (2, .ref z0), (3, .int (nI k))], [.ref r], M1)) rfl rfl rfl ?_
        refine ps_st (S' := (71, [(0, .ref r), (2, .ref z0), (3, .int (nI k))], [.int (nI k), .ref r], M1)) rfl rfl rfl ?_
        refine pl_call (a := [.ref r, .int (nI k)]) (rest := []) rfl rfl rfl (dx_takesEntry hl_r hl_b hl_da hl_vd hl_c hl_z0 hl_z0___1 hl_z0___3 hl_z0___4 hl_z0___2 hl_z0___6 (hn) (by omega) (by unfold dst5; omega) (by unfold hldC; omega) (rfl) (by omega) (by2_lt _ _) (hj) (by omega) (fun h9 => by unfold hldC; omega)) (fun v1 M2 q3 => ?_)
        rcases q3 with q3 | q3 | q3 | q3
        · skip
          obtain ⟨p'4, l5, it'6, q71_s, q71_c, q71_e, rfl, h7, h8, h9, h10, h11, h12, h13, h14, f15⟩ := q3
          have h17 := (f15.1 b (nin8 (ob_ne hl_b hl_r (by decide)) (ob_ne hl_b hl_vd (by decide)) (show b ≠ z0 by omega) (show b ≠ (z0 + 1) by omega) (show b ≠ (z0 + 2) by omega) (show b ≠ (z0 + 3) by omega) (show b ≠ (z0 + 4) by omega) (show b ≠ (z0 + 6) by omega))).trans hl_b
          have h18 := (f15.1 da (nin8 (Ne.symm (ob_ar hl_r hl_da)) (Ne.symm (ob_ar hl_vd hl_da)) (show da ≠ z0 by omega) (show da ≠ (z0 + 1) by omega) (show da ≠ (z0 + 2) by omega) (show da ≠ (z0 + 3) by omega) (show da ≠ (z0 + 4) by omega) (show da ≠ (z0 + 6) by omega))).trans hl_da
          have h19 := (f15.1 c (nin8 (ob_ne hl_c hl_r (by decide)) (ob_ne hl_c hl_vd (by decide)) (show c ≠ z0 by omega) (show c ≠ (z0 + 1) by omega) (show c ≠ (z0 + 2) by omega) (show c ≠ (z0 + 3) by omega) (show c ≠ (z0 + 4) by omega) (show c ≠ (z0 + 6) by omega))).trans hl_c
          have h20 := (f15.1 (z0 + 5) (nin8 (show (z0 + 5) ≠ r by omega) (show (z0 + 5) ≠ vd by omega) (show (z0 + 5) ≠ z0 by omega) (show (z0 + 5) ≠ (z0 + 1) by omega) (show (z0 + 5) ≠ (z0 + 2) by omega) (show (z0 + 5) ≠ (z0 + 3) by omega) (show (z0 + 5) ≠ (z0 + 4) by omega) (show (z0 + 5) ≠ (z0 + 6) by omega))).trans hl_z0___5
          have hF21 := hF1.trf f15 (by intro z hz; simp only [List.mem_cons, List.not_mem_nil, or_false] at hz ⊢; try omega)
          have tp22 : M2.2.1 = z0 + 7 := by rw [f15.2]; exact tp1
          show pl _ _ _ (74, [(0, .ref r), (2, .ref z0), (3, .int (nI k))], [.int 1], M2) _
          refine ps_if (S1 := (79, [(0, .ref r), (2, .ref z0), (3, .int (nI k))], [], M2)) (S2 := (77, [(0, .ref r), (2, .ref z0), (3, .int (nI k))], [], M2)) rfl rfl rfl (fun c_74 => ?_) (fun c_74 => ?_)
          rotate_left
          · exact absurd (by decide) (of_decide_eq_false c_74)
          refine ps_st (S' := (80, [(0, .ref r), (2, .ref z0), (3, .int (nI k))], [.int (nI k)], M2)) rfl rfl rfl ?_
          refine ps_st (S' := (81, [(0, .ref r), (2, .ref z0), (3, .int (nI k))], [.ref z0, .int (nI k)], M2)) rfl rfl rfl ?_
          refine ps_st (S' := (82, [(0, .ref r), (2, .ref z0), (3, .int (nI k))], [.int (nI k), .ref z0, .int (nI k)], M2)) rfl rfl rfl ?_
          refine pl_call (a := [.ref z0, .int (nI k)]) (rest := [.int (nI k)]) rfl rfl rfl (dx_isWide h11 h7 (by unfold hldC; omega) (by unfold hldC; omega) (updq_at) (by1_lt _ _)) (fun v23 M24 q25 => ?_)
          rcases q25 with q25 | q25
          · skip
            obtain ⟨q82_y, rfl, f26⟩ := q25
            have h28 := (f26.1 r (by simp)).trans h9
            have h29 := (f26.1 b (by simp)).trans h17
            have h30 := (f26.1 da (by simp)).trans h18
            have h31 := (f26.1 vd (by simp)).trans h10
            have h32 := (f26.1 c (by simp)).trans h19
            have h33 := (f26.1 z0 (by simp)).trans h11
            have h34 := (f26.1 (z0 + 1) (by simp)).trans h7
            have h35 := (f26.1 (z0 + 2) (by simp)).trans h8
            have h36 := (f26.1 (z0 + 3) (by simp)).trans h12
            have h37 := (f26.1 (z0 + 4) (by simp)).trans h13
            have h38 := (f26.1 (z0 + 5) (by simp)).trans h20
            have h39 := (f26.1 (z0 + 6) (by simp)).trans h14
            have hF40 := hF21.trf f26 (by intro z hz; simp only [List.mem_cons, List.not_mem_nil, or_false] at hz ⊢; try omega)
            have tp41 : M24.2.1 = z0 + 7 := by rw [f26.2]; exact tp22
            show pl _ _ _ (85, [(0, .ref r), (2, .ref z0), (3, .int (nI k))], [.int 1, .int (nI k)], M24) _
            refine ps_if (S1 := (92, [(0, .ref r), (2, .ref z0), (3, .int (nI k))], [.int (nI k)], M24)) (S2 := (88, [(0, .ref r), (2, .ref z0), (3, .int (nI k))], [.int (nI k)], M24)) rfl rfl rfl (fun c_85 => ?_) (fun c_85 => ?_)
            · exact absurd (of_decide_eq_true c_85) (by decide)
            refine ps_st (S' := (89, [(0, .ref r), (2, .ref z0), (3, .int (nI k))], [.int 2, .int (nI k)], M24)) rfl rfl rfl ?_
            refine ps_st (S' := (93, [(0, .ref r), (2, .ref z0)], [.int 2, .int (nI k)], M24)) rfl rfl rfl ?_
            refine ps_st (S' := (94, [(0, .ref r), (2, .ref z0)], [.int ((nI k) + 2)], M24)) rfl rfl rfl ?_
            rw [nI_add1 (p := k) (k := 2) (x := 2) rfl (by omega)]
            show pl _ _ _ (_, [(0, .ref r), (2, .ref z0)], [.int (nI (k + 2))], M24) _
            refine ps_st (S' := (95, [(3, .int (nI (k + 2))), (0, .ref r), (2, .ref z0)], [], M24)) rfl rfl rfl ?_
            refine ps_st (S' := (61, [(0, .ref r), (2, .ref z0), (3, .int (nI (k + 2)))], [], M24)) rfl rfl rfl ?_
            exact ih (k + 2) (p'4) (cc + l5.length) (E ++ [(k, p1)]) (it'6) ((upd F1 k (nI (by1 f p1)))) ((upd F2 k (nI p1))) ((upd F3 k (nI cc))) ((upd F4 k (nI l5.length))) ((wr F6 cc l5)) M24 h28 h29 h30 h31 h32 h33 h34 h35 h36 h37 h38 h39 hF40 (tp41) (by obtain ⟨t1, t2, t3⟩ := s_entry_txt q71_s; omega) (by omega) (by omega) (by
                obtain ⟨t1, t2, t3⟩ := s_entry_txt q71_s
                refine hP.add (k' := k + 2) (p := p1) (by omega) (by omega) (fun j hj => updq_ne hj) (fun j hj => updq_ne hj) (fun j hj => wr_lo hj) ⟨updq_at, updq_at, fun _ => ⟨_, cc, t2, updq_at, updq_at, Nat.le_refl _, fun i hi => wr_in hi⟩, fun h7 => by omega⟩) (by
                rw [← hs, s_ents_step (by omega) q71_s, if_pos (by omega)]) (by
                obtain ⟨t1, t2, t3⟩ := s_entry_txt q71_s
                rw [chL_app, hcs, if_pos t1, t2]
                first | done | rfl)
          · skip
            obtain ⟨q82_n, rfl, f42⟩ := q25
            have h44 := (f42.1 r (by simp)).trans h9
            have h45 := (f42.1 b (by simp)).trans h17
            have h46 := (f42.1 da (by simp)).trans h18
            have h47 := (f42.1 vd (by simp)).trans h10
            have h48 := (f42.1 c (by simp)).trans h19
            have h49 := (f42.1 z0 (by simp)).trans h11
            have h50 := (f42.1 (z0 + 1) (by simp)).trans h7
            have h51 := (f42.1 (z0 + 2) (by simp)).trans h8
            have h52 := (f42.1 (z0 + 3) (by simp)).trans h12
            have h53 := (f42.1 (z0 + 4) (by simp)).trans h13
            have h54 := (f42.1 (z0 + 5) (by simp)).trans h20
            have h55 := (f42.1 (z0 + 6) (by simp)).trans h14
            have hF56 := hF21.trf f42 (by intro z hz; simp only [List.mem_cons, List.not_mem_nil, or_false] at hz ⊢; try omega)
            have tp57 : M24.2.1 = z0 + 7 := by rw [f42.2]; exact tp22
            show pl _ _ _ (85, [(0, .ref r), (2, .ref z0), (3, .int (nI k))], [.int 0, .int (nI k)], M24) _
            refine ps_if (S1 := (92, [(0, .ref r), (2, .ref z0), (3, .int (nI k))], [.int (nI k)], M24)) (S2 := (88, [(0, .ref r), (2, .ref z0), (3, .int (nI k))], [.int (nI k)], M24)) rfl rfl rfl (fun c_85 => ?_) (fun c_85 => ?_)
            rotate_left
            · exact absurd (by decide) (of_decide_eq_false c_85)
            refine ps_st (S' := (93, [(0, .ref r), (2, .ref z0)], [.int 1, .int (nI k)], M24)) rfl rfl rfl ?_
            refine ps_st (S' := (94, [(0, .ref r), (2, .ref z0)], [.int ((nI k) + 1)], M24)) rfl rfl rfl ?_
            rw [nI_add1 (p := k) (k := 1) (x := 1) rfl (by omega)]
            show pl _ _ _ (_, [(0, .ref r), (2, .ref z0)], [.int (nI (k + 1))], M24) _
            refine ps_st (S' := (95, [(3, .int (nI (k + 1))), (0, .ref r), (2, .ref z0)], [], M24)) rfl rfl rfl ?_
            refine ps_st (S' := (61, [(0, .ref r), (2, .ref z0), (3, .int (nI (k + 1)))], [], M24)) rfl rfl rfl ?_
            exact ih (k + 1) (p'4) (cc + l5.length) (E ++ [(k, p1)]) (it'6) ((upd F1 k (nI (by1 f p1)))) ((upd F2 k (nI p1))) ((upd F3 k (nI cc))) ((upd F4 k (nI l5.length))) ((wr F6 cc l5)) M24 h44 h45 h46 h47 h48 h49 h50 h51 h52 h53 h54 h55 hF56 (tp57) (by obtain ⟨t1, t2, t3⟩ := s_entry_txt q71_s; omega) (by omega) (by omega) (by
                obtain ⟨t1, t2, t3⟩ := s_entry_txt q71_s
                refine hP.add (k' := k + 1) (p := p1) (by omega) (by omega) (fun j hj => updq_ne hj) (fun j hj => updq_ne hj) (fun j hj => wr_lo hj) ⟨updq_at, updq_at, fun _ => ⟨_, cc, t2, updq_at, updq_at, Nat.le_refl _, fun i hi => wr_in hi⟩, fun h7 => by omega⟩) (by
                rw [← hs, s_ents_step (by omega) q71_s, if_neg (by omega)]) (by
                obtain ⟨t1, t2, t3⟩ := s_entry_txt q71_s
                rw [chL_app, hcs, if_pos t1, t2]
                first | done | rfl)
        · skip
          obtain ⟨p'58, it'59, q71_s, q71_e, rfl, h60, h61, h62, h63, h64, h65, h66, h67, f68⟩ := q3
          have h70 := (f68.1 b (nin8 (ob_ne hl_b hl_r (by decide)) (ob_ne hl_b hl_vd (by decide)) (show b ≠ z0 by omega) (show b ≠ (z0 + 1) by omega) (show b ≠ (z0 + 2) by omega) (show b ≠ (z0 + 3) by omega) (show b ≠ (z0 + 4) by omega) (show b ≠ (z0 + 6) by omega))).trans hl_b
          have h71 := (f68.1 da (nin8 (Ne.symm (ob_ar hl_r hl_da)) (Ne.symm (ob_ar hl_vd hl_da)) (show da ≠ z0 by omega) (show da ≠ (z0 + 1) by omega) (show da ≠ (z0 + 2) by omega) (show da ≠ (z0 + 3) by omega) (show da ≠ (z0 + 4) by omega) (show da ≠ (z0 + 6) by omega))).trans hl_da
          have h72 := (f68.1 c (nin8 (ob_ne hl_c hl_r (by decide)) (ob_ne hl_c hl_vd (by decide)) (show c ≠ z0 by omega) (show c ≠ (z0 + 1) by omega) (show c ≠ (z0 + 2) by omega) (show c ≠ (z0 + 3) by omega) (show c ≠ (z0 + 4) by omega) (show c ≠ (z0 + 6) by omega))).trans hl_c
          have h73 := (f68.1 (z0 + 5) (nin8 (show (z0 + 5) ≠ r by omega) (show (z0 + 5) ≠ vd by omega) (show (z0 + 5) ≠ z0 by omega) (show (z0 + 5) ≠ (z0 + 1) by omega) (show (z0 + 5) ≠ (z0 + 2) by omega) (show (z0 + 5) ≠ (z0 + 3) by omega) (show (z0 + 5) ≠ (z0 + 4) by omega) (show (z0 + 5) ≠ (z0 + 6) by omega))).trans hl_z0___5
          have hF74 := hF1.trf f68 (by intro z hz; simp only [List.mem_cons, List.not_mem_nil, or_false] at hz ⊢; try omega)
          have tp75 : M2.2.1 = z0 + 7 := by rw [f68.2]; exact tp1
          show pl _ _ _ (74, [(0, .ref r), (2, .ref z0), (3, .int (nI k))], [.int 1], M2) _
          refine ps_if (S1 := (79, [(0, .ref r), (2, .ref z0), (3, .int (nI k))], [], M2)) (S2 := (77, [(0, .ref r), (2, .ref z0), (3, .int (nI k))], [], M2)) rfl rfl rfl (fun c_74 => ?_) (fun c_74 => ?_)
          rotate_left
          · exact absurd (by decide) (of_decide_eq_false c_74)
          refine ps_st (S' := (80, [(0, .ref r), (2, .ref z0), (3, .int (nI k))], [.int (nI k)], M2)) rfl rfl rfl ?_
          refine ps_st (S' := (81, [(0, .ref r), (2, .ref z0), (3, .int (nI k))], [.ref z0, .int (nI k)], M2)) rfl rfl rfl ?_
          refine ps_st (S' := (82, [(0, .ref r), (2, .ref z0), (3, .int (nI k))], [.int (nI k), .ref z0, .int (nI k)], M2)) rfl rfl rfl ?_
          refine pl_call (a := [.ref z0, .int (nI k)]) (rest := [.int (nI k)]) rfl rfl rfl (dx_isWide h64 h60 (by unfold hldC; omega) (by unfold hldC; omega) (updq_at) (by1_lt _ _)) (fun v76 M77 q78 => ?_)
          rcases q78 with q78 | q78
          · skip
            obtain ⟨q82_y, rfl, f79⟩ := q78
            have h81 := (f79.1 r (by simp)).trans h62
            have h82 := (f79.1 b (by simp)).trans h70
            have h83 := (f79.1 da (by simp)).trans h71
            have h84 := (f79.1 vd (by simp)).trans h63
            have h85 := (f79.1 c (by simp)).trans h72
            have h86 := (f79.1 z0 (by simp)).trans h64
            have h87 := (f79.1 (z0 + 1) (by simp)).trans h60
            have h88 := (f79.1 (z0 + 2) (by simp)).trans h61
            have h89 := (f79.1 (z0 + 3) (by simp)).trans h65
            have h90 := (f79.1 (z0 + 4) (by simp)).trans h66
            have h91 := (f79.1 (z0 + 5) (by simp)).trans h73
            have h92 := (f79.1 (z0 + 6) (by simp)).trans h67
            have hF93 := hF74.trf f79 (by intro z hz; simp only [List.mem_cons, List.not_mem_nil, or_false] at hz ⊢; try omega)
            have tp94 : M77.2.1 = z0 + 7 := by rw [f79.2]; exact tp75
            show pl _ _ _ (85, [(0, .ref r), (2, .ref z0), (3, .int (nI k))], [.int 1, .int (nI k)], M77) _
            refine ps_if (S1 := (92, [(0, .ref r), (2, .ref z0), (3, .int (nI k))], [.int (nI k)], M77)) (S2 := (88, [(0, .ref r), (2, .ref z0), (3, .int (nI k))], [.int (nI k)], M77)) rfl rfl rfl (fun c_85 => ?_) (fun c_85 => ?_)
            · exact absurd (of_decide_eq_true c_85) (by decide)
            refine ps_st (S' := (89, [(0, .ref r), (2, .ref z0), (3, .int (nI k))], [.int 2, .int (nI k)], M77)) rfl rfl rfl ?_
            refine ps_st (S' := (93, [(0, .ref r), (2, .ref z0)], [.int 2, .int (nI k)], M77)) rfl rfl rfl ?_
            refine ps_st (S' := (94, [(0, .ref r), (2, .ref z0)], [.int ((nI k) + 2)], M77)) rfl rfl rfl ?_
            rw [nI_add1 (p := k) (k := 2) (x := 2) rfl (by omega)]
            show pl _ _ _ (_, [(0, .ref r), (2, .ref z0)], [.int (nI (k + 2))], M77) _
            refine ps_st (S' := (95, [(3, .int (nI (k + 2))), (0, .ref r), (2, .ref z0)], [], M77)) rfl rfl rfl ?_
            refine ps_st (S' := (61, [(0, .ref r), (2, .ref z0), (3, .int (nI (k + 2)))], [], M77)) rfl rfl rfl ?_
            exact ih (k + 2) (p'58) (cc) (E ++ [(k, p1)]) (it'59) ((upd F1 k (nI (by1 f p1)))) ((upd F2 k (nI p1))) (F3) (F4) (F6) M77 h81 h82 h83 h84 h85 h86 h87 h88 h89 h90 h91 h92 hF93 (tp94) (by have t1 := s_entry_pl q71_s; omega) (by omega) (by omega) (by
                have t1 := s_entry_pl q71_s
                refine hP.add (k' := k + 2) (p := p1) (by omega) (by omega) (fun j hj => rfl) (fun j hj => rfl) (fun j hj => rfl) ⟨updq_at, updq_at, fun h1 => by omega, fun h7 => by omega⟩) (by
                rw [← hs, s_ents_step (by omega) q71_s, if_pos (by omega)]) (by
                have t1 := s_entry_pl q71_s
                rw [chL_app, hcs, if_neg (by omega)]
                first | done | rfl)
          · skip
            obtain ⟨q82_n, rfl, f95⟩ := q78
            have h97 := (f95.1 r (by simp)).trans h62
            have h98 := (f95.1 b (by simp)).trans h70
            have h99 := (f95.1 da (by simp)).trans h71
            have h100 := (f95.1 vd (by simp)).trans h63
            have h101 := (f95.1 c (by simp)).trans h72
            have h102 := (f95.1 z0 (by simp)).trans h64
            have h103 := (f95.1 (z0 + 1) (by simp)).trans h60
            have h104 := (f95.1 (z0 + 2) (by simp)).trans h61
            have h105 := (f95.1 (z0 + 3) (by simp)).trans h65
            have h106 := (f95.1 (z0 + 4) (by simp)).trans h66
            have h107 := (f95.1 (z0 + 5) (by simp)).trans h73
            have h108 := (f95.1 (z0 + 6) (by simp)).trans h67
            have hF109 := hF74.trf f95 (by intro z hz; simp only [List.mem_cons, List.not_mem_nil, or_false] at hz ⊢; try omega)
            have tp110 : M77.2.1 = z0 + 7 := by rw [f95.2]; exact tp75
            show pl _ _ _ (85, [(0, .ref r), (2, .ref z0), (3, .int (nI k))], [.int 0, .int (nI k)], M77) _
            refine ps_if (S1 := (92, [(0, .ref r), (2, .ref z0), (3, .int (nI k))], [.int (nI k)], M77)) (S2 := (88, [(0, .ref r), (2, .ref z0), (3, .int (nI k))], [.int (nI k)], M77)) rfl rfl rfl (fun c_85 => ?_) (fun c_85 => ?_)
            rotate_left
            · exact absurd (by decide) (of_decide_eq_false c_85)
            refine ps_st (S' := (93, [(0, .ref r), (2, .ref z0)], [.int 1, .int (nI k)], M77)) rfl rfl rfl ?_
            refine ps_st (S' := (94, [(0, .ref r), (2, .ref z0)], [.int ((nI k) + 1)], M77)) rfl rfl rfl ?_
            rw [nI_add1 (p := k) (k := 1) (x := 1) rfl (by omega)]
            show pl _ _ _ (_, [(0, .ref r), (2, .ref z0)], [.int (nI (k + 1))], M77) _
            refine ps_st (S' := (95, [(3, .int (nI (k + 1))), (0, .ref r), (2, .ref z0)], [], M77)) rfl rfl rfl ?_
            refine ps_st (S' := (61, [(0, .ref r), (2, .ref z0), (3, .int (nI (k + 1)))], [], M77)) rfl rfl rfl ?_
            exact ih (k + 1) (p'58) (cc) (E ++ [(k, p1)]) (it'59) ((upd F1 k (nI (by1 f p1)))) ((upd F2 k (nI p1))) (F3) (F4) (F6) M77 h97 h98 h99 h100 h101 h102 h103 h104 h105 h106 h107 h108 hF109 (tp110) (by have t1 := s_entry_pl q71_s; omega) (by omega) (by omega) (by
                have t1 := s_entry_pl q71_s
                refine hP.add (k' := k + 1) (p := p1) (by omega) (by omega) (fun j hj => rfl) (fun j hj => rfl) (fun j hj => rfl) ⟨updq_at, updq_at, fun h1 => by omega, fun h7 => by omega⟩) (by
                rw [← hs, s_ents_step (by omega) q71_s, if_neg (by omega)]) (by
                have t1 := s_entry_pl q71_s
                rw [chL_app, hcs, if_neg (by omega)]
                first | done | rfl)
        · skip
          obtain ⟨p'111, x112, y113, it'114, q71_s, q71_e, rfl, h115, h116, h117, h118, h119, h120, h121, h122, f123⟩ := q3
          have h125 := (f123.1 b (nin8 (ob_ne hl_b hl_r (by decide)) (ob_ne hl_b hl_vd (by decide)) (show b ≠ z0 by omega) (show b ≠ (z0 + 1) by omega) (show b ≠ (z0 + 2) by omega) (show b ≠ (z0 + 3) by omega) (show b ≠ (z0 + 4) by omega) (show b ≠ (z0 + 6) by omega))).trans hl_b
          have h126 := (f123.1 da (nin8 (Ne.symm (ob_ar hl_r hl_da)) (Ne.symm (ob_ar hl_vd hl_da)) (show da ≠ z0 by omega) (show da ≠ (z0 + 1) by omega) (show da ≠ (z0 + 2) by omega) (show da ≠ (z0 + 3) by omega) (show da ≠ (z0 + 4) by omega) (show da ≠ (z0 + 6) by omega))).trans hl_da
          have h127 := (f123.1 c (nin8 (ob_ne hl_c hl_r (by decide)) (ob_ne hl_c hl_vd (by decide)) (show c ≠ z0 by omega) (show c ≠ (z0 + 1) by omega) (show c ≠ (z0 + 2) by omega) (show c ≠ (z0 + 3) by omega) (show c ≠ (z0 + 4) by omega) (show c ≠ (z0 + 6) by omega))).trans hl_c
          have h128 := (f123.1 (z0 + 5) (nin8 (show (z0 + 5) ≠ r by omega) (show (z0 + 5) ≠ vd by omega) (show (z0 + 5) ≠ z0 by omega) (show (z0 + 5) ≠ (z0 + 1) by omega) (show (z0 + 5) ≠ (z0 + 2) by omega) (show (z0 + 5) ≠ (z0 + 3) by omega) (show (z0 + 5) ≠ (z0 + 4) by omega) (show (z0 + 5) ≠ (z0 + 6) by omega))).trans hl_z0___5
          have hF129 := hF1.trf f123 (by intro z hz; simp only [List.mem_cons, List.not_mem_nil, or_false] at hz ⊢; try omega)
          have tp130 : M2.2.1 = z0 + 7 := by rw [f123.2]; exact tp1
          show pl _ _ _ (74, [(0, .ref r), (2, .ref z0), (3, .int (nI k))], [.int 1], M2) _
          refine ps_if (S1 := (79, [(0, .ref r), (2, .ref z0), (3, .int (nI k))], [], M2)) (S2 := (77, [(0, .ref r), (2, .ref z0), (3, .int (nI k))], [], M2)) rfl rfl rfl (fun c_74 => ?_) (fun c_74 => ?_)
          rotate_left
          · exact absurd (by decide) (of_decide_eq_false c_74)
          refine ps_st (S' := (80, [(0, .ref r), (2, .ref z0), (3, .int (nI k))], [.int (nI k)], M2)) rfl rfl rfl ?_
          refine ps_st (S' := (81, [(0, .ref r), (2, .ref z0), (3, .int (nI k))], [.ref z0, .int (nI k)], M2)) rfl rfl rfl ?_
          refine ps_st (S' := (82, [(0, .ref r), (2, .ref z0), (3, .int (nI k))], [.int (nI k), .ref z0, .int (nI k)], M2)) rfl rfl rfl ?_
          refine pl_call (a := [.ref z0, .int (nI k)]) (rest := [.int (nI k)]) rfl rfl rfl (dx_isWide h119 h115 (by unfold hldC; omega) (by unfold hldC; omega) (updq_at) (by1_lt _ _)) (fun v131 M132 q133 => ?_)
          rcases q133 with q133 | q133
          · skip
            obtain ⟨q82_y, rfl, f134⟩ := q133
            have h136 := (f134.1 r (by simp)).trans h117
            have h137 := (f134.1 b (by simp)).trans h125
            have h138 := (f134.1 da (by simp)).trans h126
            have h139 := (f134.1 vd (by simp)).trans h118
            have h140 := (f134.1 c (by simp)).trans h127
            have h141 := (f134.1 z0 (by simp)).trans h119
            have h142 := (f134.1 (z0 + 1) (by simp)).trans h115
            have h143 := (f134.1 (z0 + 2) (by simp)).trans h116
            have h144 := (f134.1 (z0 + 3) (by simp)).trans h120
            have h145 := (f134.1 (z0 + 4) (by simp)).trans h121
            have h146 := (f134.1 (z0 + 5) (by simp)).trans h128
            have h147 := (f134.1 (z0 + 6) (by simp)).trans h122
            have hF148 := hF129.trf f134 (by intro z hz; simp only [List.mem_cons, List.not_mem_nil, or_false] at hz ⊢; try omega)
            have tp149 : M132.2.1 = z0 + 7 := by rw [f134.2]; exact tp130
            show pl _ _ _ (85, [(0, .ref r), (2, .ref z0), (3, .int (nI k))], [.int 1, .int (nI k)], M132) _
            refine ps_if (S1 := (92, [(0, .ref r), (2, .ref z0), (3, .int (nI k))], [.int (nI k)], M132)) (S2 := (88, [(0, .ref r), (2, .ref z0), (3, .int (nI k))], [.int (nI k)], M132)) rfl rfl rfl (fun c_85 => ?_) (fun c_85 => ?_)
            · exact absurd (of_decide_eq_true c_85) (by decide)
            refine ps_st (S' := (89, [(0, .ref r), (2, .ref z0), (3, .int (nI k))], [.int 2, .int (nI k)], M132)) rfl rfl rfl ?_
            refine ps_st (S' := (93, [(0, .ref r), (2, .ref z0)], [.int 2, .int (nI k)], M132)) rfl rfl rfl ?_
            refine ps_st (S' := (94, [(0, .ref r), (2, .ref z0)], [.int ((nI k) + 2)], M132)) rfl rfl rfl ?_
            rw [nI_add1 (p := k) (k := 2) (x := 2) rfl (by omega)]
            show pl _ _ _ (_, [(0, .ref r), (2, .ref z0)], [.int (nI (k + 2))], M132) _
            refine ps_st (S' := (95, [(3, .int (nI (k + 2))), (0, .ref r), (2, .ref z0)], [], M132)) rfl rfl rfl ?_
            refine ps_st (S' := (61, [(0, .ref r), (2, .ref z0), (3, .int (nI (k + 2)))], [], M132)) rfl rfl rfl ?_
            exact ih (k + 2) (p'111) (cc) (E ++ [(k, p1)]) (it'114) ((upd F1 k (nI (by1 f p1)))) ((upd F2 k (nI p1))) ((upd F3 k (nI x112))) ((upd F4 k (nI y113))) (F6) M132 h136 h137 h138 h139 h140 h141 h142 h143 h144 h145 h146 h147 hF148 (tp149) (by obtain ⟨t1, t2⟩ := s_entry_ix q71_s; omega) (by omega) (by omega) (by
                obtain ⟨t1, t2⟩ := s_entry_ix q71_s
                refine hP.add (k' := k + 2) (p := p1) (by omega) (by omega) (fun j hj => updq_ne hj) (fun j hj => updq_ne hj) (fun j hj => rfl) ⟨updq_at, updq_at, fun h1 => by omega, fun h7 => ⟨_, _, _, t1, updq_at, updq_at⟩⟩) (by
                rw [← hs, s_ents_step (by omega) q71_s, if_pos (by omega)]) (by
                obtain ⟨t1, t2⟩ := s_entry_ix q71_s
                rw [chL_app, hcs, if_neg (by omega)]
                first | done | rfl)
          · skip
            obtain ⟨q82_n, rfl, f150⟩ := q133
            have h152 := (f150.1 r (by simp)).trans h117
            have h153 := (f150.1 b (by simp)).trans h125
            have h154 := (f150.1 da (by simp)).trans h126
            have h155 := (f150.1 vd (by simp)).trans h118
            have h156 := (f150.1 c (by simp)).trans h127
            have h157 := (f150.1 z0 (by simp)).trans h119
            have h158 := (f150.1 (z0 + 1) (by simp)).trans h115
            have h159 := (f150.1 (z0 + 2) (by simp)).trans h116
            have h160 := (f150.1 (z0 + 3) (by simp)).trans h120
            have h161 := (f150.1 (z0 + 4) (by simp)).trans h121
            have h162 := (f150.1 (z0 + 5) (by simp)).trans h128
            have h163 := (f150.1 (z0 + 6) (by simp)).trans h122
            have hF164 := hF129.trf f150 (by intro z hz; simp only [List.mem_cons, List.not_mem_nil, or_false] at hz ⊢; try omega)
            have tp165 : M132.2.1 = z0 + 7 := by rw [f150.2]; exact tp130
            show pl _ _ _ (85, [(0, .ref r), (2, .ref z0), (3, .int (nI k))], [.int 0, .int (nI k)], M132) _
            refine ps_if (S1 := (92, [(0, .ref r), (2, .ref z0), (3, .int (nI k))], [.int (nI k)], M132)) (S2 := (88, [(0, .ref r), (2, .ref z0), (3, .int (nI k))], [.int (nI k)], M132)) rfl rfl rfl (fun c_85 => ?_) (fun c_85 => ?_)
            rotate_left
            · exact absurd (by decide) (of_decide_eq_false c_85)
            refine ps_st (S' := (93, [(0, .ref r), (2, .ref z0)], [.int 1, .int (nI k)], M132)) rfl rfl rfl ?_
            refine ps_st (S' := (94, [(0, .ref r), (2, .ref z0)], [.int ((nI k) + 1)], M132)) rfl rfl rfl ?_
            rw [nI_add1 (p := k) (k := 1) (x := 1) rfl (by omega)]
            show pl _ _ _ (_, [(0, .ref r), (2, .ref z0)], [.int (nI (k + 1))], M132) _
            refine ps_st (S' := (95, [(3, .int (nI (k + 1))), (0, .ref r), (2, .ref z0)], [], M132)) rfl rfl rfl ?_
            refine ps_st (S' := (61, [(0, .ref r), (2, .ref z0), (3, .int (nI (k + 1)))], [], M132)) rfl rfl rfl ?_
            exact ih (k + 1) (p'111) (cc) (E ++ [(k, p1)]) (it'114) ((upd F1 k (nI (by1 f p1)))) ((upd F2 k (nI p1))) ((upd F3 k (nI x112))) ((upd F4 k (nI y113))) (F6) M132 h152 h153 h154 h155 h156 h157 h158 h159 h160 h161 h162 h163 hF164 (tp165) (by obtain ⟨t1, t2⟩ := s_entry_ix q71_s; omega) (by omega) (by omega) (by
                obtain ⟨t1, t2⟩ := s_entry_ix q71_s
                refine hP.add (k' := k + 1) (p := p1) (by omega) (by omega) (fun j hj => updq_ne hj) (fun j hj => updq_ne hj) (fun j hj => rfl) ⟨updq_at, updq_at, fun h1 => by omega, fun h7 => ⟨_, _, _, t1, updq_at, updq_at⟩⟩) (by
                rw [← hs, s_ents_step (by omega) q71_s, if_neg (by omega)]) (by
                obtain ⟨t1, t2⟩ := s_entry_ix q71_s
                rw [chL_app, hcs, if_neg (by omega)]
                first | done | rfl)
        · skip
          obtain ⟨e166, q71_s, rfl, h167, f168⟩ := q3
          have h170 := (f168.1 b (nin8 (ob_ne hl_b hl_r (by decide)) (ob_ne hl_b hl_vd (by decide)) (show b ≠ z0 by omega) (show b ≠ (z0 + 1) by omega) (show b ≠ (z0 + 2) by omega) (show b ≠ (z0 + 3) by omega) (show b ≠ (z0 + 4) by omega) (show b ≠ (z0 + 6) by omega))).trans hl_b
          have h171 := (f168.1 da (nin8 (Ne.symm (ob_ar hl_r hl_da)) (Ne.symm (ob_ar hl_vd hl_da)) (show da ≠ z0 by omega) (show da ≠ (z0 + 1) by omega) (show da ≠ (z0 + 2) by omega) (show da ≠ (z0 + 3) by omega) (show da ≠ (z0 + 4) by omega) (show da ≠ (z0 + 6) by omega))).trans hl_da
          have h172 := (f168.1 c (nin8 (ob_ne hl_c hl_r (by decide)) (ob_ne hl_c hl_vd (by decide)) (show c ≠ z0 by omega) (show c ≠ (z0 + 1) by omega) (show c ≠ (z0 + 2) by omega) (show c ≠ (z0 + 3) by omega) (show c ≠ (z0 + 4) by omega) (show c ≠ (z0 + 6) by omega))).trans hl_c
          have h173 := (f168.1 (z0 + 5) (nin8 (show (z0 + 5) ≠ r by omega) (show (z0 + 5) ≠ vd by omega) (show (z0 + 5) ≠ z0 by omega) (show (z0 + 5) ≠ (z0 + 1) by omega) (show (z0 + 5) ≠ (z0 + 2) by omega) (show (z0 + 5) ≠ (z0 + 3) by omega) (show (z0 + 5) ≠ (z0 + 4) by omega) (show (z0 + 5) ≠ (z0 + 6) by omega))).trans hl_z0___5
          have hF174 := hF1.trf f168 (by intro z hz; simp only [List.mem_cons, List.not_mem_nil, or_false] at hz ⊢; try omega)
          have tp175 : M2.2.1 = z0 + 7 := by rw [f168.2]; exact tp1
          show pl _ _ _ (74, [(0, .ref r), (2, .ref z0), (3, .int (nI k))], [.int 0], M2) _
          refine ps_if (S1 := (79, [(0, .ref r), (2, .ref z0), (3, .int (nI k))], [], M2)) (S2 := (77, [(0, .ref r), (2, .ref z0), (3, .int (nI k))], [], M2)) rfl rfl rfl (fun c_74 => ?_) (fun c_74 => ?_)
          · exact absurd (of_decide_eq_true c_74) (by decide)
          refine ps_st (S' := (78, [(0, .ref r), (2, .ref z0), (3, .int (nI k))], [.int 0], M2)) rfl rfl rfl ?_
          exact ps_ret rfl rfl (Or.inr ⟨_, by
              unfold s_pool
              rw [if_neg (by omega), if_neg (by omega), ← hs]
              exact s_ents_bad (by omega) q71_s, rfl, h167, hF174, hF174.2⟩)
  refine ps_st (S' := (1, [(0, .ref r)], [.ref r], M)) rfl rfl rfl ?_
  refine ps_get (S' := (4, [(0, .ref r)], [.int (nI 8)], M)) rfl h_r rfl rfl ?_
  refine ps_st (S' := (5, [(1, .int (nI 8)), (0, .ref r)], [], M)) rfl rfl rfl ?_
  refine ps_st (S' := (6, [(1, .int (nI 8)), (0, .ref r)], [.ref r], M)) rfl rfl rfl ?_
  refine ps_st (S' := (7, [(1, .int (nI 8)), (0, .ref r)], [.int 2, .ref r], M)) rfl rfl rfl ?_
  refine pl_call (a := [.ref r, .int 2]) (rest := []) rfl rfl rfl (dx_takes2 h_r h_b h_da h_vd (hn) (by omega)) (fun v176 M177 q178 => ?_)
  rcases q178 with q178 | q178
  · skip
    obtain ⟨q7_ok, rfl, h179, h180, f181⟩ := q178
    have h183 := (f181.1 b (nin2 (ob_ne h_b h_r (by decide)) (ob_ne h_b h_vd (by decide)))).trans h_b
    have h184 := (f181.1 da (nin2 (Ne.symm (ob_ar h_r h_da)) (Ne.symm (ob_ar h_vd h_da)))).trans h_da
    have h185 := (f181.1 c (nin2 (ob_ne h_c h_r (by decide)) (ob_ne h_c h_vd (by decide)))).trans h_c
    have hF186 := hF.trf f181 (by intro z hz; simp only [List.mem_cons, List.not_mem_nil, or_false] at hz ⊢; try omega)
    have tp187 : M177.2.1 = z0 := by rw [f181.2]; exact tp0
    show pl _ _ _ (10, [(1, .int (nI 8)), (0, .ref r)], [.int 1], M177) _
    refine ps_if (S1 := (15, [(1, .int (nI 8)), (0, .ref r)], [], M177)) (S2 := (13, [(1, .int (nI 8)), (0, .ref r)], [], M177)) rfl rfl rfl (fun c_10 => ?_) (fun c_10 => ?_)
    rotate_left
    · exact absurd (by decide) (of_decide_eq_false c_10)
    refine ps_st (S' := (16, [(1, .int (nI 8)), (0, .ref r)], [.ref r], M177)) rfl rfl rfl ?_
    refine ps_get (S' := (19, [(1, .int (nI 8)), (0, .ref r)], [.int (nI (by2 f 8))], M177)) rfl h179 rfl rfl ?_
    refine ps_if (S1 := (32, [(1, .int (nI 8)), (0, .ref r)], [], M177)) (S2 := (22, [(1, .int (nI 8)), (0, .ref r)], [], M177)) rfl rfl rfl (fun c_19 => ?_) (fun c_19 => ?_)
    · have c_19 : ¬ (nI (by2 f 8)) = 0 := of_decide_eq_true c_19
      have n_19 : ¬ (by2 f 8 = 0) := fun h9 => c_19 ((eq_nI (p := by2 f 8) (n := 0) (Nat.lt_trans (by2_lt _ _) (by decide)) (by decide)).mpr h9)
      refine ps_newz rfl tp187 (fun M188 h189 f190 tp191 => ?_)
      have h192 := (f190 r (show r ≠ z0 by omega)).trans h179
      have h193 := (f190 b (show b ≠ z0 by omega)).trans h183
      have h194 := (f190 da (show da ≠ z0 by omega)).trans h184
      have h195 := (f190 vd (show vd ≠ z0 by omega)).trans h180
      have h196 := (f190 c (show c ≠ z0 by omega)).trans h185
      have hF197 := hF186.up (Or.inr (by omega)) f190 (by omega)
      show pl _ _ _ (35, [(1, .int (nI 8)), (0, .ref r)], [.ref z0], M188) _
      refine ps_st (S' := (36, [(1, .int (nI 8)), (0, .ref r)], [.ref z0, .ref z0], M188)) rfl rfl rfl ?_
      refine ps_st (S' := (37, [(1, .int (nI 8)), (0, .ref r)], [.ref r, .ref z0, .ref z0], M188)) rfl rfl rfl ?_
      refine ps_get (S' := (40, [(1, .int (nI 8)), (0, .ref r)], [.int (nI (by2 f 8)), .ref z0, .ref z0], M188)) rfl h192 rfl rfl ?_
      refine ps_st (S' := (41, [(1, .int (nI 8)), (0, .ref r)], [.ref r, .int (nI (by2 f 8)), .ref z0, .ref z0], M188)) rfl rfl rfl ?_
      refine ps_get (S' := (44, [(1, .int (nI 8)), (0, .ref r)], [.ref b, .int (nI (by2 f 8)), .ref z0, .ref z0], M188)) rfl h192 rfl rfl ?_
      refine pl_call (a := [.ref b]) (rest := [.int (nI (by2 f 8)), .ref z0, .ref z0]) rfl rfl rfl (dx_size h193 h194 (hn)) (fun v198 M199 q200 => ?_)
      obtain ⟨rfl, f201⟩ := q200
      have h203 := (f201.1 r (by simp)).trans h192
      have h204 := (f201.1 b (by simp)).trans h193
      have h205 := (f201.1 da (by simp)).trans h194
      have h206 := (f201.1 vd (by simp)).trans h195
      have h207 := (f201.1 c (by simp)).trans h196
      have h208 := (f201.1 z0 (by simp)).trans h189
      have hF209 := hF197.trf f201 (by intro z hz; simp only [List.mem_cons, List.not_mem_nil, or_false] at hz ⊢; try omega)
      have tp210 : M199.2.1 = z0 + 1 := by rw [f201.2]; exact tp191
      show pl _ _ _ (47, [(1, .int (nI 8)), (0, .ref r)], [.int (sp_size n f ), .int (nI (by2 f 8)), .ref z0, .ref z0], M199) _
      refine pl_call (a := [.ref z0, .int (nI (by2 f 8)), .int (sp_size n f )]) (rest := [.ref z0]) rfl rfl rfl (dx_pool h208 (by omega) (by2_lt _ _) (hn)) (fun v211 M212 q213 => ?_)
      obtain ⟨rfl, h214, h215, h216, h217, h218, h219, h220, f221, tp222⟩ := q213
      rw [tp210] at h214 h215 h216 h217 h218 h219 h220 tp222
      have h223 := (f221.1 r (by omega) (nin1 (show r ≠ z0 by omega))).trans h203
      have h224 := (f221.1 b (by omega) (nin1 (show b ≠ z0 by omega))).trans h204
      have h225 := (f221.1 da (by omega) (nin1 (show da ≠ z0 by omega))).trans h205
      have h226 := (f221.1 vd (by omega) (nin1 (show vd ≠ z0 by omega))).trans h206
      have h227 := (f221.1 c (by omega) (nin1 (show c ≠ z0 by omega))).trans h207
      have hF228 := hF209.tr f221 (by intro z hz; simp only [List.mem_cons, List.not_mem_nil, or_false] at hz ⊢; try omega)
      show pl _ _ _ (50, [(1, .int (nI 8)), (0, .ref r)], [.ref z0], M212) _
      refine ps_st (S' := (51, [(2, .ref z0), (1, .int (nI 8)), (0, .ref r)], [], M212)) rfl rfl rfl ?_
      refine ps_st (S' := (52, [(2, .ref z0), (1, .int (nI 8)), (0, .ref r)], [.ref r], M212)) rfl rfl rfl ?_
      refine ps_get (S' := (55, [(2, .ref z0), (1, .int (nI 8)), (0, .ref r)], [.ref c], M212)) rfl h223 rfl rfl ?_
      refine ps_st (S' := (56, [(2, .ref z0), (1, .int (nI 8)), (0, .ref r)], [.ref z0, .ref c], M212)) rfl rfl rfl ?_
      refine ps_put (l' := [.ref b, .ref z0, .int mi, .int (nI mj), .int fa, .int ic, u6, u7, .int ac, .int aa, .int k1, .int k2, .int k3, .int k4, .int k5, .int k6, .int k7]) rfl h227 rfl rfl (fun M229 h230 f231 z232 => ?_)
      have h233 := (f231 r (ob_ne h223 h227 (by decide))).trans h223
      have h234 := (f231 b (ob_ne h224 h227 (by decide))).trans h224
      have h235 := (f231 da (Ne.symm (ob_ar h227 h225))).trans h225
      have h236 := (f231 vd (ob_ne h226 h227 (by decide))).trans h226
      have h237 := (f231 z0 (show z0 ≠ c by omega)).trans h214
      have h238 := (f231 (z0 + 1) (show (z0 + 1) ≠ c by omega)).trans h215
      have h239 := (f231 (z0 + 2) (show (z0 + 2) ≠ c by omega)).trans h216
      have h240 := (f231 (z0 + 3) (show (z0 + 3) ≠ c by omega)).trans h217
      have h241 := (f231 (z0 + 4) (show (z0 + 4) ≠ c by omega)).trans h218
      have h242 := (f231 (z0 + 5) (show (z0 + 5) ≠ c by omega)).trans h219
      have h243 := (f231 (z0 + 6) (show (z0 + 6) ≠ c by omega)).trans h220
      have hF244 := hF228.up (Or.inl (by simp)) f231 (by rw [z232]; exact Nat.le_refl _)
      have tp245 : M229.2.1 = z0 + 7 := by rw [z232]; exact tp222
      show pl _ _ _ (59, [(2, .ref z0), (1, .int (nI 8)), (0, .ref r)], [], M229) _
      refine ps_st (S' := (60, [(2, .ref z0), (1, .int (nI 8)), (0, .ref r)], [.int 1], M229)) rfl rfl rfl ?_
      refine ps_st (S' := (61, [(0, .ref r), (2, .ref z0), (3, .int 1)], [], M229)) rfl rfl rfl ?_
      exact L61 kf (1) (10) (0) ([]) ((nI (by2 f 8))) (fun _ => 0) (fun _ => 0) (fun _ => 0) (fun _ => 0) (fun _ => 0) M229 h233 h234 h235 h236 h230 h237 h238 h239 h240 h241 h242 h243 hF244 (tp245) (by omega) (by omega) (by omega) (⟨fun q hq => by simp at hq, fun j hj => rfl⟩) (rfl) (rfl)
    · have c_19 : ¬ (¬ (nI (by2 f 8)) = 0) := of_decide_eq_false c_19
      have n_19 : by2 f 8 = 0 := (eq_nI (p := by2 f 8) (n := 0) (Nat.lt_trans (by2_lt _ _) (by decide)) (by decide)).mp (Decidable.not_not.mp c_19)
      refine ps_st (S' := (23, [(1, .int (nI 8)), (0, .ref r)], [.ref r], M177)) rfl rfl rfl ?_
      refine ps_get (S' := (26, [(1, .int (nI 8)), (0, .ref r)], [.ref vd], M177)) rfl h179 rfl rfl ?_
      refine ps_st (S' := (27, [(1, .int (nI 8)), (0, .ref r)], [.int 4, .ref vd], M177)) rfl rfl rfl ?_
      refine ps_st (S' := (28, [(1, .int (nI 8)), (0, .ref r)], [.int (nI 8), .int 4, .ref vd], M177)) rfl rfl rfl ?_
      refine pl_call (a := [.ref vd, .int 4, .int (nI 8)]) (rest := []) rfl rfl rfl (dx_wrong h180) (fun v246 M247 q248 => ?_)
      obtain ⟨rfl, h249, f250⟩ := q248
      have h252 := (f250.1 r (nin1 (ob_ne h179 h180 (by decide)))).trans h179
      have h253 := (f250.1 b (nin1 (ob_ne h183 h180 (by decide)))).trans h183
      have h254 := (f250.1 da (nin1 (Ne.symm (ob_ar h180 h184)))).trans h184
      have h255 := (f250.1 c (nin1 (ob_ne h185 h180 (by decide)))).trans h185
      have hF256 := hF186.trf f250 (by intro z hz; simp only [List.mem_cons, List.not_mem_nil, or_false] at hz ⊢; try omega)
      have tp257 : M247.2.1 = z0 := by rw [f250.2]; exact tp187
      show pl _ _ _ (31, [(1, .int (nI 8)), (0, .ref r)], [.int 0], M247) _
      exact ps_ret rfl rfl (Or.inr ⟨(4, 8), by
          unfold s_pool
          rw [if_neg (by omega), if_pos (by omega)], rfl, h249, hF256, hF256.2⟩)
  · skip
    obtain ⟨q7_no, rfl, h258, h259, f260⟩ := q178
    have h262 := (f260.1 b (nin2 (ob_ne h_b h_r (by decide)) (ob_ne h_b h_vd (by decide)))).trans h_b
    have h263 := (f260.1 da (nin2 (Ne.symm (ob_ar h_r h_da)) (Ne.symm (ob_ar h_vd h_da)))).trans h_da
    have h264 := (f260.1 c (nin2 (ob_ne h_c h_r (by decide)) (ob_ne h_c h_vd (by decide)))).trans h_c
    have hF265 := hF.trf f260 (by intro z hz; simp only [List.mem_cons, List.not_mem_nil, or_false] at hz ⊢; try omega)
    have tp266 : M177.2.1 = z0 := by rw [f260.2]; exact tp0
    show pl _ _ _ (10, [(1, .int (nI 8)), (0, .ref r)], [.int 0], M177) _
    refine ps_if (S1 := (15, [(1, .int (nI 8)), (0, .ref r)], [], M177)) (S2 := (13, [(1, .int (nI 8)), (0, .ref r)], [], M177)) rfl rfl rfl (fun c_10 => ?_) (fun c_10 => ?_)
    · exact absurd (of_decide_eq_true c_10) (by decide)
    refine ps_st (S' := (14, [(1, .int (nI 8)), (0, .ref r)], [.int 0], M177)) rfl rfl rfl ?_
    exact ps_ret rfl rfl (Or.inr ⟨(1, 8), by
        unfold s_pool
        rw [if_pos (by omega)], rfl, h259, hF265, hF265.2⟩)
end
section
/-! what a file's pool holds, as both sides see it (my own text) -/
section VWA
/-- the place of aN entry -/
def lk : List (Nat × Nat) → Nat → Option Nat
  | [], _ => none
  | q :: r, j => if q.1 = j then some q.2 else lk r j
theorem lk_in : ∀ {E : List (Nat × Nat)} {j p : Nat}, lk E j = some p → (j, p) ∈ E := by
  intro E
  induction E with
  | nil => intro j p h; cases h
  | cons q r ih =>
    intro j p h
    unfold lk at h
    split at h
    · rename_i h1
      cases h
      rw [← h1]
      exact List.mem_cons_self
    · exact List.mem_cons_of_mem _ (ih h)
theorem lk_no : ∀ {E : List (Nat × Nat)} {j : Nat}, lk E j = none → ∀ q ∈ E, ¬ q.1 = j := by
  intro E
  induction E with
  | nil => intro j h q hq; cases hq
  | cons q0 r ih =>
    intro j h q hq
    unfold lk at h
    split at h
    · cases h
    · rename_i h1
      rcases List.mem_cons.mp hq with rfl | hq
      · exact h1
      · exact ih h q hq
def tg (f : Nat → Int32) (E : List (Nat × Nat)) (j : Nat) : Nat := match lk E j with
  | some p => by1 f p
  | none => 0
def ixa (f : Nat → Int32) (p : Nat) : Nat := if by1 f p < 7 then 0 else if by1 f p = 15 then by1 f (p + 1) else by2 f (p + 1)
def ixb (f : Nat → Int32) (p : Nat) : Nat := if by1 f p < 7 then 0 else if by1 f p = 15 then by2 f (p + 2) else if by1 f p = 7 ∨ by1 f p = 8 ∨ by1 f p = 16 ∨ by1 f p = 19 ∨ by1 f p = 20 then 0 else by2 f (p + 3)
def fi (f : Nat → Int32) (E : List (Nat × Nat)) (j : Nat) : Nat := match lk E j with
  | some p => ixa f p
  | none => 0
def se (f : Nat → Int32) (E : List (Nat × Nat)) (j : Nat) : Nat := match lk E j with
  | some p => ixb f p
  | none => 0
def txo (s : (Nat × Nat) ⊕ List Nat) : List Nat := match s with
  | .inl _ => []
  | .inr l => l
def tX (f : Nat → Int32) (n : Nat) (E : List (Nat × Nat)) (j : Nat) : List Nat := match lk E j with
  | some p => if by1 f p = 1 then txo (s_utf f n (p + 1)) else []
  | none => []
theorem tg_lt (f : Nat → Int32) (E : List (Nat × Nat)) (j : Nat) : tg f E j < 256 := by
  unfold tg
  split
  · exact by1_lt _ _
  · omega
theorem fi_lt (f : Nat → Int32) (E : List (Nat × Nat)) (j : Nat) : fi f E j < 65536 := by
  unfold fi ixa
  split
  · rename_i p _
    have h1 := by1_lt f (p + 1)
    have h2 := by2_lt f (p + 1)
    repeat' split
    all_goals omega
  · omega
theorem se_lt (f : Nat → Int32) (E : List (Nat × Nat)) (j : Nat) : se f E j < 65536 := by
  unfold se ixb
  split
  · rename_i p _
    have h1 := by2_lt f (p + 2)
    have h2 := by2_lt f (p + 3)
    repeat' split
    all_goals omega
  · omega
theorem tx_no {f : Nat → Int32} {n : Nat} {E : List (Nat × Nat)} {j : Nat} (h : ¬ tg f E j = 1) : tX f n E j = [] := by
  unfold tg at h
  unfold tX
  split
  · rename_i p hp
    rw [hp] at h
    dsimp only at h
    rw [if_neg h]
  · rfl
theorem fi_no {f : Nat → Int32} {E : List (Nat × Nat)} {j : Nat} (h : tg f E j < 7) : fi f E j = 0 := by
  unfold tg at h
  unfold fi ixa
  split
  · rename_i p hp
    rw [hp] at h
    dsimp only at h
    rw [if_pos h]
  · rfl
theorem se_no {f : Nat → Int32} {E : List (Nat × Nat)} {j : Nat} (h : tg f E j < 7) : se f E j = 0 := by
  unfold tg at h
  unfold se ixb
  split
  · rename_i p hp
    rw [hp] at h
    dsimp only at h
    rw [if_pos h]
  · rfl
theorem s_text_ch {f : Nat → Int32} {e : Nat} : ∀ {r p : Nat} {l l' : List Nat}, (∀ c ∈ l, c < 65536) → s_text f e r p l = .inr l' → ∀ c ∈ l', c < 65536 := by
  intro r
  induction r with
  | zero => intro p l l' h hs; cases hs; exact h
  | succ r ih =>
    intro p l l' h hs
    unfold s_text at hs
    split at hs
    · cases hs; exact h
    · split at hs
      · cases hs
      · refine ih (fun c hc => ?_) hs
        rcases List.mem_append.mp hc with hc | hc
        · exact h c hc
        · have : c = u8n f p (u8k f e p) := by simpa using hc
          rw [this]
          exact (u8n_eq _ _ _).2
theorem s_text_len {f : Nat → Int32} {e : Nat} : ∀ {r p : Nat} {l l' : List Nat}, s_text f e r p l = .inr l' → l'.length ≤ l.length + r := by
  intro r
  induction r with
  | zero => intro p l l' hs; cases hs; omega
  | succ r ih =>
    intro p l l' hs
    unfold s_text at hs
    split at hs
    · cases hs; omega
    · split at hs
      · cases hs
      · have := ih hs
        simp only [List.length_append, List.length_cons, List.length_nil] at this
        omega
theorem s_utf_ch {f : Nat → Int32} {n p : Nat} : (∀ c ∈ txo (s_utf f n p), c < 65536) ∧ (txo (s_utf f n p)).length < 65536 := by
  unfold s_utf
  split
  · exact ⟨fun c hc => (by cases hc), by show 0 < 65536; decide⟩
  · split
    · exact ⟨fun c hc => (by cases hc), by show 0 < 65536; decide⟩
    · cases hs : s_text f (p + 2 + by2 f p) (by2 f p) (p + 2) [] with
      | inl w => exact ⟨fun c hc => (by cases hc), by simp [txo]⟩
      | inr l =>
        have h1 := s_text_ch (fun c hc => by cases hc) hs
        have h2 := s_text_len hs
        have h3 := by2_lt f p
        simp only [List.length_nil] at h2
        exact ⟨h1, by show l.length < 65536; omega⟩
theorem tx_len (f : Nat → Int32) (n : Nat) (E : List (Nat × Nat)) (j : Nat) : (tX f n E j).length < 65536 := by
  unfold tX
  split
  · split
    · exact s_utf_ch.2
    · simp
  · simp
theorem tx_ch (f : Nat → Int32) (n : Nat) (E : List (Nat × Nat)) (j i : Nat) : (tX f n E j).getD i 0 < 65536 := by
  have h : ∀ c ∈ tX f n E j, c < 65536 := by
    unfold tX
    split
    · split
      · exact s_utf_ch.1
      · intro c hc; cases hc
    · intro c hc; cases hc
  by_cases hi : i < (tX f n E j).length
  · rw [List.getD_eq_getElem?_getD, List.getElem?_eq_getElem hi, Option.getD_some]
    exact h _ (List.getElem_mem hi)
  · rw [List.getD_eq_getElem?_getD, List.getElem?_eq_none (by omega)]
    decide
/-- texts of literals -/
def ltx (k : Nat) : List Nat := (xe_lt k).2.2.2.map (fun c => c.toInt.toNat)
/-- literals of the class are where they were, each with a text equal to its own -/
def LT (g : xe_G) (M : mi_H) : Prop := ∀ k, k < 15 → g.2.1 k < M.2.1 ∧ ∃ (k' : Nat) (fl : Nat → Option Value), k' < 30 ∧ M.1 (g.2.1 k) = some (.inr (100 + k', fl)) ∧ (xe_lt k').2.2.2 = (xe_lt k).2.2.2
end VWA
section VWB
variable {T : Nat → Option (Nat × mi_B)} {tb : mi_B} {pc k : Nat} {lv : List (Nat × Value)} {st : List Value} {M : mi_H} {S' : mi_S} {Q : Option Value → mi_H → Prop}
theorem ps_reti {chk : Int32 → Bool} {x : Int32} (h1 : tb.1 pc = some (.inr (.inr (r_int chk)))) (hq : Q (some (.int x)) M) : pl T k tb (pc, lv, [.int x], M) Q := by
  refine pl_ret h1 (fun v hv => ?_)
  unfold r_int at hv
  dsimp only at hv
  split at hv
  · cases hv
    exact hq
  · cases hv
theorem ps_slen {a k' L : Nat} {fl : Nat → Option Value} (h1 : tb.1 pc = some (.inl o_slength)) (h : M.1 a = some (.inr (100 + k', fl))) (hL : (xe_lt k').2.2.2.length = L) (e1 : mi_nk tb.2 (pc + 3, lv, .int (nI L) :: st, M) = S') (kk : pl T k tb S' Q) : pl T k tb (pc, lv, .ref a :: st, M) Q := by
  subst e1
  refine pl_st h1 (fun S1 hS => ?_)
  unfold o_slength at hS
  simp only [h] at hS
  split at hS
  · cases hS
    rw [Nat.add_sub_cancel_left, hL]
    exact kk
  · cases hS
theorem xe_ch_all : ∀ k, k < 30 → ∀ j, j < (xe_lt k).2.2.2.length → xe_ch k j = nI ((ltx k).getD j 0) := by
  decide +kernel
theorem ps_schar {a k' k0 j : Nat} {fl : Nat → Option Value} (h1 : tb.1 pc = some (.inl o_scharAt)) (h : M.1 a = some (.inr (100 + k', fl))) (hk : k0 < 30 ∧ (xe_lt k').2.2.2 = (xe_lt k0).2.2.2) (hj : j < 1073741824) (e1 : mi_nk tb.2 (pc + 3, lv, .int (nI ((ltx k0).getD j 0)) :: st, M) = S') (kk : pl T k tb S' Q) : pl T k tb (pc, lv, .int (nI j) :: .ref a :: st, M) Q := by
  subst e1
  refine pl_st h1 (fun S1 hS => ?_)
  unfold o_scharAt at hS
  simp only [h] at hS
  split at hS
  · rename_i hc
    cases hS
    have e := hc.2.2.2.2
    rw [Nat.add_sub_cancel_left, nI_toNat hj] at e ⊢
    rw [hk.2] at e
    have e2 : xe_ch k' j = nI ((ltx k0).getD j 0) := by
      rw [← xe_ch_all k0 hk.1 j e]
      unfold xe_ch
      rw [hk.2]
    rw [e2]
    exact kk
  · cases hS
/-- rows of objects -/
def ro (C : String) (n : Nat) (G : Nat → Value) : mi_C := .inl (.object C, n, fun i => some (G i))
theorem ga_ro {a n : Nat} {C : String} {G : Nat → Value} (h : M.1 a = some (ro C n G)) : mi_ga M a (.object C) = some (n, fun i => some (G i)) := by
  unfold mi_ga
  rw [h]
  simp [ro]
theorem ps_aald {C : String} {a n j : Nat} {G : Nat → Value} {v : Value} (h1 : tb.1 pc = some (.inl (o_ald (.object C)))) (h : M.1 a = some (ro C n G)) (hv : j < 1073741824 ∧ G j = v) (e1 : mi_nk tb.2 (pc + 1, lv, v :: st, M) = S') (kk : pl T k tb S' Q) : pl T k tb (pc, lv, .int (nI j) :: .ref a :: st, M) Q := by
  subst e1
  refine pl_st h1 (fun S1 hS => ?_)
  unfold o_ald at hS
  simp only [ga_ro h] at hS
  split at hS
  · cases hS
  · cases hS
    rw [nI_toNat hv.1, hv.2]
    exact kk
theorem ps_aalen {C : String} {a n : Nat} {G : Nat → Value} (h1 : tb.1 pc = some (.inl (o_alen (.object C)))) (h : M.1 a = some (ro C n G)) (e1 : mi_nk tb.2 (pc + 1, lv, .int (nI n) :: st, M) = S') (kk : pl T k tb S' Q) : pl T k tb (pc, lv, .ref a :: st, M) Q := by
  subst e1
  exact pl_is h1 (S' := (pc + 1, lv, .int (nI n) :: st, M)) (by simp only [o_alen, ga_ro h]; rfl) kk
theorem ps_anew {C : String} {n : Int32} {z : Nat} (h1 : tb.1 pc = some (.inl (o_anew C))) (hz : M.2.1 = z) (kk : ∀ M2 : mi_H, ¬ n < 0 → M2.1 z = some (ro C n.toNatClampNeg (fun _ => .null)) → (∀ y, y ≠ z → M2.1 y = M.1 y) → M2.2.1 = z + 1 → pl T k tb (mi_nk tb.2 (pc + 3, lv, .ref z :: st, M2)) Q) : pl T k tb (pc, lv, .int n :: st, M) Q := by
  subst hz
  refine pl_st h1 (fun S1 hS => ?_)
  unfold o_anew at hS
  dsimp only at hS
  split at hS
  · cases hS
  · rename_i hin
    cases hS
    exact kk _ (fun h9 => hin (Or.inl h9)) (by simp [va_up, ro]) (fun y hy => by simp [va_up, hy]) rfl
def upv (G : Nat → Value) (i : Nat) (v : Value) : Nat → Value := fun j => if j = i then v else G j
theorem ps_aast {C : String} {a n b j : Nat} {G : Nat → Value} (h1 : tb.1 pc = some (.inl (o_aast C))) (h : M.1 a = some (ro C n G)) (hj : j < 1073741824)
    (kk : ∀ M2 : mi_H, j < n → M2.1 a = some (ro C n (upv G j (.ref b))) → (∀ z, z ≠ a → M2.1 z = M.1 z) → M2.2 = M.2 → pl T k tb (mi_nk tb.2 (pc + 1, lv, st, M2)) Q) : pl T k tb (pc, lv, .ref b :: .int (nI j) :: .ref a :: st, M) Q := by
  refine pl_st h1 (fun S1 hS => ?_)
  unfold o_aast at hS
  simp only [ga_ro h] at hS
  split at hS
  · cases hS
  · rename_i hin
    split at hS
    · cases hS
      rw [nI_toNat hj] at hin ⊢
      refine kk _ (Nat.not_le.mp (fun h9 => hin (Or.inr h9))) ?_ (fun z hz => by simp [va_up, hz]) rfl
      have e : va_up (fun i => some (G i)) j (some (Value.ref b)) = fun i => some (upv G j (.ref b) i) := by
        funext i
        unfold va_up upv
        split <;> rfl
      simp only [va_up, if_true, ro]
      rw [← e]
    · cases hS
/-- numbers -/
def aN (x m : Nat) : Nat := x &&& m
theorem nI_an {p k : Nat} {x : Int32} (hx : x = nI k) : nI p &&& x = nI (aN p k) := by
  subst hx
  apply Int32.toBitVec_inj.mp
  apply BitVec.eq_of_toNat_eq
  rw [Int32.toBitVec_and, BitVec.toNat_and, nI_bv, nI_bv, nI_bv]
  simp only [BitVec.toNat_ofNat, aN]
  rw [Nat.and_mod_two_pow]
theorem an_le (x m : Nat) : aN x m ≤ m := Nat.and_le_right
theorem nI_mul1 {p k : Nat} {x y : Int32} (hx : x = nI p) (hy : y = nI k) (h : p * k < 1073741824) : x * y = nI (p * k) := by
  subst hx
  subst hy
  apply Int32.toBitVec_inj.mp
  apply BitVec.eq_of_toNat_eq
  rw [Int32.toBitVec_mul, BitVec.toNat_mul, nI_bv, nI_bv, nI_bv]
  simp only [BitVec.toNat_ofNat]
  rw [← Nat.mul_mod]
theorem nI_sub1 {p k : Nat} {x : Int32} (hx : x = nI k) (h : k ≤ p) (hp : p < 1073741824) : nI p - x = nI (p - k) := by
  subst hx
  apply Int32.toInt_inj.mp
  rw [nI_val (by omega), nI_sub (nI_val (by omega)) (by omega) hp]
  omega
theorem nI_add2 {p k : Nat} {x y : Int32} (hx : x = nI p) (hy : y = nI k) (h : p + k < 1073741824) : x + y = nI (p + k) := by
  subst hx
  exact nI_add1 hy h
theorem m1_ne {x : Nat} (h : x < 1073741824) : ¬ (-1 : Int32) = nI x := fun e => by
  have e2 := congrArg Int32.toInt e
  rw [nI_val h] at e2
  have e3 : (-1 : Int32).toInt = -1 := rfl
  omega
/-- cells that are none of a view's -/
def n7 (S : List Nat) (M : mi_H) : Prop := ∀ a ∈ S, ∃ ci l, M.1 a = some (ob ci l) ∧ ¬ ci = 7 ∧ ci < 100
theorem n7nil : n7 [] M := fun a ha => by cases ha
theorem n7c {S : List Nat} {a ci : Nat} {l : List Value} (h : M.1 a = some (ob ci l)) (hc : ¬ ci = 7 ∧ ci < 100) (hs : n7 S M) : n7 (a :: S) M := fun b hb => by
  rcases List.mem_cons.mp hb with rfl | hb
  · exact ⟨ci, l, h, hc⟩
  · exact hs b hb
/-- the shape of a text as the class notes it -/
def shI (x : Nat) : Int32 := if x = 0 then -1 else nI x
end VWB
section VWC
theorem sub_v {e p : Nat} (he : e < 1000000) (hp : p < 1000000) : (nI e - nI p).toInt = (e : Int) - p := nI_sub (nI_val (by omega)) (by omega) (by omega)
theorem sub_v2 {e p p2 : Nat} (he : e < 1000000) (hp : p + p2 < 1000000) : (nI e - nI p - nI p2).toInt = (e : Int) - (p + p2 : Nat) := by
  have h1 := sub_v (e := e) (p := p) he (by omega)
  have h2 : (nI p2).toInt = p2 := nI_val (by omega)
  rw [Int32.toInt_sub, h1, h2]
  rw [Int.bmod_eq_of_le (by omega) (by omega)]
  omega
theorem sub_lt1 {e p k : Nat} (he : e < 1000000) (hp : p < 1000000) (hk : k < 1000000) : nI e - nI p < nI k ↔ e < p + k := by
  rw [Int32.lt_iff_toInt_lt, sub_v he hp, nI_val (by omega)]
  omega
theorem lt_sub1 {e p k : Nat} (he : e < 1000000) (hp : p < 1000000) (hk : k < 2147483648) : nI k < nI e - nI p ↔ k + p < e := by
  rw [Int32.lt_iff_toInt_lt, sub_v he hp, nI_val31 hk]
  omega
theorem le_sub1 {e p k : Nat} (he : e < 1000000) (hp : p < 1000000) (hk : k < 2147483648) : nI k ≤ nI e - nI p ↔ k + p ≤ e := by
  rw [Int32.le_iff_toInt_le, sub_v he hp, nI_val31 hk]
  omega
theorem le_sub2 {e p p2 k : Nat} (he : e < 1000000) (hp : p + p2 < 1000000) (hk : k < 2147483648) : nI k ≤ nI e - nI p - nI p2 ↔ k + (p + p2) ≤ e := by
  rw [Int32.le_iff_toInt_le, sub_v2 he hp, nI_val31 hk]
  omega
end VWC
end
section
/-! texts: names, types, descriptors (my own text) -/
section TXA
/-- where a class's name ends that begins at p0 (r: characters left, i: place, p: begin of the part) -/
def s_nm (c : Nat → Nat) : Nat → Nat → Nat → Option Nat
  | 0, i, p => if p < i then some i else none
  | r + 1, i, p => if c i = 59 then (if p < i then some i else none) else if c i = 46 ∨ c i = 91 ∨ (c i = 47 ∧ i = p) then none else s_nm c r (i + 1) (if c i = 47 then i + 1 else p)
def s_br (c : Nat → Nat) : Nat → Nat → Nat
  | 0, i => i
  | r + 1, i => if c i = 91 then s_br c r (i + 1) else i
theorem s_nm_le {c : Nat → Nat} : ∀ {r i p x : Nat}, s_nm c r i p = some x → i ≤ x ∧ x ≤ i + r := by
  intro r
  induction r with
  | zero =>
    intro i p x h
    unfold s_nm at h
    split at h
    · cases h; omega
    · cases h
  | succ r ih =>
    intro i p x h
    unfold s_nm at h
    split at h
    · split at h
      · cases h; omega
      · cases h
    · split at h
      · cases h
      · have := ih h
        omega
theorem s_br_le {c : Nat → Nat} : ∀ {r i : Nat}, i ≤ s_br c r i ∧ s_br c r i ≤ i + r := by
  intro r
  induction r with
  | zero => intro i; exact ⟨Nat.le_refl _, Nat.le_refl _⟩
  | succ r ih =>
    intro i
    unfold s_br
    split
    · have := ih (i := i + 1)
      omega
    · omega
/-- where the type ends that begins at i -/
def s_ty (c : Nat → Nat) (e i : Nat) : Option Nat :=
  if e ≤ s_br c (e - i) i ∨ 255 < s_br c (e - i) i - i then none else
  if c (s_br c (e - i) i) = 66 ∨ c (s_br c (e - i) i) = 67 ∨ c (s_br c (e - i) i) = 68 ∨ c (s_br c (e - i) i) = 70 ∨ c (s_br c (e - i) i) = 73 ∨ c (s_br c (e - i) i) = 74 ∨ c (s_br c (e - i) i) = 83 ∨ c (s_br c (e - i) i) = 90 then some (s_br c (e - i) i + 1) else
  if c (s_br c (e - i) i) = 76 then (match s_nm c (e - (s_br c (e - i) i + 1)) (s_br c (e - i) i + 1) (s_br c (e - i) i + 1) with
    | none => none
    | some x => if x < e then some (x + 1) else none) else none
theorem s_ty_le {c : Nat → Nat} {e i x : Nat} (h : s_ty c e i = some x) : i < x ∧ x ≤ e := by
  unfold s_ty at h
  have h1 := s_br_le (c := c) (r := e - i) (i := i)
  split at h
  · cases h
  · split at h
    · cases h
      omega
    · split at h
      · split at h
        · cases h
        · rename_i y hy
          have := s_nm_le hy
          split at h
          · cases h
            omega
          · cases h
      · cases h
def pW (x : Nat) : Nat := if x = 74 ∨ x = 68 then 2 else 1
theorem pW_le (x : Nat) : pW x ≤ 2 := by unfold pW; split <;> omega
/-- arguments from i on, w places so far (r: no fewer than the characters left) -/
def s_ar (c : Nat → Nat) (e : Nat) : Nat → Nat → Nat → Option (Nat × Nat)
  | 0, i, w => some (i, w)
  | r + 1, i, w => if w ≤ 255 ∧ i < e ∧ ¬ c i = 41 then (match s_ty c e i with
    | none => none
    | some i' => s_ar c e r i' (w + pW (c i))) else some (i, w)
theorem s_ar_0 {c : Nat → Nat} {e r i w : Nat} (h : ¬ (w ≤ 255 ∧ i < e ∧ ¬ c i = 41)) : s_ar c e r i w = some (i, w) := by
  cases r with
  | zero => rfl
  | succ r => unfold s_ar; rw [if_neg h]
theorem s_ar_fuel {c : Nat → Nat} {e : Nat} : ∀ {r r' i w : Nat}, e - i ≤ r → e - i ≤ r' → s_ar c e r i w = s_ar c e r' i w := by
  intro r
  induction r with
  | zero => intro r' i w h h'; rw [s_ar_0 (by omega), s_ar_0 (by omega)]
  | succ r ih =>
    intro r' i w h h'
    by_cases h1 : w ≤ 255 ∧ i < e ∧ ¬ c i = 41
    · cases r' with
      | zero => omega
      | succ r' =>
        unfold s_ar
        rw [if_pos h1, if_pos h1]
        cases ht : s_ty c e i with
        | none => rfl
        | some x =>
          have := s_ty_le ht
          exact ih (by omega) (by omega)
    · rw [s_ar_0 h1, s_ar_0 h1]
theorem s_ar_step {c : Nat → Nat} {e i w x : Nat} (h : w ≤ 255 ∧ i < e ∧ ¬ c i = 41) (ht : s_ty c e i = some x) : s_ar c e (e - i) i w = s_ar c e (e - x) x (w + pW (c i)) := by
  have := s_ty_le ht
  rw [show e - i = (e - i - 1) + 1 by omega]
  conv => lhs; unfold s_ar
  rw [if_pos h, ht]
  exact s_ar_fuel (by omega) (by omega)
theorem s_ar_bad {c : Nat → Nat} {e i w : Nat} (h : w ≤ 255 ∧ i < e ∧ ¬ c i = 41) (ht : s_ty c e i = none) : s_ar c e (e - i) i w = none := by
  rw [show e - i = (e - i - 1) + 1 by omega]
  unfold s_ar
  rw [if_pos h, ht]
/-- a method's descriptor behind its '(': its shape, 0 if it is none -/
def s_ms (c : Nat → Nat) (e i : Nat) : Nat := match s_ar c e (e - i) i 0 with
  | none => 0
  | some (k, w) => if e ≤ k + 1 ∨ 255 < w then 0 else if c (k + 1) = 86 ∧ k + 2 = e then 4096 + w else if s_ty c e (k + 1) = some e then 4096 + 1024 * pW (c (k + 1)) + w else 0
def s_sh (c : Nat → Nat) (e : Nat) : Nat := if e = 0 then 0 else if c 0 = 40 then s_ms c e 1 else if s_ty c e 0 = some e then pW (c 0) else 0
/-- a text's shape: 0 none, below 4096 a field's, from 4096 on a method's -/
def shN (l : List Nat) : Nat := s_sh (fun i => l.getD i 0) l.length
def angN (l : List Nat) : Nat := if 60 ∈ l ∨ 62 ∈ l then 1 else 0
def unqN (l : List Nat) : Nat := if l = [] ∨ 46 ∈ l ∨ 59 ∈ l ∨ 91 ∈ l ∨ 47 ∈ l then 0 else 1
/-- a text can be that of a Class entry -/
def clsN (l : List Nat) : Nat := if l.getD 0 0 = 91 then (if 0 < shN l ∧ shN l < 4096 then 1 else 0) else if s_nm (fun i => l.getD i 0) l.length 0 0 = some l.length then 1 else 0
end TXA
section TXB
variable {M : mi_H}
/-- the class's pool, as it was read and described: its rows -/
def VF (f : Nat → Int32) (n : Nat) (E : List (Nat × Nat)) (H m : Nat) (F : Nat → Nat → Int32) : Prop :=
  (∀ j, F 1 j = nI (tg f E j)) ∧ (∀ j, H ≤ j → tg f E j = 0) ∧ (∀ j p, lk E j = some p → F 2 j = nI p) ∧
  (∀ j, 7 ≤ tg f E j → F 3 j = nI (fi f E j) ∧ F 4 j = nI (se f E j)) ∧
  (∀ j, tg f E j = 1 → ∃ c, F 3 j = nI c ∧ F 4 j = nI (tX f n E j).length ∧ c + (tX f n E j).length ≤ m ∧ ∀ i, i < (tX f n E j).length → F 6 (c + i) = nI ((tX f n E j).getD i 0))
def VS (f : Nat → Int32) (n : Nat) (E : List (Nat × Nat)) (F : Nat → Nat → Int32) : Prop := ∀ j, tg f E j = 1 → F 5 j = shI (shN (tX f n E j))
def PV (g : xe_G) (f : Nat → Int32) (n N : Nat) (E : List (Nat × Nat)) (q : Nat) (M : mi_H) : Prop :=
  LT g M ∧ ∃ (H m : Nat) (qq : Nat → Nat) (F : Nat → Nat → Int32) (cc : Int32), PL M q (nI N) H m qq F cc ∧ txt H m F cc ∧ (q < M.2.1 ∧ ∀ i, 1 ≤ i → i ≤ 6 → qq i < M.2.1) ∧ (H ≤ 65536 ∧ m ≤ 65540 ∧ N < 65536 ∧ cc = nI (chL f n E)) ∧ VF f n E H m F ∧ VS f n E F
theorem LT.move {g : xe_G} {M' : mi_H} (h : LT g M) (hz : M.2.1 ≤ M'.2.1) (hm : ∀ z o, z < M.2.1 → M.1 z = some (.inr o) → 100 ≤ o.1 → M'.1 z = M.1 z) : LT g M' := by
  intro k hk
  obtain ⟨h1, k', fl, h2, h3, h4⟩ := h k hk
  exact ⟨by omega, k', fl, h2, (hm _ _ h1 h3 (by show 100 ≤ 100 + k'; omega)).trans h3, h4⟩
theorem PV.move {g : xe_G} {f : Nat → Int32} {n N q : Nat} {E : List (Nat × Nat)} {M' : mi_H} (h : PV g f n N E q M) (hz : M.2.1 ≤ M'.2.1) (hm : ∀ z, z < M.2.1 → (∀ ci l, M.1 z = some (ob ci l) → ci = 7 ∨ 100 ≤ ci) → (∀ o, M.1 z = some (.inr o) → o.1 = 7 ∨ 100 ≤ o.1) → M'.1 z = M.1 z) : PV g f n N E q M' := by
  obtain ⟨hL, H, m, qq, F, cc, ⟨a0, a1, a6⟩, hT, ⟨b0, b1⟩, h3⟩ := h
  have ha : ∀ {z n : Nat} {ty : FieldType} {F : Nat → Int32}, z < M.2.1 → M.1 z = some (ar ty n F) → M'.1 z = some (ar ty n F) := fun hl hc => (hm _ hl (fun ci l h9 => by rw [hc] at h9; cases h9) (fun o h9 => by rw [hc] at h9; cases h9)).trans hc
  have h7 : M'.1 q = M.1 q := hm q b0 (fun ci l h9 => by rw [a0] at h9; simp only [ob, Option.some.injEq, Sum.inr.injEq, Prod.mk.injEq] at h9; exact Or.inl h9.1.symm) (fun o h9 => by rw [a0] at h9; cases h9; exact Or.inl rfl)
  exact ⟨hL.move hz (fun z o hl hc ho => hm z hl (fun ci l h9 => by rw [hc] at h9; cases h9; exact Or.inr ho) (fun o' h9 => by rw [hc] at h9; cases h9; exact Or.inr ho)), H, m, qq, F, cc, ⟨h7.trans a0, fun i h1 h2 => ha (b1 i h1 (by omega)) (a1 i h1 h2), ha (b1 6 (by decide) (by decide)) a6⟩, hT, ⟨by omega, fun i h1 h2 => Nat.lt_of_lt_of_le (b1 i h1 h2) hz⟩, h3⟩
theorem PV.keep {g : xe_G} {f : Nat → Int32} {n N q : Nat} {E : List (Nat × Nat)} {M' : mi_H} {S : List Nat} (h : PV g f n N E q M) (hf : gm S M M') (hs : n7 S M) : PV g f n N E q M' :=
  h.move hf.2 (fun z hl h1 _ => hf.1 z hl (fun hz => by
    obtain ⟨ci, l, e, h2⟩ := hs z hz
    rcases h1 ci l e with h3 | h3 <;> omega))
theorem PV.put {g : xe_G} {f : Nat → Int32} {n N q a ci : Nat} {l : List Value} {E : List (Nat × Nat)} {M' : mi_H} (h : PV g f n N E q M) (ha : M.1 a = some (ob ci l)) (hc : ¬ ci = 7 ∧ ci < 100) (hf : ∀ z, z ≠ a → M'.1 z = M.1 z) (hz : M'.2 = M.2) : PV g f n N E q M' :=
  h.move (by rw [hz]; exact Nat.le_refl _) (fun z hl h1 _ => hf z (fun e => by
    subst e
    rcases h1 ci l ha with h3 | h3 <;> omega))
theorem PV.new {g : xe_G} {f : Nat → Int32} {n N q a : Nat} {E : List (Nat × Nat)} {M' : mi_H} (h : PV g f n N E q M) (ht : M.2.1 = a) (hf : ∀ z, z ≠ a → M'.1 z = M.1 z) (hz : M'.2.1 = a + 1) : PV g f n N E q M' :=
  h.move (by omega) (fun z hl _ _ => hf z (by omega))
theorem nI_rem {a k : Nat} {x : Int32} (hx : x.toInt = k) (hx2 : x = nI k) (hk : 0 < k) (ha : a < 1073741824) : nI a - nI a / x * x = nI (a % k) := by
  rw [ndiv_nI hx hk ha, hx2, nI_mul1 rfl rfl (Nat.lt_of_le_of_lt (Nat.div_mul_le_self a k) ha), nI_sub1 rfl (Nat.div_mul_le_self a k) ha]
  congr 1
  have := Nat.mod_add_div a k
  rw [Nat.mul_comm] at this
  omega
variable {f : Nat → Int32} {n H m j : Nat} {E : List (Nat × Nat)} {F : Nat → Nat → Int32}
theorem VF.tagOf (h : VF f n E H m F) (hH : H ≤ 65536) (hj : j < 65536) : sp_tagOf H m F (nI j) = nI (tg f E j) := by
  unfold sp_tagOf
  rw [if_neg (nI_n0 (by omega))]
  by_cases h1 : j < H
  · rw [if_pos ((lt_nI (by omega) (by omega)).mpr h1), nI_toNat (by omega), h.1]
  · rw [if_neg (fun h9 => h1 ((lt_nI (by omega) (by omega)).mp h9)), h.2.1 j (by omega)]
    rfl
theorem VF.tagPlace {p : Nat} (h : VF f n E H m F) (hH : H ≤ 65536) (hj : j < 65536) (hp : lk E j = some p) (ht : ¬ tg f E j = 0) : sp_tagPlace H m F (nI j) = nI p := by
  unfold sp_tagPlace
  have h1 : j < H := Nat.not_le.mp (fun h9 => ht (h.2.1 j h9))
  rw [if_neg (nI_n0 (by omega)), if_pos ((lt_nI (by omega) (by omega)).mpr h1), nI_toNat (by omega), h.2.2.1 j p hp]
theorem VF.firstIndex (h : VF f n E H m F) (hH : H ≤ 65536) (hj : j < 65536) : sp_firstIndex H m F (nI j) = nI (fi f E j) := by
  unfold sp_firstIndex
  have ht := tg_lt f E j
  rw [if_neg (nI_n0 (by omega))]
  by_cases h1 : H ≤ j
  · rw [if_pos ((le_nI (by omega) (by omega)).mpr h1), fi_no (by rw [h.2.1 j h1]; decide)]
    rfl
  · rw [if_neg (fun h9 => h1 ((le_nI (by omega) (by omega)).mp h9)), nI_toNat (by omega), h.1]
    by_cases h2 : 7 ≤ tg f E j
    · rw [if_pos (show (7 : Int32) ≤ nI (tg f E j) from (le_nI (p := 7) (by decide) (by omega)).mpr h2), (h.2.2.2.1 j h2).1]
    · rw [if_neg (show ¬ (7 : Int32) ≤ nI (tg f E j) from fun h9 => h2 ((le_nI (p := 7) (by decide) (by omega)).mp h9)), fi_no (by omega)]
      rfl
theorem VF.secondIndex (h : VF f n E H m F) (hH : H ≤ 65536) (hj : j < 65536) : sp_secondIndex H m F (nI j) = nI (se f E j) := by
  unfold sp_secondIndex
  have ht := tg_lt f E j
  rw [if_neg (nI_n0 (by omega))]
  by_cases h1 : H ≤ j
  · rw [if_pos ((le_nI (by omega) (by omega)).mpr h1), se_no (by rw [h.2.1 j h1]; decide)]
    rfl
  · rw [if_neg (fun h9 => h1 ((le_nI (by omega) (by omega)).mp h9)), nI_toNat (by omega), h.1]
    by_cases h2 : 7 ≤ tg f E j
    · rw [if_pos (show (7 : Int32) ≤ nI (tg f E j) from (le_nI (p := 7) (by decide) (by omega)).mpr h2), (h.2.2.2.1 j h2).2]
    · rw [if_neg (show ¬ (7 : Int32) ≤ nI (tg f E j) from fun h9 => h2 ((le_nI (p := 7) (by decide) (by omega)).mp h9)), se_no (by omega)]
      rfl
theorem tg1 (f : Nat → Int32) (E : List (Nat × Nat)) (j k : Nat) (hk : k < 1000) : nI (tg f E j) = nI k ↔ tg f E j = k := eq_nI (Nat.lt_trans (tg_lt f E j) (by decide)) (by omega)
theorem tgp {f : Nat → Int32} {E : List (Nat × Nat)} {j : Nat} (k : Nat) {x : Int32} {A B : Int32} (hx : x = nI k) (hk : k < 1000) (h : tg f E j = k) : (if ¬ nI (tg f E j) = x then A else B) = B := by
  subst hx
  rw [if_neg (fun h9 => h9 ((tg1 f E j k hk).mpr h))]
theorem tgn {f : Nat → Int32} {E : List (Nat × Nat)} {j : Nat} (k : Nat) {x : Int32} {A B : Int32} (hx : x = nI k) (hk : k < 1000) (h : ¬ tg f E j = k) : (if ¬ nI (tg f E j) = x then A else B) = A := by
  subst hx
  rw [if_pos (show ¬ nI (tg f E j) = nI k from fun h9 => h ((tg1 f E j k hk).mp h9))]
theorem VF.textLength (h : VF f n E H m F) (hH : H ≤ 65536) (hj : j < 65536) : sp_textLength H m F (nI j) = nI (tX f n E j).length := by
  unfold sp_textLength
  rw [h.tagOf hH hj]
  by_cases h1 : tg f E j = 1
  · obtain ⟨c, a1, a2, -⟩ := h.2.2.2.2 j h1
    rw [tgp (x := 1) 1 rfl (by decide) h1, nI_toNat (by omega), a2]
  · rw [tgn (x := 1) 1 rfl (by decide) h1, tx_no h1]
    rfl
theorem VF.characterAt {i : Nat} (h : VF f n E H m F) (hH : H ≤ 65536) (hm : m ≤ 65540) (hj : j < 65536) (hi : i < 1000000) : sp_characterAt H m F (nI j) (nI i) = if i < (tX f n E j).length then nI ((tX f n E j).getD i 0) else -1 := by
  unfold sp_characterAt
  rw [h.tagOf hH hj]
  have hl := tx_len f n E j
  by_cases h1 : tg f E j = 1
  · obtain ⟨c, a1, a2, a3, a4⟩ := h.2.2.2.2 j h1
    rw [tgp (x := 1) 1 rfl (by decide) h1, if_neg (nI_n0 (by omega)), nI_toNat (by omega), a2, a1]
    by_cases h2 : i < (tX f n E j).length
    · rw [if_pos ((lt_nI (by omega) (by omega)).mpr h2), if_pos h2, nI_add1 rfl (by omega), nI_toNat (by omega), a4 i h2]
    · rw [if_neg (fun h9 => h2 ((lt_nI (by omega) (by omega)).mp h9)), if_neg h2]
  · rw [tgn (x := 1) 1 rfl (by decide) h1, tx_no h1, if_neg (by simp)]
theorem shN_lt (l : List Nat) : shN l < 7000 := by
  unfold shN s_sh s_ms pW
  repeat' split
  all_goals omega
theorem VF.isField (h : VF f n E H m F) (hs : VS f n E F) (hH : H ≤ 65536) (hj : j < 65536) : (0 < shN (tX f n E j) ∧ shN (tX f n E j) < 4096 ∧ sp_isFieldDescriptor H m F (nI j) = 1) ∨ (¬ (0 < shN (tX f n E j) ∧ shN (tX f n E j) < 4096) ∧ sp_isFieldDescriptor H m F (nI j) = 0) := by
  unfold sp_isFieldDescriptor
  rw [h.tagOf hH hj, nI_toNat (by omega)]
  have hl := shN_lt (tX f n E j)
  by_cases h1 : tg f E j = 1
  · rw [tgp (x := 1) 1 rfl (by decide) h1, hs j h1]
    unfold shI
    by_cases h2 : shN (tX f n E j) = 0
    · rw [if_pos h2]
      exact Or.inr ⟨by omega, by decide⟩
    · rw [if_neg h2, if_neg (show ¬ nI (shN (tX f n E j)) ≤ 0 from fun h9 => h2 (by have := (le_nI (n := 0) (by omega) (by decide)).mp h9; omega))]
      by_cases h3 : shN (tX f n E j) < 4096
      · exact Or.inl ⟨by omega, h3, by rw [if_neg (show ¬ (4096 : Int32) ≤ nI (shN (tX f n E j)) from fun h9 => absurd ((le_nI (p := 4096) (by decide) (by omega)).mp h9) (by omega))]⟩
      · exact Or.inr ⟨by omega, by rw [if_pos (show (4096 : Int32) ≤ nI (shN (tX f n E j)) from (le_nI (p := 4096) (by decide) (by omega)).mpr (by omega))]⟩
  · rw [tgn (x := 1) 1 rfl (by decide) h1, tx_no h1]
    exact Or.inr ⟨by decide, rfl⟩
theorem VF.isMeth (h : VF f n E H m F) (hs : VS f n E F) (hH : H ≤ 65536) (hj : j < 65536) : (4096 ≤ shN (tX f n E j) ∧ sp_isMethodDescriptor H m F (nI j) = 1 ∧ F 5 j = nI (shN (tX f n E j))) ∨ (¬ 4096 ≤ shN (tX f n E j) ∧ sp_isMethodDescriptor H m F (nI j) = 0) := by
  unfold sp_isMethodDescriptor
  rw [h.tagOf hH hj, nI_toNat (by omega)]
  have hl := shN_lt (tX f n E j)
  by_cases h1 : tg f E j = 1
  · rw [tgp (x := 1) 1 rfl (by decide) h1, hs j h1]
    unfold shI
    by_cases h2 : shN (tX f n E j) = 0
    · rw [if_pos h2]
      exact Or.inr ⟨by omega, by decide⟩
    · rw [if_neg h2]
      by_cases h3 : 4096 ≤ shN (tX f n E j)
      · exact Or.inl ⟨h3, by rw [if_neg (show ¬ nI (shN (tX f n E j)) < 4096 from fun h9 => absurd ((lt_nI (n := 4096) (by omega) (by decide)).mp h9) (by omega))], rfl⟩
      · exact Or.inr ⟨h3, by rw [if_pos (show nI (shN (tX f n E j)) < 4096 from (lt_nI (n := 4096) (by omega) (by decide)).mpr (by omega))]⟩
  · rw [tgn (x := 1) 1 rfl (by decide) h1, tx_no h1]
    exact Or.inr ⟨by decide, rfl⟩
/-- places of a method's arguments -/
def argN (l : List Nat) : Nat := if 4096 ≤ shN l then shN l % 1024 else 0
def nresN (l : List Nat) : Nat := if 4096 ≤ shN l ∧ shN l < 5120 then 1 else 0
theorem argN_lt (l : List Nat) : argN l < 1024 := by
  unfold argN
  split <;> omega
theorem VF.argPl (h : VF f n E H m F) (hs : VS f n E F) (hH : H ≤ 65536) (hj : j < 65536) : sp_argumentPlaces H m F (nI j) = nI (argN (tX f n E j)) := by
  unfold sp_argumentPlaces argN
  have hl := shN_lt (tX f n E j)
  rcases h.isMeth hs hH hj with ⟨h1, h2, h3⟩ | ⟨h1, h2⟩
  · rw [h2, if_neg (show ¬ (1 : Int32) = 0 by decide), if_pos h1, nI_toNat (by omega), h3, nI_rem (a := shN (tX f n E j)) (x := 1024) (k := 1024) rfl rfl (by decide) (by omega)]
  · rw [h2, if_pos rfl, if_neg h1]
    rfl
theorem VF.noRes (h : VF f n E H m F) (hs : VS f n E F) (hH : H ≤ 65536) (hj : j < 65536) : sp_hasNoResult H m F (nI j) = nI (nresN (tX f n E j)) := by
  unfold sp_hasNoResult nresN
  have hl := shN_lt (tX f n E j)
  rcases h.isMeth hs hH hj with ⟨h1, h2, h3⟩ | ⟨h1, h2⟩
  · rw [h2, if_neg (show ¬ (1 : Int32) = 0 by decide), nI_toNat (by omega), h3, nI_sub1 (x := 4096) (k := 4096) rfl h1 (by omega)]
    by_cases h4 : shN (tX f n E j) < 5120
    · rw [if_neg (show ¬ (1024 : Int32) ≤ nI (shN (tX f n E j) - 4096) from fun h9 => absurd ((le_nI (p := 1024) (by decide) (by omega)).mp h9) (by omega)), if_pos ⟨h1, h4⟩]
      rfl
    · rw [if_pos (show (1024 : Int32) ≤ nI (shN (tX f n E j) - 4096) from (le_nI (p := 1024) (by decide) (by omega)).mpr (by omega)), if_neg (by omega)]
      rfl
  · rw [h2, if_pos rfl, if_neg (by omega)]
    rfl
/-- a Class entry, and no array's -/
def plnN (f : Nat → Int32) (n : Nat) (E : List (Nat × Nat)) (j : Nat) : Nat := if tg f E j = 7 ∧ ¬ (tX f n E (fi f E j)).getD 0 0 = 91 then 1 else 0
theorem VF.plain (h : VF f n E H m F) (hH : H ≤ 65536) (hm : m ≤ 65540) (hj : j < 65536) : sp_isPlainClass H m F (nI j) = nI (plnN f n E j) := by
  unfold sp_isPlainClass plnN
  rw [h.tagOf hH hj]
  by_cases h1 : tg f E j = 7
  · have h3 := tx_ch f n E (fi f E j) 0
    rw [tgp (x := 7) 7 rfl (by decide) h1, nI_toNat (by omega), (h.2.2.2.1 j (by omega)).1]
    have := h.characterAt (i := 0) hH hm (fi_lt f E j) (by decide)
    have e : (nI 0 : Int32) = 0 := rfl
    rw [e] at this
    rw [this]
    by_cases h2 : 0 < (tX f n E (fi f E j)).length
    · rw [if_pos h2]
      by_cases h4 : (tX f n E (fi f E j)).getD 0 0 = 91
      · rw [if_pos (show nI ((tX f n E (fi f E j)).getD 0 0) = 91 from (eq_nI (n := 91) (by omega) (by decide)).mpr h4), if_neg (fun h9 => h9.2 h4)]
        rfl
      · rw [if_neg (show ¬ nI ((tX f n E (fi f E j)).getD 0 0) = 91 from fun h9 => h4 ((eq_nI (n := 91) (by omega) (by decide)).mp h9)), if_pos ⟨h1, h4⟩]
        rfl
    · have hz : ¬ (tX f n E (fi f E j)).getD 0 0 = 91 := by
        rw [List.getD_eq_getElem?_getD, List.getElem?_eq_none (by omega)]
        decide
      rw [if_neg h2, if_neg (show ¬ (-1 : Int32) = 91 by decide), if_pos ⟨h1, hz⟩]
      rfl
  · rw [tgn (x := 7) 7 rfl (by decide) h1, if_neg (fun h9 => h1 h9.1)]
    rfl
end TXB
section TXC
def fldN (l : List Nat) : Nat := if 0 < shN l ∧ shN l < 4096 then 1 else 0
def mthN (l : List Nat) : Nat := if 4096 ≤ shN l then 1 else 0
def eqN (l l' : List Nat) : Nat := if l = l' then 1 else 0
def smN (f : Nat → Int32) (n : Nat) (E : List (Nat × Nat)) (j k : Nat) : Nat := if j = k ∨ (tg f E j = 1 ∧ tg f E k = 1 ∧ tX f n E j = tX f n E k) then 1 else 0
theorem VF.fld {f : Nat → Int32} {n H m j : Nat} {E : List (Nat × Nat)} {F : Nat → Nat → Int32} (h : VF f n E H m F) (hs : VS f n E F) (hH : H ≤ 65536) (hj : j < 65536) : sp_isFieldDescriptor H m F (nI j) = nI (fldN (tX f n E j)) := by
  unfold fldN
  rcases h.isField hs hH hj with ⟨e1, e2, e3⟩ | ⟨e1, e3⟩
  · rw [e3, if_pos ⟨e1, e2⟩]
    rfl
  · rw [e3, if_neg e1]
    rfl
theorem VF.mth {f : Nat → Int32} {n H m j : Nat} {E : List (Nat × Nat)} {F : Nat → Nat → Int32} (h : VF f n E H m F) (hs : VS f n E F) (hH : H ≤ 65536) (hj : j < 65536) : sp_isMethodDescriptor H m F (nI j) = nI (mthN (tX f n E j)) := by
  unfold mthN
  rcases h.isMeth hs hH hj with ⟨e1, e3, -⟩ | ⟨e1, e3⟩
  · rw [e3, if_pos e1]
    rfl
  · rw [e3, if_neg e1]
    rfl
theorem le1_fld (l : List Nat) : fldN l < 2 := by unfold fldN; split <;> decide
theorem le1_mth (l : List Nat) : mthN l < 2 := by unfold mthN; split <;> decide
theorem le1_eq (l l' : List Nat) : eqN l l' < 2 := by unfold eqN; split <;> decide
theorem le1_sm (f : Nat → Int32) (n : Nat) (E : List (Nat × Nat)) (j k : Nat) : smN f n E j k < 2 := by unfold smN; split <;> decide
theorem le1_ang (l : List Nat) : angN l < 2 := by unfold angN; split <;> decide
theorem le1_unq (l : List Nat) : unqN l < 2 := by unfold unqN; split <;> decide
theorem le1_cls (l : List Nat) : clsN l < 2 := by unfold clsN; repeat' split
                                                  all_goals decide
theorem le1_nres (l : List Nat) : nresN l < 2 := by unfold nresN; split <;> decide
theorem le1_pln (f : Nat → Int32) (n : Nat) (E : List (Nat × Nat)) (j : Nat) : plnN f n E j < 2 := by unfold plnN; split <;> decide
theorem gd_mem {l : List Nat} {i : Nat} (h : i < l.length) : l.getD i 0 ∈ l := by
  rw [List.getD_eq_getElem?_getD, List.getElem?_eq_getElem h, Option.getD_some]
  exact List.getElem_mem h
theorem gd_nil {l : List Nat} {x : Nat} (h : ¬ 0 < l.length) (hx : ¬ x = 0) : ¬ l.getD 0 0 = x := by
  rw [List.getD_eq_getElem?_getD, List.getElem?_eq_none (by omega)]
  exact fun e => hx e.symm
theorem gd_of {l : List Nat} {x : Nat} (h : x ∈ l) : ∃ i, i < l.length ∧ l.getD i 0 = x := by
  obtain ⟨i, hi, e⟩ := List.getElem_of_mem h
  exact ⟨i, hi, by rw [List.getD_eq_getElem?_getD, List.getElem?_eq_getElem hi, Option.getD_some, e]⟩
theorem gd_ext {l l' : List Nat} (h : l.length = l'.length) (he : ∀ i, i < l.length → l.getD i 0 = l'.getD i 0) : l = l' := by
  refine List.ext_getElem h (fun i h1 h2 => ?_)
  have := he i h1
  rw [List.getD_eq_getElem?_getD, List.getD_eq_getElem?_getD, List.getElem?_eq_getElem h1, List.getElem?_eq_getElem h2] at this
  exact this
theorem ang_in {l : List Nat} {i : Nat} (hi : i < l.length) (h : l.getD i 0 = 60 ∨ l.getD i 0 = 62) : angN l = 1 := by
  unfold angN
  have := gd_mem hi
  rw [if_pos]
  rcases h with h | h <;> rw [h] at this
  · exact Or.inl this
  · exact Or.inr this
theorem ang_no {l : List Nat} (h : ∀ i, i < l.length → ¬ l.getD i 0 = 60 ∧ ¬ l.getD i 0 = 62) : angN l = 0 := by
  unfold angN
  rw [if_neg]
  rintro (h1 | h1) <;> obtain ⟨i, hi, e⟩ := gd_of h1
  · exact (h i hi).1 e
  · exact (h i hi).2 e
theorem unq_no {l : List Nat} {i : Nat} (hi : i < l.length) (h : l.getD i 0 = 46 ∨ l.getD i 0 = 59 ∨ l.getD i 0 = 91 ∨ l.getD i 0 = 47) : unqN l = 0 := by
  unfold unqN
  have := gd_mem hi
  rw [if_pos]
  rcases h with h | h | h | h <;> rw [h] at this
  · exact Or.inr (Or.inl this)
  · exact Or.inr (Or.inr (Or.inl this))
  · exact Or.inr (Or.inr (Or.inr (Or.inl this)))
  · exact Or.inr (Or.inr (Or.inr (Or.inr this)))
theorem unq_nil {l : List Nat} (h : ¬ 0 < l.length) : unqN l = 0 := by
  unfold unqN
  rw [if_pos (Or.inl (List.eq_nil_of_length_eq_zero (by omega)))]
theorem unq_in {l : List Nat} (h0 : 0 < l.length) (h : ∀ i, i < l.length → ¬ l.getD i 0 = 46 ∧ ¬ l.getD i 0 = 59 ∧ ¬ l.getD i 0 = 91 ∧ ¬ l.getD i 0 = 47) : unqN l = 1 := by
  unfold unqN
  rw [if_neg]
  rintro (h1 | h1 | h1 | h1 | h1)
  · rw [h1] at h0
    exact absurd h0 (by decide)
  all_goals obtain ⟨i, hi, e⟩ := gd_of h1
  · exact (h i hi).1 e
  · exact (h i hi).2.1 e
  · exact (h i hi).2.2.1 e
  · exact (h i hi).2.2.2 e
theorem ltx_ne : ∀ k, k < 30 → ¬ ltx k = [] := by decide +kernel
theorem ltx_ch : ∀ k, k < 15 → ∀ i, i < 30 → (ltx k).getD i 0 < 65536 ∧ (ltx k).length < 30 := by decide +kernel
end TXC
end
