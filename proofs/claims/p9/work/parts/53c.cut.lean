/-! code is cut up (laid by wip/p2/c53.py) -/
set_option maxHeartbeats 2000000 in
theorem tw_Co_cutUp {g : xe_G} {M : mi_H} {Y : yT} {a p o k b da n : Nat} {pp : List Nat}  (hW : WF g Y M) (hY0 : Y.1 a = some (4, [p, o, k])) (hY1 : Y.1 p = some (7, pp)) (hY2 : Y.1 o = some (5, [b, k])) (hY3 : Y.1 b = some (1, [da, n])) {d : Nat} (hd : 7 ≤ d) : mt (mT g) d 76 [.ref a] M (fun v M' => ∃ Y', (∃ x : Int32, v = some (.int x)) ∧ sa g Y M Y' M' 2 (2 * k)) := by
  obtain ⟨d, rfl⟩ : ∃ e, d = e + 1 := ⟨d - 1, by omega⟩
  have hS : st g Y M M := st.rf hW
  refine mt_in (b := mb_76 g) rfl rfl ?_
  show ml (mT g) d (mb_76 g).2 (0, [(0, .ref a)], [], M) _
  have hA := sa.rf hW
  obtain ⟨hk, ln, hg2, hl0, hl1⟩ := hW.code hY0
  refine ml_st (S' := (1, [(0, .ref a)], [.ref a], M)) rfl rfl rfl ?_
  refine tg_int rfl hS.1 hY0 (by decide) rfl (fun u1 g2 => ?_)
  show ml _ _ _ (4, [(0, .ref a)], [.int u1], M) _
  refine ml_if (S1 := (12, [(0, .ref a)], [], M)) (S2 := (7, [(0, .ref a)], [], M)) rfl rfl rfl (fun c_4 => ?_) (fun c_4 => ?_)
  · have c_4 : u1 = 0 := of_decide_eq_true c_4
    refine ml_blk 2 (S' := (14, [(0, .ref a)], [.ref a, .int 0], M)) rfl ?_
    refine ml_get (S' := (17, [(0, .ref a)], [.int ln, .int 0], M)) rfl hg2 rfl ?_
    refine ml_st (S' := (20, [(0, .ref a)], [.int (if 0 < ln then ln else 0)], M)) rfl rfl rfl ?_
    rw [mx0 hl0]
    refine ml_st (S' := (21, [(1, .int ln), (0, .ref a)], [], M)) rfl rfl rfl ?_
    refine ml_blk 2 (S' := (23, [(1, .int ln), (0, .ref a)], [.int ln, .ref a], M)) rfl ?_
    refine ml_newa (S' := (25, [(1, .int ln), (0, .ref a)], [.ref M.2.1, .ref a], (mk1 M (ar .int (Int32.toNatClampNeg ln) (fun _ => 0)) (Int32.toNatClampNeg ln)))) rfl (hl0) ((by omega)) rfl ?_
    refine mm_row (kr := 21) (pr := [(Int32.toNatClampNeg ln)]) hS.1 (okY_row rfl ((by show ln.toInt.toNat < _; omega)) (by decide) (fun h => absurd h (by decide)) (fun h => absurd h (by decide))) (fun Y3 M4 b5 _ h6 h7 h8 f9 => ?_)
    have g10 := gf_fr (f9 a (hS.1.2.1 _ _ hY0)) hg2
    have hA11 := (hA.st hS).tr h6.sa
    have hS12 := st.rf hA11.1
    have h13 := (h6.2.1 _ _ hY0).1
    have h14 := (h6.2.1 _ _ hY1).1
    have h15 := (h6.2.1 _ _ hY2).1
    have h16 := (h6.2.1 _ _ hY3).1
    show ml _ _ _ (25, [(1, .int ln), (0, .ref a)], [.ref b5, .ref a], M4) _
    refine tp_put rfl hS12 h13 (by decide) rfl (Or.inr ⟨_, rfl, _, h7⟩) rfl rfl (fun M17 hS18 f19 => ?_)
    have g20 := f19.2.1 2 _ (by decide) g10
    show ml _ _ _ (28, [(1, .int ln), (0, .ref a)], [], M17) _
    refine ml_blk 2 (S' := (30, [(1, .int ln), (0, .ref a)], [.int ln, .ref a], M17)) rfl ?_
    refine ml_newa (S' := (32, [(1, .int ln), (0, .ref a)], [.ref M17.2.1, .ref a], (mk1 M17 (ar .int (Int32.toNatClampNeg ln) (fun _ => 0)) (Int32.toNatClampNeg ln)))) rfl (hl0) ((by omega)) rfl ?_
    refine mm_row (kr := 21) (pr := [(Int32.toNatClampNeg ln)]) hS18.1 (okY_row rfl ((by show ln.toInt.toNat < _; omega)) (by decide) (fun h => absurd h (by decide)) (fun h => absurd h (by decide))) (fun Y21 M22 b23 _ h24 h25 h26 f27 => ?_)
    have g28 := gf_fr (f27 a (hS18.1.2.1 _ _ h13)) g20
    have g29 := gf_fr (f27 a (hS18.1.2.1 _ _ h13)) f19.2.2.1
    have hA30 := (hA11.st hS18).tr h24.sa
    have hS31 := st.rf hA30.1
    have h32 := (h24.2.1 _ _ h13).1
    have h33 := (h24.2.1 _ _ h14).1
    have h34 := (h24.2.1 _ _ h15).1
    have h35 := (h24.2.1 _ _ h16).1
    have h36 := (h24.2.1 _ _ h7).1
    show ml _ _ _ (32, [(1, .int ln), (0, .ref a)], [.ref b23, .ref a], M22) _
    refine tp_put rfl hS31 h32 (by decide) rfl (Or.inr ⟨_, rfl, _, h25⟩) rfl rfl (fun M37 hS38 f39 => ?_)
    have g40 := f39.2.1 2 _ (by decide) g28
    have g41 := f39.2.1 9 _ (by decide) g29
    show ml _ _ _ (35, [(1, .int ln), (0, .ref a)], [], M37) _
    refine ml_st (S' := (36, [(1, .int ln), (0, .ref a)], [.int 0], M37)) rfl rfl rfl ?_
    refine ml_st (S' := (37, [(2, .int 0), (1, .int ln), (0, .ref a)], [], M37)) rfl rfl rfl ?_
    refine ml_st (S' := (38, [(2, .int 0), (1, .int ln), (0, .ref a)], [.int 0], M37)) rfl rfl rfl ?_
    refine ml_st (S' := (39, [(0, .ref a), (1, .int ln), (2, .int 0), (3, .int 0)], [], M37)) rfl rfl rfl ?_
    have L_39 : ∀ (n_39 : Nat) (i39_2 : Int32) (i39_3 : Int32) (M_39 : mi_H), (2147483648 - i39_3.toInt).toNat ≤ n_39 → (0 ≤ i39_3.toInt ∧ 0 ≤ i39_2.toInt ∧ i39_2.toInt ≤ ln.toInt ∧ mi_gf M_39 a 4 9 = some (.ref b5) ∧ mi_gf M_39 a 4 10 = some (.ref b23)) → st g Y21 M22 M_39 → ml (mT g) d (mb_76 g).2 (39, [(0, .ref a), (1, .int ln), (2, .int i39_2), (3, .int i39_3)], [], M_39) (fun v M' => ∃ Y', (∃ x : Int32, v = some (.int x)) ∧ sa g Y M Y' M' 2 (2 * k)) := by
      intro n_39
      induction n_39 with
      | zero => intro i39_2 i39_3 M_39 hn; exact (loop_zero hn).elim
      | succ n_39 ih_39 =>
        intro i39_2 i39_3 M_39 hn_39 hi_39 hS_39
        refine ml_blk 2 (S' := (41, [(0, .ref a), (1, .int ln), (2, .int i39_2), (3, .int i39_3)], [.int ln, .int i39_3], M_39)) rfl ?_
        have J_110 : ml (mT g) d (mb_76 g).2 (110, [(0, .ref a), (2, .int i39_2)], [], M_39) (fun v M' => ∃ Y', (∃ x : Int32, v = some (.int x)) ∧ sa g Y M Y' M' 2 (2 * k)) := by
          refine ml_blk 2 (S' := (112, [(0, .ref a), (2, .int i39_2)], [.int i39_2, .ref a], M_39)) rfl ?_
          refine tp_put rfl hS_39 h32 (by decide) rfl (⟨_, rfl⟩) rfl rfl (fun M42 hS43 f44 => ?_)
          have g45 := f44.2.1 9 _ (by decide) hi_39.2.2.2.1
          have g46 := f44.2.1 10 _ (by decide) hi_39.2.2.2.2
          show ml _ _ _ (115, [(0, .ref a), (2, .int i39_2)], [], M42) _
          refine ml_st (S' := (116, [(0, .ref a), (2, .int i39_2)], [.int 0], M42)) rfl rfl rfl ?_
          refine ml_st (S' := (117, [(0, .ref a), (2, .int i39_2), (3, .int 0)], [], M42)) rfl rfl rfl ?_
          have L_117 : ∀ (n_117 : Nat) (i117_3 : Int32) (M_117 : mi_H), (2147483648 - i117_3.toInt).toNat ≤ n_117 → (0 ≤ i117_3.toInt ∧ mi_gf M_117 a 4 9 = some (.ref b5)) → st g Y21 M22 M_117 → ml (mT g) d (mb_76 g).2 (117, [(0, .ref a), (2, .int i39_2), (3, .int i117_3)], [], M_117) (fun v M' => ∃ Y', (∃ x : Int32, v = some (.int x)) ∧ sa g Y M Y' M' 2 (2 * k)) := by
            intro n_117
            induction n_117 with
            | zero => intro i117_3 M_117 hn; exact (loop_zero hn).elim
            | succ n_117 ih_117 =>
              intro i117_3 M_117 hn_117 hi_117 hS_117
              refine ml_blk 2 (S' := (119, [(0, .ref a), (2, .int i39_2), (3, .int i117_3)], [.int i39_2, .int i117_3], M_117)) rfl ?_
              refine ml_if2 (S1 := (172, [(0, .ref a)], [], M_117)) (S2 := (122, [(0, .ref a), (2, .int i39_2), (3, .int i117_3)], [], M_117)) rfl rfl rfl (fun c_119 => ?_) (fun c_119 => ?_)
              · have c_119 : i39_2 ≤ i117_3 := of_decide_eq_true c_119
                refine ml_st (S' := (173, [(0, .ref a)], [.ref a], M_117)) rfl rfl rfl ?_
                refine tg_int rfl hS_117.1 h32 (by decide) rfl (fun u47 g48 => ?_)
                show ml _ _ _ (176, [(0, .ref a)], [.int u47], M_117) _
                exact ml_ret rfl (rfl) (⟨Y21, ⟨_, rfl⟩, (hA30.st hS_117).le (by omega) (by have : (ln.toNatClampNeg : Int) = ln.toInt := (by show (ln.toInt.toNat : Int) = _; omega); omega)⟩)
              · have c_119 : ¬ (i39_2 ≤ i117_3) := of_decide_eq_false c_119
                refine ml_st (S' := (123, [(0, .ref a), (2, .int i39_2), (3, .int i117_3)], [.ref a], M_117)) rfl rfl rfl ?_
                refine tg_int rfl hS_117.1 h32 (by decide) rfl (fun u49 g50 => ?_)
                show ml _ _ _ (126, [(0, .ref a), (2, .int i39_2), (3, .int i117_3)], [.int u49], M_117) _
                refine ml_st (S' := (127, [(0, .ref a), (2, .int i39_2), (3, .int i117_3)], [.int i39_2, .int u49], M_117)) rfl rfl rfl ?_
                refine ml_if2 (S1 := (172, [(0, .ref a)], [], M_117)) (S2 := (130, [(0, .ref a), (2, .int i39_2), (3, .int i117_3)], [], M_117)) rfl rfl rfl (fun c_127 => ?_) (fun c_127 => ?_)
                · have c_127 : ¬ u49 = i39_2 := of_decide_eq_true c_127
                  refine ml_st (S' := (173, [(0, .ref a)], [.ref a], M_117)) rfl rfl rfl ?_
                  refine ml_get (S' := (176, [(0, .ref a)], [.int u49], M_117)) rfl g50 rfl ?_
                  exact ml_ret rfl (rfl) (⟨Y21, ⟨_, rfl⟩, (hA30.st hS_117).le (by omega) (by have : (ln.toNatClampNeg : Int) = ln.toInt := (by show (ln.toInt.toNat : Int) = _; omega); omega)⟩)
                · have c_127 : ¬ (¬ u49 = i39_2) := of_decide_eq_false c_127
                  refine ml_st (S' := (131, [(0, .ref a), (2, .int i39_2), (3, .int i117_3)], [.ref a], M_117)) rfl rfl rfl ?_
                  refine tg_ref (S' := (134, [(0, .ref a), (2, .int i39_2), (3, .int i117_3)], [.ref o], M_117)) rfl hS_117.1 h32 (by decide) rfl rfl ?_
                  refine ml_st (S' := (135, [(0, .ref a), (2, .int i39_2), (3, .int i117_3)], [.ref a, .ref o], M_117)) rfl rfl rfl ?_
                  refine ml_get (S' := (138, [(0, .ref a), (2, .int i39_2), (3, .int i117_3)], [.ref b5, .ref o], M_117)) rfl hi_117.2 rfl ?_
                  refine ml_st (S' := (139, [(0, .ref a), (2, .int i39_2), (3, .int i117_3)], [.int i117_3, .ref b5, .ref o], M_117)) rfl rfl rfl ?_
                  refine ta_int rfl hS_117.1 h36 (vin_c hi_117.1 (by have := i_nle c_119; have := hi_39.2.2.1; omega)) (fun u51 => ?_)
                  show ml _ _ _ (140, [(0, .ref a), (2, .int i39_2), (3, .int i117_3)], [.int u51, .ref o], M_117) _
                  refine ml_call (a := [.ref o, .int u51]) (rest := []) rfl (okc_t rfl rfl rfl hS_117.1 h34 (by decide)) rfl rfl (ti_isTakenApart hS_117.1 h34 h35 (by omega)) (fun v52 M53 h54 => ?_)
                  obtain ⟨⟨u55, rfl, z56⟩, h54⟩ := h54
                  have g57 := h54.2.gf (nin_cons (ykne h32 h34 (by decide)) nin_nil) hi_117.2
                  have hS58 := hS_117.tr h54.1
                  show ml _ _ _ (143, [(0, .ref a), (2, .int i39_2), (3, .int i117_3)], [.int u55], M53) _
                  refine ml_if (S1 := (166, [(0, .ref a), (2, .int i39_2), (3, .int i117_3)], [], M53)) (S2 := (146, [(0, .ref a), (2, .int i39_2), (3, .int i117_3)], [], M53)) rfl rfl rfl (fun c_143 => ?_) (fun c_143 => ?_)
                  · have c_143 : u55 = 0 := of_decide_eq_true c_143
                    refine ml_st (S' := (169, [(3, .int (i117_3 + 1)), (0, .ref a), (2, .int i39_2)], [], M53)) rfl rfl rfl ?_
                    refine ml_st (S' := (117, [(0, .ref a), (2, .int i39_2), (3, .int (i117_3 + 1))], [], M53)) rfl rfl rfl ?_
                    exact ih_117 (i117_3 + 1) _ (loop_inc (Int32.not_le.mp c_119) hn_117) (⟨by rw [inc_lt (Int32.not_le.mp c_119)]; have := hi_117.1; omega, g57⟩) hS58
                  · have c_143 : ¬ (u55 = 0) := of_decide_eq_false c_143
                    refine ml_st (S' := (147, [(0, .ref a), (2, .int i39_2), (3, .int i117_3)], [.ref a], M53)) rfl rfl rfl ?_
                    refine ml_call (a := [.ref a]) (rest := []) rfl (okc_t rfl rfl rfl hS58.1 h32 (by decide)) rfl rfl (tw_Co_targetsHold hS58.1 h32 h33 h34 h35 (by omega)) (fun v59 M60 h61 => ?_)
                    obtain ⟨⟨u62, rfl, z63⟩, h61⟩ := h61
                    rw [h61]
                    show ml _ _ _ (150, [(0, .ref a), (2, .int i39_2), (3, .int i117_3)], [.int u62], M53) _
                    refine ml_if (S1 := (166, [(0, .ref a), (2, .int i39_2), (3, .int i117_3)], [], M53)) (S2 := (153, [(0, .ref a), (2, .int i39_2), (3, .int i117_3)], [], M53)) rfl rfl rfl (fun c_150 => ?_) (fun c_150 => ?_)
                    · have c_150 : ¬ u62 = 0 := of_decide_eq_true c_150
                      refine ml_st (S' := (169, [(3, .int (i117_3 + 1)), (0, .ref a), (2, .int i39_2)], [], M53)) rfl rfl rfl ?_
                      refine ml_st (S' := (117, [(0, .ref a), (2, .int i39_2), (3, .int (i117_3 + 1))], [], M53)) rfl rfl rfl ?_
                      exact ih_117 (i117_3 + 1) _ (loop_inc (Int32.not_le.mp c_119) hn_117) (⟨by rw [inc_lt (Int32.not_le.mp c_119)]; have := hi_117.1; omega, g57⟩) hS58
                    · have c_150 : ¬ (¬ u62 = 0) := of_decide_eq_false c_150
                      refine ml_blk 3 (S' := (157, [(0, .ref a), (2, .int i39_2), (3, .int i117_3)], [.ref a, .int (-2), .ref a], M53)) rfl ?_
                      refine ml_get (S' := (160, [(0, .ref a), (2, .int i39_2), (3, .int i117_3)], [.ref b5, .int (-2), .ref a], M53)) rfl g57 rfl ?_
                      refine ml_st (S' := (161, [(0, .ref a), (2, .int i39_2), (3, .int i117_3)], [.int i117_3, .ref b5, .int (-2), .ref a], M53)) rfl rfl rfl ?_
                      refine ta_int rfl hS58.1 h36 (vin_c hi_117.1 (by have := i_nle c_119; have := hi_39.2.2.1; omega)) (fun u64 => ?_)
                      show ml _ _ _ (162, [(0, .ref a), (2, .int i39_2), (3, .int i117_3)], [.int u64, .int (-2), .ref a], M53) _
                      refine ml_st (S' := (163, [(0, .ref a), (2, .int i39_2), (3, .int i117_3)], [.int ((-2) - u64), .ref a], M53)) rfl rfl rfl ?_
                      refine tp_put rfl hS58 h32 (by decide) rfl (⟨_, rfl⟩) rfl rfl (fun M65 hS66 f67 => ?_)
                      have g68 := f67.2.1 9 _ (by decide) g57
                      show ml _ _ _ (166, [(0, .ref a), (2, .int i39_2), (3, .int i117_3)], [], M65) _
                      refine ml_st (S' := (169, [(3, .int (i117_3 + 1)), (0, .ref a), (2, .int i39_2)], [], M65)) rfl rfl rfl ?_
                      refine ml_st (S' := (117, [(0, .ref a), (2, .int i39_2), (3, .int (i117_3 + 1))], [], M65)) rfl rfl rfl ?_
                      exact ih_117 (i117_3 + 1) _ (loop_inc (Int32.not_le.mp c_119) hn_117) (⟨by rw [inc_lt (Int32.not_le.mp c_119)]; have := hi_117.1; omega, g68⟩) hS66
          exact L_117 _ 0 _ (Nat.le_refl _) (⟨by decide, g45⟩) hS43
        refine ml_if2 (S1 := (110, [(0, .ref a), (2, .int i39_2)], [], M_39)) (S2 := (44, [(0, .ref a), (1, .int ln), (2, .int i39_2), (3, .int i39_3)], [], M_39)) rfl rfl rfl (fun c_41 => ?_) (fun c_41 => ?_)
        · have c_41 : ln ≤ i39_3 := of_decide_eq_true c_41
          exact J_110 
        · have c_41 : ¬ (ln ≤ i39_3) := of_decide_eq_false c_41
          refine ml_blk 2 (S' := (46, [(0, .ref a), (1, .int ln), (2, .int i39_2), (3, .int i39_3)], [.int ln, .int i39_2], M_39)) rfl ?_
          refine ml_if2 (S1 := (110, [(0, .ref a), (2, .int i39_2)], [], M_39)) (S2 := (49, [(0, .ref a), (1, .int ln), (2, .int i39_2), (3, .int i39_3)], [], M_39)) rfl rfl rfl (fun c_46 => ?_) (fun c_46 => ?_)
          · have c_46 : ln ≤ i39_2 := of_decide_eq_true c_46
            exact J_110 
          · have c_46 : ¬ (ln ≤ i39_2) := of_decide_eq_false c_46
            refine ml_st (S' := (50, [(0, .ref a), (1, .int ln), (2, .int i39_2), (3, .int i39_3)], [.ref a], M_39)) rfl rfl rfl ?_
            refine tg_ref (S' := (53, [(0, .ref a), (1, .int ln), (2, .int i39_2), (3, .int i39_3)], [.ref o], M_39)) rfl hS_39.1 h32 (by decide) rfl rfl ?_
            refine ml_st (S' := (54, [(0, .ref a), (1, .int ln), (2, .int i39_2), (3, .int i39_3)], [.int i39_3, .ref o], M_39)) rfl rfl rfl ?_
            refine ml_call (a := [.ref o, .int i39_3]) (rest := []) rfl (okc_t rfl rfl rfl hS_39.1 h34 (by decide)) rfl rfl (ti_isTakenApart hS_39.1 h34 h35 (by omega)) (fun v69 M70 h71 => ?_)
            obtain ⟨⟨u72, rfl, z73⟩, h71⟩ := h71
            have g74 := h71.2.gf (nin_cons (ykne h32 h34 (by decide)) nin_nil) hi_39.2.2.2.1
            have g75 := h71.2.gf (nin_cons (ykne h32 h34 (by decide)) nin_nil) hi_39.2.2.2.2
            have hS76 := hS_39.tr h71.1
            show ml _ _ _ (57, [(0, .ref a), (1, .int ln), (2, .int i39_2), (3, .int i39_3)], [.int u72], M70) _
            refine ml_if (S1 := (67, [(0, .ref a), (3, .int i39_3)], [], M70)) (S2 := (60, [(0, .ref a), (1, .int ln), (2, .int i39_2), (3, .int i39_3)], [], M70)) rfl rfl rfl (fun c_57 => ?_) (fun c_57 => ?_)
            · have c_57 : u72 = 0 := of_decide_eq_true c_57
              refine ml_blk 3 (S' := (71, [(0, .ref a), (3, .int i39_3)], [.int i39_3, .int (-2), .ref a], M70)) rfl ?_
              refine ml_st (S' := (72, [(0, .ref a), (3, .int i39_3)], [.int ((-2) - i39_3), .ref a], M70)) rfl rfl rfl ?_
              refine tp_put rfl hS76 h32 (by decide) rfl (⟨_, rfl⟩) rfl rfl (fun M77 hS78 f79 => ?_)
              have g80 := f79.2.1 9 _ (by decide) g74
              have g81 := f79.2.1 10 _ (by decide) g75
              show ml _ _ _ (75, [(0, .ref a), (3, .int i39_3)], [], M77) _
              refine ml_st (S' := (76, [(0, .ref a), (3, .int i39_3)], [.ref a], M77)) rfl rfl rfl ?_
              refine ml_get (S' := (79, [(0, .ref a), (3, .int i39_3)], [.int ((-2) - i39_3)], M77)) rfl f79.2.2.1 rfl ?_
              exact ml_ret rfl (rfl) (⟨Y21, ⟨_, rfl⟩, (hA30.st hS78).le (by omega) (by have : (ln.toNatClampNeg : Int) = ln.toInt := (by show (ln.toInt.toNat : Int) = _; omega); omega)⟩)
            · have c_57 : ¬ (u72 = 0) := of_decide_eq_false c_57
              refine ml_st (S' := (61, [(0, .ref a), (1, .int ln), (2, .int i39_2), (3, .int i39_3)], [.ref a], M70)) rfl rfl rfl ?_
              refine ml_call (a := [.ref a]) (rest := []) rfl (okc_t rfl rfl rfl hS76.1 h32 (by decide)) rfl rfl (tw_Co_operandsHold hS76.1 h32 h33 h34 h35 (by omega)) (fun v82 M83 h84 => ?_)
              obtain ⟨⟨u85, rfl, z86⟩, h84⟩ := h84
              rw [h84]
              show ml _ _ _ (64, [(0, .ref a), (1, .int ln), (2, .int i39_2), (3, .int i39_3)], [.int u85], M70) _
              refine ml_if (S1 := (80, [(0, .ref a), (1, .int ln), (2, .int i39_2), (3, .int i39_3)], [], M70)) (S2 := (67, [(0, .ref a), (3, .int i39_3)], [], M70)) rfl rfl rfl (fun c_64 => ?_) (fun c_64 => ?_)
              · have c_64 : ¬ u85 = 0 := of_decide_eq_true c_64
                obtain ⟨-, sz, hsg, hsa, hsb⟩ := z73.resolve_left c_57
                have hsz : (i39_3 + sz).toInt = i39_3.toInt + sz.toInt ∧ 1 ≤ sz.toInt := ⟨i_add (by have := hi_39.1; omega) (by omega), hsa⟩
                refine ml_st (S' := (81, [(0, .ref a), (1, .int ln), (2, .int i39_2), (3, .int i39_3)], [.ref a], M70)) rfl rfl rfl ?_
                refine ml_get (S' := (84, [(0, .ref a), (1, .int ln), (2, .int i39_2), (3, .int i39_3)], [.ref b5], M70)) rfl g74 rfl ?_
                refine ml_blk 2 (S' := (86, [(0, .ref a), (1, .int ln), (2, .int i39_2), (3, .int i39_3)], [.int i39_3, .int i39_2, .ref b5], M70)) rfl ?_
                refine ts_int rfl hS76 h36 (vin_c hi_39.2.1 (i_nle c_46)) (Or.inl rfl) (fun M88 hS89 f90 => ?_)
                have g91 := gf_fr (f90 a (ykne h32 h36 (by decide))) g74
                have g92 := gf_fr (f90 a (ykne h32 h36 (by decide))) g75
                have g93 := gf_fr (f90 o (ykne h34 h36 (by decide))) hsg
                show ml _ _ _ (87, [(0, .ref a), (1, .int ln), (2, .int i39_2), (3, .int i39_3)], [], M88) _
                have hn1 : (i39_2 + 1).toInt = i39_2.toInt + 1 := inc_lt (Int32.not_le.mp c_46)
                refine ml_st (S' := (90, [(2, .int (i39_2 + 1)), (0, .ref a), (1, .int ln), (3, .int i39_3)], [], M88)) rfl rfl rfl ?_
                refine ml_st (S' := (91, [(2, .int (i39_2 + 1)), (0, .ref a), (1, .int ln), (3, .int i39_3)], [.ref a], M88)) rfl rfl rfl ?_
                refine ml_get (S' := (94, [(2, .int (i39_2 + 1)), (0, .ref a), (1, .int ln), (3, .int i39_3)], [.ref b23], M88)) rfl g92 rfl ?_
                refine ml_blk 2 (S' := (96, [(2, .int (i39_2 + 1)), (0, .ref a), (1, .int ln), (3, .int i39_3)], [.int (i39_2 + 1), .int i39_3, .ref b23], M88)) rfl ?_
                refine ts_int rfl hS89 h25 (vin_c hi_39.1 (i_nle c_41)) (Or.inl rfl) (fun M94 hS95 f96 => ?_)
                have g97 := gf_fr (f96 a (ykne h32 h25 (by decide))) g91
                have g98 := gf_fr (f96 a (ykne h32 h25 (by decide))) g92
                have g99 := gf_fr (f96 o (ykne h34 h25 (by decide))) g93
                show ml _ _ _ (97, [(2, .int (i39_2 + 1)), (0, .ref a), (1, .int ln), (3, .int i39_3)], [], M94) _
                refine ml_blk 2 (S' := (99, [(2, .int (i39_2 + 1)), (0, .ref a), (1, .int ln), (3, .int i39_3)], [.ref a, .int i39_3], M94)) rfl ?_
                refine tg_ref (S' := (102, [(2, .int (i39_2 + 1)), (0, .ref a), (1, .int ln), (3, .int i39_3)], [.ref o, .int i39_3], M94)) rfl hS95.1 h32 (by decide) rfl rfl ?_
                refine ml_get (S' := (105, [(2, .int (i39_2 + 1)), (0, .ref a), (1, .int ln), (3, .int i39_3)], [.int sz, .int i39_3], M94)) rfl g99 rfl ?_
                refine ml_st (S' := (106, [(2, .int (i39_2 + 1)), (0, .ref a), (1, .int ln), (3, .int i39_3)], [.int (i39_3 + sz)], M94)) rfl rfl rfl ?_
                refine ml_st (S' := (107, [(3, .int (i39_3 + sz)), (2, .int (i39_2 + 1)), (0, .ref a), (1, .int ln)], [], M94)) rfl rfl rfl ?_
                refine ml_st (S' := (39, [(0, .ref a), (1, .int ln), (2, .int (i39_2 + 1)), (3, .int (i39_3 + sz))], [], M94)) rfl rfl rfl ?_
                exact ih_39 (i39_2 + 1) (i39_3 + sz) _ (by rw [hsz.1]; omega) (⟨by rw [hsz.1]; have := hi_39.1; omega, by rw [hn1]; have := hi_39.2.1; omega, by rw [hn1]; have := i_nle c_46; omega, g97, g98⟩) hS95
              · have c_64 : ¬ (¬ u85 = 0) := of_decide_eq_false c_64
                refine ml_blk 3 (S' := (71, [(0, .ref a), (3, .int i39_3)], [.int i39_3, .int (-2), .ref a], M70)) rfl ?_
                refine ml_st (S' := (72, [(0, .ref a), (3, .int i39_3)], [.int ((-2) - i39_3), .ref a], M70)) rfl rfl rfl ?_
                refine tp_put rfl hS76 h32 (by decide) rfl (⟨_, rfl⟩) rfl rfl (fun M100 hS101 f102 => ?_)
                have g103 := f102.2.1 9 _ (by decide) g74
                have g104 := f102.2.1 10 _ (by decide) g75
                show ml _ _ _ (75, [(0, .ref a), (3, .int i39_3)], [], M100) _
                refine ml_st (S' := (76, [(0, .ref a), (3, .int i39_3)], [.ref a], M100)) rfl rfl rfl ?_
                refine ml_get (S' := (79, [(0, .ref a), (3, .int i39_3)], [.int ((-2) - i39_3)], M100)) rfl f102.2.2.1 rfl ?_
                exact ml_ret rfl (rfl) (⟨Y21, ⟨_, rfl⟩, (hA30.st hS101).le (by omega) (by have : (ln.toNatClampNeg : Int) = ln.toInt := (by show (ln.toInt.toNat : Int) = _; omega); omega)⟩)
    exact L_39 _ 0 0 _ (Nat.le_refl _) (⟨by decide, by decide, hl0, g41, f39.2.2.1⟩) hS38
  · have c_4 : ¬ (u1 = 0) := of_decide_eq_false c_4
    refine ml_st (S' := (8, [(0, .ref a)], [.ref a], M)) rfl rfl rfl ?_
    refine ml_get (S' := (11, [(0, .ref a)], [.int u1], M)) rfl g2 rfl ?_
    exact ml_ret rfl (rfl) (⟨Y, ⟨_, rfl⟩, (hA.st hS).le (by omega) (by have : (ln.toNatClampNeg : Int) = ln.toInt := (by show (ln.toInt.toNat : Int) = _; omega); omega)⟩)
