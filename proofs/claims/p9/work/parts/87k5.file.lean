/-! the reference reads the file (laid by wip/p4/e5.py) -/
set_option maxHeartbeats 1000000 in
theorem rd_readFile {g : xe_G} {m0 : Nat} {q : Nat → Nat} {z : Nat × Nat} {I : rI} {R : rR} {M : mi_H} {n : Nat} {f : Nat → Int32} {tx : List (List Nat)} {cN : Nat} {A : Nat → Nat} (hR : RS g m0 q z I R M) (hi20 : I 20 = some 0) (hF : FK n f I R) (hY : SYT tx cN A I R)  : pt (mT g) 237 [.ref m0] M (fun v M' => (∃ (E : List (Nat × Nat)) (p1 pF pM pA : Nat) (tx1 : List (List Nat)) (cN1 : Nat) (A1 : Nat → Nat) (I' : rI) (R' : rR), (s_whole f n = .inr (E, p1, pF, pM, pA)) ∧ (tx.length ≤ tx1.length ∧ ∀ s, s < tx.length → tx1.getD s [] = tx.getD s []) ∧ (s_class f n p1 = .inr pF) ∧ (s_mbs f n pF = .inr pM) ∧ (s_mbs f n pM = .inr pA) ∧ (s_attributes f n pA = .inr n) ∧ v = some (.int 1) ∧ RS g m0 q z I' R' M' ∧ eqI [3, 8, 20, 47, 48, 50, 51, 52, 53, 54, 55, 56, 57] I I' ∧ eqR [1, 2, 4, 5, 6, 7, 21, 22] R R' ∧ I' 51 = some 0 ∧ I' 52 = some (nI (by2 f 8)) ∧ I' 53 = some (nI (by2 f 6)) ∧ I' 54 = some (nI p1) ∧ I' 55 = some (nI pF) ∧ I' 56 = some (nI pM) ∧ I' 57 = some (nI pA) ∧ SYT tx1 cN1 A1 I' R' ∧ RPV f n E tx1 (by2 f 8) I' R') ∨ (∃ (e : Nat × Nat) (I' : rI) (R' : rR), (s_whole f n = .inl e) ∧ v = some (.int 0) ∧ RS g m0 q z I' R' M' ∧ eqI [3, 8, 20, 47, 48, 50, 51, 52, 53, 54, 55, 56, 57] I I' ∧ eqR [1, 2, 4, 5, 6, 7, 21, 22] R R' ∧ I' 47 = some (nI e.1) ∧ I' 48 = some (nI e.2))) := by
  refine pt_in (b := mb_237 g) rfl (fun kf => ?_)
  show pl (mT g) kf (mb_237 g).2 (0, [(0, .ref m0)], [], M) _
  have hEI : eqI [3, 8, 20, 47, 48, 50, 51, 52, 53, 54, 55, 56, 57] I I := eqI.rf
  have hER : eqR [1, 2, 4, 5, 6, 7, 21, 22] R R := eqR.rf
  have hn := hF.1
  have LL : ∀ (kf : Nat), (∀ (k p1 : Nat) (E : List (Nat × Nat)) (tx1 : List (List Nat)) (cN1 : Nat) (A1 : Nat → Nat) (M1 : mi_H) (I1 : rI) (R1 : rR), (RS g m0 q z I1 R1 M1) → (eqI [3, 8, 20, 47, 48, 50, 51, 52, 53, 54, 55, 56, 57] I I1) → (eqR [1, 2, 4, 5, 6, 7, 21, 22] R R1) → (I1 50 = some (nI (p1 + 2 * k))) → (I1 51 = some 0) → (I1 52 = some (nI (by2 f 8))) → (I1 53 = some (nI (by2 f 6))) → (I1 54 = some (nI p1)) → (FK n f I1 R1) → (SYT tx1 cN1 A1 I1 R1) → (RPV f n E tx1 (by2 f 8) I1 R1) → (s_head f n = (0, 0)) → (s_pool f n (by2 f 6) = .inr (p1, E)) → (tx.length ≤ tx1.length ∧ ∀ s, s < tx.length → tx1.getD s [] = tx.getD s []) → (k ≤ 4 ∧ p1 + 2 * k ≤ n) →  pl (mT g) kf (mb_237 g).2 (191, [(0, .ref m0), (1, .int (nI k))], [], M1) (fun v M' => (∃ (E : List (Nat × Nat)) (p1 pF pM pA : Nat) (tx1 : List (List Nat)) (cN1 : Nat) (A1 : Nat → Nat) (I' : rI) (R' : rR), (s_whole f n = .inr (E, p1, pF, pM, pA)) ∧ (tx.length ≤ tx1.length ∧ ∀ s, s < tx.length → tx1.getD s [] = tx.getD s []) ∧ (s_class f n p1 = .inr pF) ∧ (s_mbs f n pF = .inr pM) ∧ (s_mbs f n pM = .inr pA) ∧ (s_attributes f n pA = .inr n) ∧ v = some (.int 1) ∧ RS g m0 q z I' R' M' ∧ eqI [3, 8, 20, 47, 48, 50, 51, 52, 53, 54, 55, 56, 57] I I' ∧ eqR [1, 2, 4, 5, 6, 7, 21, 22] R R' ∧ I' 51 = some 0 ∧ I' 52 = some (nI (by2 f 8)) ∧ I' 53 = some (nI (by2 f 6)) ∧ I' 54 = some (nI p1) ∧ I' 55 = some (nI pF) ∧ I' 56 = some (nI pM) ∧ I' 57 = some (nI pA) ∧ SYT tx1 cN1 A1 I' R' ∧ RPV f n E tx1 (by2 f 8) I' R') ∨ (∃ (e : Nat × Nat) (I' : rI) (R' : rR), (s_whole f n = .inl e) ∧ v = some (.int 0) ∧ RS g m0 q z I' R' M' ∧ eqI [3, 8, 20, 47, 48, 50, 51, 52, 53, 54, 55, 56, 57] I I' ∧ eqR [1, 2, 4, 5, 6, 7, 21, 22] R R' ∧ I' 47 = some (nI e.1) ∧ I' 48 = some (nI e.2)))) ∧ (∀ (i p1 : Nat) (E : List (Nat × Nat)) (tx1 : List (List Nat)) (cN1 : Nat) (A1 : Nat → Nat) (M1 : mi_H) (I1 : rI) (R1 : rR), (RS g m0 q z I1 R1 M1) → (eqI [3, 8, 20, 47, 48, 50, 51, 52, 53, 54, 55, 56, 57] I I1) → (eqR [1, 2, 4, 5, 6, 7, 21, 22] R R1) → (I1 50 = some (nI (p1 + 8 + 2 * i))) → (I1 51 = some 0) → (I1 52 = some (nI (by2 f 8))) → (I1 53 = some (nI (by2 f 6))) → (I1 54 = some (nI p1)) → (FK n f I1 R1) → (SYT tx1 cN1 A1 I1 R1) → (RPV f n E tx1 (by2 f 8) I1 R1) → (s_head f n = (0, 0)) → (s_pool f n (by2 f 6) = .inr (p1, E)) → (tx.length ≤ tx1.length ∧ ∀ s, s < tx.length → tx1.getD s [] = tx.getD s []) → (i ≤ by2 f (p1 + 6) ∧ p1 + 8 + 2 * i ≤ n) → (s_two n (by2 f (p1 + 6) - i) (p1 + 8 + 2 * i) = s_class f n p1) →  pl (mT g) kf (mb_237 g).2 (237, [(0, .ref m0), (1, .int (nI (by2 f (p1 + 6)))), (2, .int (nI i))], [], M1) (fun v M' => (∃ (E : List (Nat × Nat)) (p1 pF pM pA : Nat) (tx1 : List (List Nat)) (cN1 : Nat) (A1 : Nat → Nat) (I' : rI) (R' : rR), (s_whole f n = .inr (E, p1, pF, pM, pA)) ∧ (tx.length ≤ tx1.length ∧ ∀ s, s < tx.length → tx1.getD s [] = tx.getD s []) ∧ (s_class f n p1 = .inr pF) ∧ (s_mbs f n pF = .inr pM) ∧ (s_mbs f n pM = .inr pA) ∧ (s_attributes f n pA = .inr n) ∧ v = some (.int 1) ∧ RS g m0 q z I' R' M' ∧ eqI [3, 8, 20, 47, 48, 50, 51, 52, 53, 54, 55, 56, 57] I I' ∧ eqR [1, 2, 4, 5, 6, 7, 21, 22] R R' ∧ I' 51 = some 0 ∧ I' 52 = some (nI (by2 f 8)) ∧ I' 53 = some (nI (by2 f 6)) ∧ I' 54 = some (nI p1) ∧ I' 55 = some (nI pF) ∧ I' 56 = some (nI pM) ∧ I' 57 = some (nI pA) ∧ SYT tx1 cN1 A1 I' R' ∧ RPV f n E tx1 (by2 f 8) I' R') ∨ (∃ (e : Nat × Nat) (I' : rI) (R' : rR), (s_whole f n = .inl e) ∧ v = some (.int 0) ∧ RS g m0 q z I' R' M' ∧ eqI [3, 8, 20, 47, 48, 50, 51, 52, 53, 54, 55, 56, 57] I I' ∧ eqR [1, 2, 4, 5, 6, 7, 21, 22] R R' ∧ I' 47 = some (nI e.1) ∧ I' 48 = some (nI e.2)))) := by
    intro kf
    induction kf with
    | zero => exact ⟨by intros; exact pl_0, by intros; exact pl_0⟩
    | succ kf ih =>
      refine ⟨?_, ?_⟩
      · skip
        intro k p1 E tx1 cN1 A1 M1 I1 R1 hR1 hEI1 hER1 hl50 hl51 hl52 hl53 hl54 hF1 hY1 hP1 hh hpl htx hk
        have hn := hF1.1
        refine ps_st1 (S' := (192, [(0, .ref m0), (1, .int (nI k))], [.int (nI k)], M1)) rfl rfl rfl ?_
        refine ps_st (S' := (193, [(0, .ref m0), (1, .int (nI k))], [.int 4, .int (nI k)], M1)) rfl rfl rfl ?_
        refine ps_if2 (S1 := (224, [(0, .ref m0), (1, .int (nI k))], [], M1)) (S2 := (196, [(0, .ref m0), (1, .int (nI k))], [], M1)) rfl rfl rfl (fun c_193 => ?_) (fun c_193 => ?_)
        · have c_193 : 4 ≤ (nI k) := of_decide_eq_true c_193
          have n_193 : 4 ≤ k := (le_nI (p := 4) (n := k) (by decide) (by omega)).mp c_193
          refine ps_st (S' := (225, [(0, .ref m0), (1, .int (nI k))], [.ref m0], M1)) rfl rfl rfl ?_
          refine ps_st (S' := (226, [(0, .ref m0), (1, .int (nI k))], [.ref m0, .ref m0], M1)) rfl rfl rfl ?_
          refine pr_int (j := 50) (S' := (229, [(0, .ref m0), (1, .int (nI k))], [.int (nI (p1 + 2 * k)), .ref m0], M1)) rfl hR1 rfl hl50 rfl ?_
          refine ps_st (S' := (230, [(0, .ref m0), (1, .int (nI k))], [.int 2, .int (nI (p1 + 2 * k)), .ref m0], M1)) rfl rfl rfl ?_
          refine ps_st (S' := (231, [(0, .ref m0), (1, .int (nI k))], [.int ((nI (p1 + 2 * k)) - 2), .ref m0], M1)) rfl rfl rfl ?_
          rw [nI_sub1 (p := p1 + 2 * k) (k := 2) (x := 2) rfl (by omega) (by omega)]
          show pl _ _ _ (_, [(0, .ref m0), (1, .int (nI k))], [.int (nI ((p1 + 2 * k) - 2)), .ref m0], M1) _
          refine pl_top (x := (nI ((p1 + 2 * k) - 2))) (y := (nI (p1 + 6))) (congrArg nI (by omega)) ?_
          refine pl_call (a := [.ref m0, .int (nI (p1 + 6))]) (rest := []) rfl rfl rfl (rd_u2 (n := n) (f := f) (p := (p1 + 6)) hR1 hF1 (by omega)) (fun v1 M2 q3 => ?_)
          obtain ⟨rfl, rfl⟩ := q3
          show pl _ _ _ (234, [(0, .ref m0), (1, .int (nI k))], [.int (nI (by2 f (p1 + 6)))], M1) _
          have hu_231 := by2_lt f (p1 + 6)
          refine ps_st (S' := (235, [(1, .int (nI (by2 f (p1 + 6)))), (0, .ref m0)], [], M1)) rfl rfl rfl ?_
          refine ps_st (S' := (236, [(1, .int (nI (by2 f (p1 + 6)))), (0, .ref m0)], [.int 0], M1)) rfl rfl rfl ?_
          refine ps_st (S' := (237, [(0, .ref m0), (1, .int (nI (by2 f (p1 + 6)))), (2, .int 0)], [], M1)) rfl rfl rfl ?_
          have hi4 := hl50.trans (congrArg (fun x => some (nI x)) (show p1 + 2 * k = p1 + 8 + 2 * 0 by omega))
          exact ih.2 (0) (p1) (E) (tx1) (cN1) (A1) M1 I1 R1 hR1 hEI1 hER1 hi4 hl51 hl52 hl53 hl54 hF1 hY1 hP1 (hh) (hpl) (htx) (by omega) (by
              unfold s_class
              rw [if_neg (by omega), if_neg (by omega), if_neg (by omega), if_neg (by omega)]
              rfl)
        · have c_193 : ¬ (4 ≤ (nI k)) := of_decide_eq_false c_193
          have n_193 : ¬ (4 ≤ k) := fun h9 => c_193 ((le_nI (p := 4) (n := k) (by decide) (by omega)).mpr h9)
          refine ps_st (S' := (197, [(0, .ref m0), (1, .int (nI k))], [.ref m0], M1)) rfl rfl rfl ?_
          refine ps_st (S' := (200, [(0, .ref m0), (1, .int (nI k))], [.long 2, .ref m0], M1)) rfl rfl rfl ?_
          refine pl_call (a := [.ref m0, .long 2]) (rest := []) rfl rfl rfl (rd_item (n := n) (f := f) (p := (p1 + 2 * k)) (k := 2) hR1 hl50 hF1 (by omega) (by decide)) (fun v5 M6 q7 => ?_)
          rcases q7 with q7 | q7
          · skip
            obtain ⟨I8, R9, q200_s, rfl, hR10, hI11, hX12⟩ := q7
            have hi13 := (hI11 50 (by decide)).trans hl50
            have hi14 := (hI11 51 (by decide)).trans hl51
            have hi15 := (hI11 52 (by decide)).trans hl52
            have hi16 := (hI11 53 (by decide)).trans hl53
            have hi17 := (hI11 54 (by decide)).trans hl54
            have hF_18 := hF1.mono (cIx hI11 (by decide)) (cRx hX12 (by decide))
            have hY_19 := hY1.mono (cIx hI11 (by decide)) (cRx hX12 (by decide))
            have hP_20 := hP1.mono (cIx hI11 (by decide)) (cRx hX12 (by decide))
            have hEI21 := hEI1.tr hI11 (by decide)
            have hER22 := hER1.tr hX12 (by decide)
            show pl _ _ _ (203, [(0, .ref m0), (1, .int (nI k))], [.int 1], M6) _
            refine ps_if (S1 := (208, [(0, .ref m0), (1, .int (nI k))], [], M6)) (S2 := (206, [(0, .ref m0), (1, .int (nI k))], [], M6)) rfl rfl rfl (fun c_203 => ?_) (fun c_203 => ?_)
            rotate_left
            · exact absurd (by decide) (of_decide_eq_false c_203)
            refine ps_st (S' := (209, [(0, .ref m0), (1, .int (nI k))], [.ref m0], M6)) rfl rfl rfl ?_
            refine ps_st (S' := (210, [(0, .ref m0), (1, .int (nI k))], [.ref m0, .ref m0], M6)) rfl rfl rfl ?_
            refine pr_int (j := 50) (S' := (213, [(0, .ref m0), (1, .int (nI k))], [.int (nI (p1 + 2 * k)), .ref m0], M6)) rfl hR10 rfl hi13 rfl ?_
            refine ps_st (S' := (214, [(0, .ref m0), (1, .int (nI k))], [.int 2, .int (nI (p1 + 2 * k)), .ref m0], M6)) rfl rfl rfl ?_
            refine ps_st (S' := (215, [(0, .ref m0), (1, .int (nI k))], [.int ((nI (p1 + 2 * k)) + 2), .ref m0], M6)) rfl rfl rfl ?_
            rw [nI_add1 (p := p1 + 2 * k) (k := 2) (x := 2) rfl (by omega)]
            show pl _ _ _ (_, [(0, .ref m0), (1, .int (nI k))], [.int (nI (p1 + 2 * k + 2)), .ref m0], M6) _
            refine pr_put (j := 50) rfl hR10 rfl (fun M23 I24 hR25 hi26 hI27 => ?_)
            have hi28 := (hI27 51 (by decide)).trans hi14
            have hi29 := (hI27 52 (by decide)).trans hi15
            have hi30 := (hI27 53 (by decide)).trans hi16
            have hi31 := (hI27 54 (by decide)).trans hi17
            have hF_32 := hF_18.mono (pIx hI27 (by decide)) (fun _ _ => rfl)
            have hY_33 := hY_19.mono (pIx hI27 (by decide)) (fun _ _ => rfl)
            have hP_34 := hP_20.mono (pIx hI27 (by decide)) (fun _ _ => rfl)
            have hEI35 := hEI21.put hI27 (by decide)
            show pl _ _ _ (218, [(0, .ref m0), (1, .int (nI k))], [], M23) _
            refine ps_st (S' := (221, [(1, .int ((nI k) + 1)), (0, .ref m0)], [], M23)) rfl rfl rfl ?_
            rw [nI_add1 (p := k) (k := 1) (x := 1) rfl (by omega)]
            show pl _ _ _ (_, [(1, .int (nI (k + 1))), (0, .ref m0)], [], M23) _
            refine ps_st (S' := (191, [(0, .ref m0), (1, .int (nI (k + 1)))], [], M23)) rfl rfl rfl ?_
            exact ih.1 (k + 1) (p1) (E) (tx1) (cN1) (A1) M23 I24 R9 hR25 hEI35 hER22 hi26 hi28 hi29 hi30 hi31 hF_32 hY_33 hP_34 (hh) (hpl) (htx) (by omega)
          · skip
            obtain ⟨I36, R37, q200_s, rfl, hR38, hI39, hX40, hi41, hi42⟩ := q7
            have hi43 := (hI39 50 (by decide)).trans hl50
            have hi44 := (hI39 51 (by decide)).trans hl51
            have hi45 := (hI39 52 (by decide)).trans hl52
            have hi46 := (hI39 53 (by decide)).trans hl53
            have hi47 := (hI39 54 (by decide)).trans hl54
            have hF_48 := hF1.mono (cIx hI39 (by decide)) (cRx hX40 (by decide))
            have hY_49 := hY1.mono (cIx hI39 (by decide)) (cRx hX40 (by decide))
            have hP_50 := hP1.mono (cIx hI39 (by decide)) (cRx hX40 (by decide))
            have hEI51 := hEI1.tr hI39 (by decide)
            have hER52 := hER1.tr hX40 (by decide)
            show pl _ _ _ (203, [(0, .ref m0), (1, .int (nI k))], [.int 0], M6) _
            refine ps_if (S1 := (208, [(0, .ref m0), (1, .int (nI k))], [], M6)) (S2 := (206, [(0, .ref m0), (1, .int (nI k))], [], M6)) rfl rfl rfl (fun c_203 => ?_) (fun c_203 => ?_)
            · exact absurd (of_decide_eq_true c_203) (by decide)
            refine ps_st (S' := (207, [(0, .ref m0), (1, .int (nI k))], [.int 0], M6)) rfl rfl rfl ?_
            exact ps_ret rfl rfl (Or.inr ⟨(1, p1 + 2 * k), I36, R37, by
                unfold s_whole
                rw [hh, if_neg (fun h => h rfl)]
                rw [hpl]
                dsimp only
                rw [s_class_bad (j := k) (by omega) (by omega) (by omega)], rfl, hR38, hEI51, hER52, hi41, hi42⟩)
      · skip
        intro i p1 E tx1 cN1 A1 M1 I1 R1 hR1 hEI1 hER1 hl50 hl51 hl52 hl53 hl54 hF1 hY1 hP1 hh hpl htx hi hs
        have hn := hF1.1
        have hu9 := by2_lt f (p1 + 6)
        refine ps_st1 (S' := (238, [(0, .ref m0), (1, .int (nI (by2 f (p1 + 6)))), (2, .int (nI i))], [.int (nI i)], M1)) rfl rfl rfl ?_
        refine ps_st (S' := (239, [(0, .ref m0), (1, .int (nI (by2 f (p1 + 6)))), (2, .int (nI i))], [.int (nI (by2 f (p1 + 6))), .int (nI i)], M1)) rfl rfl rfl ?_
        refine ps_if2 (S1 := (270, [(0, .ref m0), (1, .int (nI (by2 f (p1 + 6)))), (2, .int (nI i))], [], M1)) (S2 := (242, [(0, .ref m0), (1, .int (nI (by2 f (p1 + 6)))), (2, .int (nI i))], [], M1)) rfl rfl rfl (fun c_239 => ?_) (fun c_239 => ?_)
        · have c_239 : (nI (by2 f (p1 + 6))) ≤ (nI i) := of_decide_eq_true c_239
          have n_239 : by2 f (p1 + 6) ≤ i := (le_nI (p := by2 f (p1 + 6)) (n := i) (Nat.lt_trans (by2_lt _ _) (by decide)) (by omega)).mp c_239
          have hcl : s_class f n p1 = .inr (p1 + 8 + 2 * i) := by
            rw [← hs, show by2 f (p1 + 6) - i = 0 by omega]
            rfl
          refine ps_st (S' := (271, [(0, .ref m0), (1, .int (nI (by2 f (p1 + 6)))), (2, .int (nI i))], [.ref m0], M1)) rfl rfl rfl ?_
          refine ps_st (S' := (272, [(0, .ref m0), (1, .int (nI (by2 f (p1 + 6)))), (2, .int (nI i))], [.ref m0, .ref m0], M1)) rfl rfl rfl ?_
          refine pr_int (j := 50) (S' := (275, [(0, .ref m0), (1, .int (nI (by2 f (p1 + 6)))), (2, .int (nI i))], [.int (nI (p1 + 8 + 2 * i)), .ref m0], M1)) rfl hR1 rfl hl50 rfl ?_
          refine pr_put (j := 55) rfl hR1 rfl (fun M53 I54 hR55 hi56 hI57 => ?_)
          have hi58 := (hI57 50 (by decide)).trans hl50
          have hi59 := (hI57 51 (by decide)).trans hl51
          have hi60 := (hI57 52 (by decide)).trans hl52
          have hi61 := (hI57 53 (by decide)).trans hl53
          have hi62 := (hI57 54 (by decide)).trans hl54
          have hF_63 := hF1.mono (pIx hI57 (by decide)) (fun _ _ => rfl)
          have hY_64 := hY1.mono (pIx hI57 (by decide)) (fun _ _ => rfl)
          have hP_65 := hP1.mono (pIx hI57 (by decide)) (fun _ _ => rfl)
          have hEI66 := hEI1.put hI57 (by decide)
          show pl _ _ _ (278, [(0, .ref m0), (1, .int (nI (by2 f (p1 + 6)))), (2, .int (nI i))], [], M53) _
          refine ps_st (S' := (279, [(0, .ref m0), (1, .int (nI (by2 f (p1 + 6)))), (2, .int (nI i))], [.ref m0], M53)) rfl rfl rfl ?_
          refine pl_call (a := [.ref m0]) (rest := []) rfl rfl rfl (rd_members (n := n) (f := f) (p := (p1 + 8 + 2 * i)) hR55 hi58 hF_63 (by omega)) (fun v67 M68 q69 => ?_)
          rcases q69 with q69 | q69
          · skip
            obtain ⟨p'70, I71, R72, q279_s, rfl, hR73, hI74, hX75, hi76⟩ := q69
            have hi77 := (hI74 51 (by decide)).trans hi59
            have hi78 := (hI74 52 (by decide)).trans hi60
            have hi79 := (hI74 53 (by decide)).trans hi61
            have hi80 := (hI74 54 (by decide)).trans hi62
            have hi81 := (hI74 55 (by decide)).trans hi56
            have hF_82 := hF_63.mono (cIx hI74 (by decide)) (cRx hX75 (by decide))
            have hY_83 := hY_64.mono (cIx hI74 (by decide)) (cRx hX75 (by decide))
            have hP_84 := hP_65.mono (cIx hI74 (by decide)) (cRx hX75 (by decide))
            have hEI85 := hEI66.tr hI74 (by decide)
            have hER86 := hER1.tr hX75 (by decide)
            show pl _ _ _ (282, [(0, .ref m0), (1, .int (nI (by2 f (p1 + 6)))), (2, .int (nI i))], [.int 1], M68) _
            have hle_279 := s_mbs_le q279_s
            refine ps_if (S1 := (287, [(0, .ref m0), (1, .int (nI (by2 f (p1 + 6)))), (2, .int (nI i))], [], M68)) (S2 := (285, [(0, .ref m0), (1, .int (nI (by2 f (p1 + 6)))), (2, .int (nI i))], [], M68)) rfl rfl rfl (fun c_282 => ?_) (fun c_282 => ?_)
            rotate_left
            · exact absurd (by decide) (of_decide_eq_false c_282)
            refine ps_st (S' := (288, [(0, .ref m0), (1, .int (nI (by2 f (p1 + 6)))), (2, .int (nI i))], [.ref m0], M68)) rfl rfl rfl ?_
            refine ps_st (S' := (289, [(0, .ref m0), (1, .int (nI (by2 f (p1 + 6)))), (2, .int (nI i))], [.ref m0, .ref m0], M68)) rfl rfl rfl ?_
            refine pr_int (j := 50) (S' := (292, [(0, .ref m0), (1, .int (nI (by2 f (p1 + 6)))), (2, .int (nI i))], [.int (nI p'70), .ref m0], M68)) rfl hR73 rfl hi76 rfl ?_
            refine pr_put (j := 56) rfl hR73 rfl (fun M87 I88 hR89 hi90 hI91 => ?_)
            have hi92 := (hI91 51 (by decide)).trans hi77
            have hi93 := (hI91 52 (by decide)).trans hi78
            have hi94 := (hI91 53 (by decide)).trans hi79
            have hi95 := (hI91 54 (by decide)).trans hi80
            have hi96 := (hI91 55 (by decide)).trans hi81
            have hi97 := (hI91 50 (by decide)).trans hi76
            have hF_98 := hF_82.mono (pIx hI91 (by decide)) (fun _ _ => rfl)
            have hY_99 := hY_83.mono (pIx hI91 (by decide)) (fun _ _ => rfl)
            have hP_100 := hP_84.mono (pIx hI91 (by decide)) (fun _ _ => rfl)
            have hEI101 := hEI85.put hI91 (by decide)
            show pl _ _ _ (295, [(0, .ref m0), (1, .int (nI (by2 f (p1 + 6)))), (2, .int (nI i))], [], M87) _
            refine ps_st (S' := (296, [(0, .ref m0), (1, .int (nI (by2 f (p1 + 6)))), (2, .int (nI i))], [.ref m0], M87)) rfl rfl rfl ?_
            refine pl_call (a := [.ref m0]) (rest := []) rfl rfl rfl (rd_members (n := n) (f := f) (p := (p'70)) hR89 hi97 hF_98 (by omega)) (fun v102 M103 q104 => ?_)
            rcases q104 with q104 | q104
            · skip
              obtain ⟨p'105, I106, R107, q296_s, rfl, hR108, hI109, hX110, hi111⟩ := q104
              have hi112 := (hI109 51 (by decide)).trans hi92
              have hi113 := (hI109 52 (by decide)).trans hi93
              have hi114 := (hI109 53 (by decide)).trans hi94
              have hi115 := (hI109 54 (by decide)).trans hi95
              have hi116 := (hI109 55 (by decide)).trans hi96
              have hi117 := (hI109 56 (by decide)).trans hi90
              have hF_118 := hF_98.mono (cIx hI109 (by decide)) (cRx hX110 (by decide))
              have hY_119 := hY_99.mono (cIx hI109 (by decide)) (cRx hX110 (by decide))
              have hP_120 := hP_100.mono (cIx hI109 (by decide)) (cRx hX110 (by decide))
              have hEI121 := hEI101.tr hI109 (by decide)
              have hER122 := hER86.tr hX110 (by decide)
              show pl _ _ _ (299, [(0, .ref m0), (1, .int (nI (by2 f (p1 + 6)))), (2, .int (nI i))], [.int 1], M103) _
              have hle_296 := s_mbs_le q296_s
              refine ps_if (S1 := (304, [(0, .ref m0), (1, .int (nI (by2 f (p1 + 6)))), (2, .int (nI i))], [], M103)) (S2 := (302, [(0, .ref m0), (1, .int (nI (by2 f (p1 + 6)))), (2, .int (nI i))], [], M103)) rfl rfl rfl (fun c_299 => ?_) (fun c_299 => ?_)
              rotate_left
              · exact absurd (by decide) (of_decide_eq_false c_299)
              refine ps_st (S' := (305, [(0, .ref m0), (1, .int (nI (by2 f (p1 + 6)))), (2, .int (nI i))], [.ref m0], M103)) rfl rfl rfl ?_
              refine ps_st (S' := (306, [(0, .ref m0), (1, .int (nI (by2 f (p1 + 6)))), (2, .int (nI i))], [.ref m0, .ref m0], M103)) rfl rfl rfl ?_
              refine pr_int (j := 50) (S' := (309, [(0, .ref m0), (1, .int (nI (by2 f (p1 + 6)))), (2, .int (nI i))], [.int (nI p'105), .ref m0], M103)) rfl hR108 rfl hi111 rfl ?_
              refine pr_put (j := 57) rfl hR108 rfl (fun M123 I124 hR125 hi126 hI127 => ?_)
              have hi128 := (hI127 51 (by decide)).trans hi112
              have hi129 := (hI127 52 (by decide)).trans hi113
              have hi130 := (hI127 53 (by decide)).trans hi114
              have hi131 := (hI127 54 (by decide)).trans hi115
              have hi132 := (hI127 55 (by decide)).trans hi116
              have hi133 := (hI127 56 (by decide)).trans hi117
              have hi134 := (hI127 50 (by decide)).trans hi111
              have hF_135 := hF_118.mono (pIx hI127 (by decide)) (fun _ _ => rfl)
              have hY_136 := hY_119.mono (pIx hI127 (by decide)) (fun _ _ => rfl)
              have hP_137 := hP_120.mono (pIx hI127 (by decide)) (fun _ _ => rfl)
              have hEI138 := hEI121.put hI127 (by decide)
              show pl _ _ _ (312, [(0, .ref m0), (1, .int (nI (by2 f (p1 + 6)))), (2, .int (nI i))], [], M123) _
              refine ps_st (S' := (313, [(0, .ref m0), (1, .int (nI (by2 f (p1 + 6)))), (2, .int (nI i))], [.ref m0], M123)) rfl rfl rfl ?_
              refine pl_call (a := [.ref m0]) (rest := []) rfl rfl rfl (rd_attributes (n := n) (f := f) (p := (p'105)) hR125 hi134 hF_135 (by omega)) (fun v139 M140 q141 => ?_)
              rcases q141 with q141 | q141
              · skip
                obtain ⟨p'142, I143, R144, q313_s, rfl, hR145, hI146, hX147, hi148⟩ := q141
                have hi149 := (hI146 51 (by decide)).trans hi128
                have hi150 := (hI146 52 (by decide)).trans hi129
                have hi151 := (hI146 53 (by decide)).trans hi130
                have hi152 := (hI146 54 (by decide)).trans hi131
                have hi153 := (hI146 55 (by decide)).trans hi132
                have hi154 := (hI146 56 (by decide)).trans hi133
                have hi155 := (hI146 57 (by decide)).trans hi126
                have hF_156 := hF_135.mono (cIx hI146 (by decide)) (cRx hX147 (by decide))
                have hY_157 := hY_136.mono (cIx hI146 (by decide)) (cRx hX147 (by decide))
                have hP_158 := hP_137.mono (cIx hI146 (by decide)) (cRx hX147 (by decide))
                have hEI159 := hEI138.tr hI146 (by decide)
                have hER160 := hER122.tr hX147 (by decide)
                show pl _ _ _ (316, [(0, .ref m0), (1, .int (nI (by2 f (p1 + 6)))), (2, .int (nI i))], [.int 1], M140) _
                have hle_313 := s_attributes_le2 q313_s
                refine ps_if (S1 := (321, [(0, .ref m0), (1, .int (nI (by2 f (p1 + 6)))), (2, .int (nI i))], [], M140)) (S2 := (319, [(0, .ref m0), (1, .int (nI (by2 f (p1 + 6)))), (2, .int (nI i))], [], M140)) rfl rfl rfl (fun c_316 => ?_) (fun c_316 => ?_)
                rotate_left
                · exact absurd (by decide) (of_decide_eq_false c_316)
                refine ps_st (S' := (322, [(0, .ref m0), (1, .int (nI (by2 f (p1 + 6)))), (2, .int (nI i))], [.ref m0], M140)) rfl rfl rfl ?_
                refine pr_int (j := 50) (S' := (325, [(0, .ref m0), (1, .int (nI (by2 f (p1 + 6)))), (2, .int (nI i))], [.int (nI p'142)], M140)) rfl hR145 rfl hi148 rfl ?_
                refine ps_st (S' := (326, [(0, .ref m0), (1, .int (nI (by2 f (p1 + 6)))), (2, .int (nI i))], [.ref m0, .int (nI p'142)], M140)) rfl rfl rfl ?_
                refine pr_int (j := 16) (S' := (329, [(0, .ref m0), (1, .int (nI (by2 f (p1 + 6)))), (2, .int (nI i))], [.int (nI n), .int (nI p'142)], M140)) rfl hR145 rfl hF_156.2.2.1 rfl ?_
                refine ps_if2 (S1 := (345, [], [], M140)) (S2 := (332, [(0, .ref m0), (1, .int (nI (by2 f (p1 + 6)))), (2, .int (nI i))], [], M140)) rfl rfl rfl (fun c_329 => ?_) (fun c_329 => ?_)
                · have c_329 : (nI p'142) = (nI n) := of_decide_eq_true c_329
                  have n_329 : p'142 = n := (eq_nI (p := p'142) (n := n) (by omega) (by omega)).mp c_329
                  refine ps_st (S' := (346, [], [.int 1], M140)) rfl rfl rfl ?_
                  refine ps_st (S' := (350, [], [.int 1], M140)) rfl rfl rfl ?_
                  exact ps_ret rfl rfl (Or.inl ⟨E, p1, p1 + 8 + 2 * i, p'70, p'105, tx1, cN1, A1, I143, R144, by
                      unfold s_whole
                      rw [hh, if_neg (fun h => h rfl), hpl]
                      dsimp only
                      rw [hcl]
                      dsimp only
                      rw [q279_s]
                      dsimp only
                      rw [q296_s]
                      dsimp only
                      rw [show s_end f n p'105 = none by unfold s_end; rw [q313_s]; dsimp only; rw [if_pos n_329]], htx, hcl, q279_s, q296_s, by rw [q313_s, n_329], rfl, hR145, hEI159, hER160, hi149, hi150, hi151, hi152, hi153, hi154, hi155, hY_157, hP_158⟩)
                · have c_329 : ¬ ((nI p'142) = (nI n)) := of_decide_eq_false c_329
                  have n_329 : ¬ (p'142 = n) := fun h9 => c_329 ((eq_nI (p := p'142) (n := n) (by omega) (by omega)).mpr h9)
                  refine ps_st (S' := (333, [(0, .ref m0), (1, .int (nI (by2 f (p1 + 6)))), (2, .int (nI i))], [.ref m0], M140)) rfl rfl rfl ?_
                  refine ps_st (S' := (335, [(0, .ref m0), (1, .int (nI (by2 f (p1 + 6)))), (2, .int (nI i))], [.int 8, .ref m0], M140)) rfl rfl rfl ?_
                  refine ps_st (S' := (336, [(0, .ref m0), (1, .int (nI (by2 f (p1 + 6)))), (2, .int (nI i))], [.ref m0, .int 8, .ref m0], M140)) rfl rfl rfl ?_
                  refine pr_int (j := 50) (S' := (339, [(0, .ref m0), (1, .int (nI (by2 f (p1 + 6)))), (2, .int (nI i))], [.int (nI p'142), .int 8, .ref m0], M140)) rfl hR145 rfl hi148 rfl ?_
                  refine pl_call (a := [.ref m0, .int 8, .int (nI p'142)]) (rest := []) rfl rfl rfl (rd_wrong (x1 := 8) (x2 := (nI p'142)) hR145) (fun v161 M162 q163 => ?_)
                  obtain ⟨I164, R165, rfl, hR166, hI167, hX168, hi169, hi170⟩ := q163
                  have hi171 := (hI167 51 (by decide)).trans hi149
                  have hi172 := (hI167 52 (by decide)).trans hi150
                  have hi173 := (hI167 53 (by decide)).trans hi151
                  have hi174 := (hI167 54 (by decide)).trans hi152
                  have hi175 := (hI167 55 (by decide)).trans hi153
                  have hi176 := (hI167 56 (by decide)).trans hi154
                  have hi177 := (hI167 57 (by decide)).trans hi155
                  have hi178 := (hI167 50 (by decide)).trans hi148
                  have hi179 := (hI167 16 (by decide)).trans hF_156.2.2.1
                  have hF_180 := hF_156.mono (cIx hI167 (by decide)) (cRx hX168 (by decide))
                  have hY_181 := hY_157.mono (cIx hI167 (by decide)) (cRx hX168 (by decide))
                  have hP_182 := hP_158.mono (cIx hI167 (by decide)) (cRx hX168 (by decide))
                  have hEI183 := hEI159.tr hI167 (by decide)
                  have hER184 := hER160.tr hX168 (by decide)
                  show pl _ _ _ (342, [(0, .ref m0), (1, .int (nI (by2 f (p1 + 6)))), (2, .int (nI i))], [.int 0], M162) _
                  refine ps_if (S1 := (349, [(0, .ref m0), (1, .int (nI (by2 f (p1 + 6)))), (2, .int (nI i))], [], M162)) (S2 := (345, [], [], M162)) rfl rfl rfl (fun c_342 => ?_) (fun c_342 => ?_)
                  rotate_left
                  · exact absurd (by decide) (of_decide_eq_false c_342)
                  refine ps_st (S' := (350, [], [.int 0], M162)) rfl rfl rfl ?_
                  exact ps_ret rfl rfl (Or.inr ⟨(8, p'142), I164, R165, by
                      unfold s_whole
                      rw [hh, if_neg (fun h => h rfl)]
                      rw [hpl]
                      dsimp only
                      rw [hcl]
                      dsimp only
                      rw [q279_s]
                      dsimp only
                      rw [q296_s]
                      dsimp only
                      rw [show s_end f n p'105 = some (8, p'142) by unfold s_end; rw [q313_s]; dsimp only; rw [if_neg n_329]], rfl, hR166, hEI183, hER184, hi169, hi170⟩)
              · skip
                obtain ⟨e185, I186, R187, q313_s, rfl, hR188, hI189, hX190, hi191, hi192⟩ := q141
                have hi193 := (hI189 51 (by decide)).trans hi128
                have hi194 := (hI189 52 (by decide)).trans hi129
                have hi195 := (hI189 53 (by decide)).trans hi130
                have hi196 := (hI189 54 (by decide)).trans hi131
                have hi197 := (hI189 55 (by decide)).trans hi132
                have hi198 := (hI189 56 (by decide)).trans hi133
                have hi199 := (hI189 57 (by decide)).trans hi126
                have hF_200 := hF_135.mono (cIx hI189 (by decide)) (cRx hX190 (by decide))
                have hY_201 := hY_136.mono (cIx hI189 (by decide)) (cRx hX190 (by decide))
                have hP_202 := hP_137.mono (cIx hI189 (by decide)) (cRx hX190 (by decide))
                have hEI203 := hEI138.tr hI189 (by decide)
                have hER204 := hER122.tr hX190 (by decide)
                show pl _ _ _ (316, [(0, .ref m0), (1, .int (nI (by2 f (p1 + 6)))), (2, .int (nI i))], [.int 0], M140) _
                refine ps_if (S1 := (321, [(0, .ref m0), (1, .int (nI (by2 f (p1 + 6)))), (2, .int (nI i))], [], M140)) (S2 := (319, [(0, .ref m0), (1, .int (nI (by2 f (p1 + 6)))), (2, .int (nI i))], [], M140)) rfl rfl rfl (fun c_316 => ?_) (fun c_316 => ?_)
                · exact absurd (of_decide_eq_true c_316) (by decide)
                refine ps_st (S' := (320, [(0, .ref m0), (1, .int (nI (by2 f (p1 + 6)))), (2, .int (nI i))], [.int 0], M140)) rfl rfl rfl ?_
                exact ps_ret rfl rfl (Or.inr ⟨e185, I186, R187, by
                    unfold s_whole
                    rw [hh, if_neg (fun h => h rfl)]
                    rw [hpl]
                    dsimp only
                    rw [hcl]
                    dsimp only
                    rw [q279_s]
                    dsimp only
                    rw [q296_s]
                    dsimp only
                    rw [show s_end f n p'105 = some e185 by unfold s_end; rw [q313_s]], rfl, hR188, hEI203, hER204, hi191, hi192⟩)
            · skip
              obtain ⟨e205, I206, R207, q296_s, rfl, hR208, hI209, hX210, hi211, hi212⟩ := q104
              have hi213 := (hI209 51 (by decide)).trans hi92
              have hi214 := (hI209 52 (by decide)).trans hi93
              have hi215 := (hI209 53 (by decide)).trans hi94
              have hi216 := (hI209 54 (by decide)).trans hi95
              have hi217 := (hI209 55 (by decide)).trans hi96
              have hi218 := (hI209 56 (by decide)).trans hi90
              have hF_219 := hF_98.mono (cIx hI209 (by decide)) (cRx hX210 (by decide))
              have hY_220 := hY_99.mono (cIx hI209 (by decide)) (cRx hX210 (by decide))
              have hP_221 := hP_100.mono (cIx hI209 (by decide)) (cRx hX210 (by decide))
              have hEI222 := hEI101.tr hI209 (by decide)
              have hER223 := hER86.tr hX210 (by decide)
              show pl _ _ _ (299, [(0, .ref m0), (1, .int (nI (by2 f (p1 + 6)))), (2, .int (nI i))], [.int 0], M103) _
              refine ps_if (S1 := (304, [(0, .ref m0), (1, .int (nI (by2 f (p1 + 6)))), (2, .int (nI i))], [], M103)) (S2 := (302, [(0, .ref m0), (1, .int (nI (by2 f (p1 + 6)))), (2, .int (nI i))], [], M103)) rfl rfl rfl (fun c_299 => ?_) (fun c_299 => ?_)
              · exact absurd (of_decide_eq_true c_299) (by decide)
              refine ps_st (S' := (303, [(0, .ref m0), (1, .int (nI (by2 f (p1 + 6)))), (2, .int (nI i))], [.int 0], M103)) rfl rfl rfl ?_
              exact ps_ret rfl rfl (Or.inr ⟨e205, I206, R207, by
                  unfold s_whole
                  rw [hh, if_neg (fun h => h rfl)]
                  rw [hpl]
                  dsimp only
                  rw [hcl]
                  dsimp only
                  rw [q279_s]
                  dsimp only
                  rw [q296_s], rfl, hR208, hEI222, hER223, hi211, hi212⟩)
          · skip
            obtain ⟨e224, I225, R226, q279_s, rfl, hR227, hI228, hX229, hi230, hi231⟩ := q69
            have hi232 := (hI228 51 (by decide)).trans hi59
            have hi233 := (hI228 52 (by decide)).trans hi60
            have hi234 := (hI228 53 (by decide)).trans hi61
            have hi235 := (hI228 54 (by decide)).trans hi62
            have hi236 := (hI228 55 (by decide)).trans hi56
            have hF_237 := hF_63.mono (cIx hI228 (by decide)) (cRx hX229 (by decide))
            have hY_238 := hY_64.mono (cIx hI228 (by decide)) (cRx hX229 (by decide))
            have hP_239 := hP_65.mono (cIx hI228 (by decide)) (cRx hX229 (by decide))
            have hEI240 := hEI66.tr hI228 (by decide)
            have hER241 := hER1.tr hX229 (by decide)
            show pl _ _ _ (282, [(0, .ref m0), (1, .int (nI (by2 f (p1 + 6)))), (2, .int (nI i))], [.int 0], M68) _
            refine ps_if (S1 := (287, [(0, .ref m0), (1, .int (nI (by2 f (p1 + 6)))), (2, .int (nI i))], [], M68)) (S2 := (285, [(0, .ref m0), (1, .int (nI (by2 f (p1 + 6)))), (2, .int (nI i))], [], M68)) rfl rfl rfl (fun c_282 => ?_) (fun c_282 => ?_)
            · exact absurd (of_decide_eq_true c_282) (by decide)
            refine ps_st (S' := (286, [(0, .ref m0), (1, .int (nI (by2 f (p1 + 6)))), (2, .int (nI i))], [.int 0], M68)) rfl rfl rfl ?_
            exact ps_ret rfl rfl (Or.inr ⟨e224, I225, R226, by
                unfold s_whole
                rw [hh, if_neg (fun h => h rfl)]
                rw [hpl]
                dsimp only
                rw [hcl]
                dsimp only
                rw [q279_s], rfl, hR227, hEI240, hER241, hi230, hi231⟩)
        · have c_239 : ¬ ((nI (by2 f (p1 + 6))) ≤ (nI i)) := of_decide_eq_false c_239
          have n_239 : ¬ (by2 f (p1 + 6) ≤ i) := fun h9 => c_239 ((le_nI (p := by2 f (p1 + 6)) (n := i) (Nat.lt_trans (by2_lt _ _) (by decide)) (by omega)).mpr h9)
          refine ps_st (S' := (243, [(0, .ref m0), (1, .int (nI (by2 f (p1 + 6)))), (2, .int (nI i))], [.ref m0], M1)) rfl rfl rfl ?_
          refine ps_st (S' := (246, [(0, .ref m0), (1, .int (nI (by2 f (p1 + 6)))), (2, .int (nI i))], [.long 2, .ref m0], M1)) rfl rfl rfl ?_
          refine pl_call (a := [.ref m0, .long 2]) (rest := []) rfl rfl rfl (rd_item (n := n) (f := f) (p := (p1 + 8 + 2 * i)) (k := 2) hR1 hl50 hF1 (by omega) (by decide)) (fun v242 M243 q244 => ?_)
          rcases q244 with q244 | q244
          · skip
            obtain ⟨I245, R246, q246_s, rfl, hR247, hI248, hX249⟩ := q244
            have hi250 := (hI248 50 (by decide)).trans hl50
            have hi251 := (hI248 51 (by decide)).trans hl51
            have hi252 := (hI248 52 (by decide)).trans hl52
            have hi253 := (hI248 53 (by decide)).trans hl53
            have hi254 := (hI248 54 (by decide)).trans hl54
            have hF_255 := hF1.mono (cIx hI248 (by decide)) (cRx hX249 (by decide))
            have hY_256 := hY1.mono (cIx hI248 (by decide)) (cRx hX249 (by decide))
            have hP_257 := hP1.mono (cIx hI248 (by decide)) (cRx hX249 (by decide))
            have hEI258 := hEI1.tr hI248 (by decide)
            have hER259 := hER1.tr hX249 (by decide)
            show pl _ _ _ (249, [(0, .ref m0), (1, .int (nI (by2 f (p1 + 6)))), (2, .int (nI i))], [.int 1], M243) _
            refine ps_if (S1 := (254, [(0, .ref m0), (1, .int (nI (by2 f (p1 + 6)))), (2, .int (nI i))], [], M243)) (S2 := (252, [(0, .ref m0), (1, .int (nI (by2 f (p1 + 6)))), (2, .int (nI i))], [], M243)) rfl rfl rfl (fun c_249 => ?_) (fun c_249 => ?_)
            rotate_left
            · exact absurd (by decide) (of_decide_eq_false c_249)
            refine ps_st (S' := (255, [(0, .ref m0), (1, .int (nI (by2 f (p1 + 6)))), (2, .int (nI i))], [.ref m0], M243)) rfl rfl rfl ?_
            refine ps_st (S' := (256, [(0, .ref m0), (1, .int (nI (by2 f (p1 + 6)))), (2, .int (nI i))], [.ref m0, .ref m0], M243)) rfl rfl rfl ?_
            refine pr_int (j := 50) (S' := (259, [(0, .ref m0), (1, .int (nI (by2 f (p1 + 6)))), (2, .int (nI i))], [.int (nI (p1 + 8 + 2 * i)), .ref m0], M243)) rfl hR247 rfl hi250 rfl ?_
            refine ps_st (S' := (260, [(0, .ref m0), (1, .int (nI (by2 f (p1 + 6)))), (2, .int (nI i))], [.int 2, .int (nI (p1 + 8 + 2 * i)), .ref m0], M243)) rfl rfl rfl ?_
            refine ps_st (S' := (261, [(0, .ref m0), (1, .int (nI (by2 f (p1 + 6)))), (2, .int (nI i))], [.int ((nI (p1 + 8 + 2 * i)) + 2), .ref m0], M243)) rfl rfl rfl ?_
            rw [nI_add1 (p := p1 + 8 + 2 * i) (k := 2) (x := 2) rfl (by omega)]
            show pl _ _ _ (_, [(0, .ref m0), (1, .int (nI (by2 f (p1 + 6)))), (2, .int (nI i))], [.int (nI (p1 + 8 + 2 * i + 2)), .ref m0], M243) _
            refine pr_put (j := 50) rfl hR247 rfl (fun M260 I261 hR262 hi263 hI264 => ?_)
            have hi265 := (hI264 51 (by decide)).trans hi251
            have hi266 := (hI264 52 (by decide)).trans hi252
            have hi267 := (hI264 53 (by decide)).trans hi253
            have hi268 := (hI264 54 (by decide)).trans hi254
            have hF_269 := hF_255.mono (pIx hI264 (by decide)) (fun _ _ => rfl)
            have hY_270 := hY_256.mono (pIx hI264 (by decide)) (fun _ _ => rfl)
            have hP_271 := hP_257.mono (pIx hI264 (by decide)) (fun _ _ => rfl)
            have hEI272 := hEI258.put hI264 (by decide)
            show pl _ _ _ (264, [(0, .ref m0), (1, .int (nI (by2 f (p1 + 6)))), (2, .int (nI i))], [], M260) _
            refine ps_st (S' := (267, [(2, .int ((nI i) + 1)), (0, .ref m0), (1, .int (nI (by2 f (p1 + 6))))], [], M260)) rfl rfl rfl ?_
            rw [nI_add1 (p := i) (k := 1) (x := 1) rfl (by omega)]
            show pl _ _ _ (_, [(2, .int (nI (i + 1))), (0, .ref m0), (1, .int (nI (by2 f (p1 + 6))))], [], M260) _
            refine ps_st (S' := (237, [(0, .ref m0), (1, .int (nI (by2 f (p1 + 6)))), (2, .int (nI (i + 1)))], [], M260)) rfl rfl rfl ?_
            exact ih.2 (i + 1) (p1) (E) (tx1) (cN1) (A1) M260 I261 R246 hR262 hEI272 hER259 hi263 hi265 hi266 hi267 hi268 hF_269 hY_270 hP_271 (hh) (hpl) (htx) (by omega) (by
                rw [← hs, s_two_st (i := i) (by omega), if_neg (by omega)]
                rfl)
          · skip
            obtain ⟨I273, R274, q246_s, rfl, hR275, hI276, hX277, hi278, hi279⟩ := q244
            have hi280 := (hI276 50 (by decide)).trans hl50
            have hi281 := (hI276 51 (by decide)).trans hl51
            have hi282 := (hI276 52 (by decide)).trans hl52
            have hi283 := (hI276 53 (by decide)).trans hl53
            have hi284 := (hI276 54 (by decide)).trans hl54
            have hF_285 := hF1.mono (cIx hI276 (by decide)) (cRx hX277 (by decide))
            have hY_286 := hY1.mono (cIx hI276 (by decide)) (cRx hX277 (by decide))
            have hP_287 := hP1.mono (cIx hI276 (by decide)) (cRx hX277 (by decide))
            have hEI288 := hEI1.tr hI276 (by decide)
            have hER289 := hER1.tr hX277 (by decide)
            show pl _ _ _ (249, [(0, .ref m0), (1, .int (nI (by2 f (p1 + 6)))), (2, .int (nI i))], [.int 0], M243) _
            refine ps_if (S1 := (254, [(0, .ref m0), (1, .int (nI (by2 f (p1 + 6)))), (2, .int (nI i))], [], M243)) (S2 := (252, [(0, .ref m0), (1, .int (nI (by2 f (p1 + 6)))), (2, .int (nI i))], [], M243)) rfl rfl rfl (fun c_249 => ?_) (fun c_249 => ?_)
            · exact absurd (of_decide_eq_true c_249) (by decide)
            refine ps_st (S' := (253, [(0, .ref m0), (1, .int (nI (by2 f (p1 + 6)))), (2, .int (nI i))], [.int 0], M243)) rfl rfl rfl ?_
            exact ps_ret rfl rfl (Or.inr ⟨(1, p1 + 8 + 2 * i), I273, R274, by
                unfold s_whole
                rw [hh, if_neg (fun h => h rfl)]
                rw [hpl]
                dsimp only
                rw [show s_class f n p1 = .inl (1, p1 + 8 + 2 * i) by rw [← hs, s_two_st (i := i) (by omega), if_pos (by omega)]], rfl, hR275, hEI288, hER289, hi278, hi279⟩)
  refine ps_st (S' := (1, [(0, .ref m0)], [.ref m0], M)) rfl rfl rfl ?_
  refine ps_st (S' := (2, [(0, .ref m0)], [.int 0, .ref m0], M)) rfl rfl rfl ?_
  refine pr_put (j := 50) rfl hR rfl (fun M290 I291 hR292 hi293 hI294 => ?_)
  have hi295 := (hI294 20 (by decide)).trans hi20
  have hF_296 := hF.mono (pIx hI294 (by decide)) (fun _ _ => rfl)
  have hY_297 := hY.mono (pIx hI294 (by decide)) (fun _ _ => rfl)
  have hEI298 := hEI.put hI294 (by decide)
  show pl _ _ _ (5, [(0, .ref m0)], [], M290) _
  refine ps_st (S' := (6, [(0, .ref m0)], [.ref m0], M290)) rfl rfl rfl ?_
  refine ps_st (S' := (9, [(0, .ref m0)], [.long 4, .ref m0], M290)) rfl rfl rfl ?_
  refine pl_call (a := [.ref m0, .long 4]) (rest := []) rfl rfl rfl (rd_item (n := n) (f := f) (p := 0) (k := 4) hR292 hi293 hF_296 (by omega) (by decide)) (fun v299 M300 q301 => ?_)
  rcases q301 with q301 | q301
  · skip
    obtain ⟨I302, R303, q9_s, rfl, hR304, hI305, hX306⟩ := q301
    have hi307 := (hI305 20 (by decide)).trans hi295
    have hi308 := (hI305 50 (by decide)).trans hi293
    have hF_309 := hF_296.mono (cIx hI305 (by decide)) (cRx hX306 (by decide))
    have hY_310 := hY_297.mono (cIx hI305 (by decide)) (cRx hX306 (by decide))
    have hEI311 := hEI298.tr hI305 (by decide)
    have hER312 := hER.tr hX306 (by decide)
    show pl _ _ _ (12, [(0, .ref m0)], [.int 1], M300) _
    refine ps_if (S1 := (17, [(0, .ref m0)], [], M300)) (S2 := (15, [(0, .ref m0)], [], M300)) rfl rfl rfl (fun c_12 => ?_) (fun c_12 => ?_)
    rotate_left
    · exact absurd (by decide) (of_decide_eq_false c_12)
    refine ps_st (S' := (18, [(0, .ref m0)], [.ref m0], M300)) rfl rfl rfl ?_
    refine ps_st (S' := (19, [(0, .ref m0)], [.int 0, .ref m0], M300)) rfl rfl rfl ?_
    refine pl_call (a := [.ref m0, .int 0]) (rest := []) rfl rfl rfl (rd_u4 (n := n) (f := f) (p := 0) hR304 hF_309 (by omega)) (fun v313 M314 q315 => ?_)
    obtain ⟨rfl, rfl⟩ := q315
    show pl _ _ _ (22, [(0, .ref m0)], [.long (nL (by4 f 0))], M300) _
    have hu_19 := by4_lt f 0
    refine ps_st (S' := (25, [(0, .ref m0)], [.long 3405691582, .long (nL (by4 f 0))], M300)) rfl rfl rfl ?_
    refine ps_st (S' := (26, [(0, .ref m0)], [.int (lg_cmp (nL (by4 f 0)) 3405691582)], M300)) rfl rfl rfl ?_
    refine ps_if (S1 := (36, [(0, .ref m0)], [], M300)) (S2 := (29, [(0, .ref m0)], [], M300)) rfl rfl rfl (fun c_26 => ?_) (fun c_26 => ?_)
    · have n_26 : by4 f 0 = 3405691582 := (cL_eq (p := by4 f 0) (k := 3405691582) (x := (nL (by4 f 0))) (y := 3405691582) rfl rfl (by omega) (by omega)).mp (of_decide_eq_true c_26)
      refine ps_st (S' := (37, [(0, .ref m0)], [.ref m0], M300)) rfl rfl rfl ?_
      refine ps_st (S' := (38, [(0, .ref m0)], [.int 4, .ref m0], M300)) rfl rfl rfl ?_
      refine pr_put (j := 50) rfl hR304 rfl (fun M316 I317 hR318 hi319 hI320 => ?_)
      have hi321 := (hI320 20 (by decide)).trans hi307
      have hF_322 := hF_309.mono (pIx hI320 (by decide)) (fun _ _ => rfl)
      have hY_323 := hY_310.mono (pIx hI320 (by decide)) (fun _ _ => rfl)
      have hEI324 := hEI311.put hI320 (by decide)
      show pl _ _ _ (41, [(0, .ref m0)], [], M316) _
      refine ps_st (S' := (42, [(0, .ref m0)], [.ref m0], M316)) rfl rfl rfl ?_
      refine ps_st (S' := (45, [(0, .ref m0)], [.long 2, .ref m0], M316)) rfl rfl rfl ?_
      refine pl_call (a := [.ref m0, .long 2]) (rest := []) rfl rfl rfl (rd_item (n := n) (f := f) (p := 4) (k := 2) hR318 hi319 hF_322 (by omega) (by decide)) (fun v325 M326 q327 => ?_)
      rcases q327 with q327 | q327
      · skip
        obtain ⟨I328, R329, q45_s, rfl, hR330, hI331, hX332⟩ := q327
        have hi333 := (hI331 20 (by decide)).trans hi321
        have hi334 := (hI331 50 (by decide)).trans hi319
        have hF_335 := hF_322.mono (cIx hI331 (by decide)) (cRx hX332 (by decide))
        have hY_336 := hY_323.mono (cIx hI331 (by decide)) (cRx hX332 (by decide))
        have hEI337 := hEI324.tr hI331 (by decide)
        have hER338 := hER312.tr hX332 (by decide)
        show pl _ _ _ (48, [(0, .ref m0)], [.int 1], M326) _
        refine ps_if (S1 := (53, [(0, .ref m0)], [], M326)) (S2 := (51, [(0, .ref m0)], [], M326)) rfl rfl rfl (fun c_48 => ?_) (fun c_48 => ?_)
        rotate_left
        · exact absurd (by decide) (of_decide_eq_false c_48)
        refine ps_st (S' := (54, [(0, .ref m0)], [.ref m0], M326)) rfl rfl rfl ?_
        refine ps_st (S' := (56, [(0, .ref m0)], [.int 6, .ref m0], M326)) rfl rfl rfl ?_
        refine pr_put (j := 50) rfl hR330 rfl (fun M339 I340 hR341 hi342 hI343 => ?_)
        have hi344 := (hI343 20 (by decide)).trans hi333
        have hF_345 := hF_335.mono (pIx hI343 (by decide)) (fun _ _ => rfl)
        have hY_346 := hY_336.mono (pIx hI343 (by decide)) (fun _ _ => rfl)
        have hEI347 := hEI337.put hI343 (by decide)
        show pl _ _ _ (59, [(0, .ref m0)], [], M339) _
        refine ps_st (S' := (60, [(0, .ref m0)], [.ref m0], M339)) rfl rfl rfl ?_
        refine ps_st (S' := (63, [(0, .ref m0)], [.long 2, .ref m0], M339)) rfl rfl rfl ?_
        refine pl_call (a := [.ref m0, .long 2]) (rest := []) rfl rfl rfl (rd_item (n := n) (f := f) (p := 6) (k := 2) hR341 hi342 hF_345 (by omega) (by decide)) (fun v348 M349 q350 => ?_)
        rcases q350 with q350 | q350
        · skip
          obtain ⟨I351, R352, q63_s, rfl, hR353, hI354, hX355⟩ := q350
          have hi356 := (hI354 20 (by decide)).trans hi344
          have hi357 := (hI354 50 (by decide)).trans hi342
          have hF_358 := hF_345.mono (cIx hI354 (by decide)) (cRx hX355 (by decide))
          have hY_359 := hY_346.mono (cIx hI354 (by decide)) (cRx hX355 (by decide))
          have hEI360 := hEI347.tr hI354 (by decide)
          have hER361 := hER338.tr hX355 (by decide)
          show pl _ _ _ (66, [(0, .ref m0)], [.int 1], M349) _
          refine ps_if (S1 := (71, [(0, .ref m0)], [], M349)) (S2 := (69, [(0, .ref m0)], [], M349)) rfl rfl rfl (fun c_66 => ?_) (fun c_66 => ?_)
          rotate_left
          · exact absurd (by decide) (of_decide_eq_false c_66)
          refine ps_st (S' := (72, [(0, .ref m0)], [.ref m0], M349)) rfl rfl rfl ?_
          refine ps_st (S' := (73, [(0, .ref m0)], [.ref m0, .ref m0], M349)) rfl rfl rfl ?_
          refine ps_st (S' := (75, [(0, .ref m0)], [.int 6, .ref m0, .ref m0], M349)) rfl rfl rfl ?_
          refine pl_call (a := [.ref m0, .int 6]) (rest := [.ref m0]) rfl rfl rfl (rd_u2 (n := n) (f := f) (p := 6) hR353 hF_358 (by omega)) (fun v362 M363 q364 => ?_)
          obtain ⟨rfl, rfl⟩ := q364
          show pl _ _ _ (78, [(0, .ref m0)], [.int (nI (by2 f 6)), .ref m0], M349) _
          have hu_75 := by2_lt f 6
          refine pr_put (j := 53) rfl hR353 rfl (fun M365 I366 hR367 hi368 hI369 => ?_)
          have hi370 := (hI369 20 (by decide)).trans hi356
          have hi371 := (hI369 50 (by decide)).trans hi357
          have hF_372 := hF_358.mono (pIx hI369 (by decide)) (fun _ _ => rfl)
          have hY_373 := hY_359.mono (pIx hI369 (by decide)) (fun _ _ => rfl)
          have hEI374 := hEI360.put hI369 (by decide)
          show pl _ _ _ (81, [(0, .ref m0)], [], M365) _
          refine ps_st (S' := (82, [(0, .ref m0)], [.ref m0], M365)) rfl rfl rfl ?_
          refine pr_int (j := 53) (S' := (85, [(0, .ref m0)], [.int (nI (by2 f 6))], M365)) rfl hR367 rfl hi368 rfl ?_
          refine ps_st (S' := (87, [(0, .ref m0)], [.int 45, .int (nI (by2 f 6))], M365)) rfl rfl rfl ?_
          refine ps_if2 (S1 := (116, [(0, .ref m0)], [], M365)) (S2 := (90, [(0, .ref m0)], [], M365)) rfl rfl rfl (fun c_87 => ?_) (fun c_87 => ?_)
          · have c_87 : (nI (by2 f 6)) < 45 := of_decide_eq_true c_87
            have n_87 : by2 f 6 < 45 := (lt_nI (p := by2 f 6) (n := 45) (Nat.lt_trans (by2_lt _ _) (by decide)) (by decide)).mp c_87
            refine ps_st (S' := (117, [(0, .ref m0)], [.ref m0], M365)) rfl rfl rfl ?_
            refine ps_st (S' := (118, [(0, .ref m0)], [.int 3, .ref m0], M365)) rfl rfl rfl ?_
            refine ps_st (S' := (119, [(0, .ref m0)], [.int 4, .int 3, .ref m0], M365)) rfl rfl rfl ?_
            refine pl_call (a := [.ref m0, .int 3, .int 4]) (rest := []) rfl rfl rfl (rd_wrong (x1 := 3) (x2 := 4) hR367) (fun v375 M376 q377 => ?_)
            obtain ⟨I378, R379, rfl, hR380, hI381, hX382, hi383, hi384⟩ := q377
            have hi385 := (hI381 20 (by decide)).trans hi370
            have hi386 := (hI381 50 (by decide)).trans hi371
            have hi387 := (hI381 53 (by decide)).trans hi368
            have hF_388 := hF_372.mono (cIx hI381 (by decide)) (cRx hX382 (by decide))
            have hY_389 := hY_373.mono (cIx hI381 (by decide)) (cRx hX382 (by decide))
            have hEI390 := hEI374.tr hI381 (by decide)
            have hER391 := hER361.tr hX382 (by decide)
            show pl _ _ _ (122, [(0, .ref m0)], [.int 0], M376) _
            exact ps_ret rfl rfl (Or.inr ⟨(3, 4), I378, R379, by
                have hh : s_head f n = (3, 4) := by
                  unfold s_head
                  first | ((repeat first | rw [if_pos (by omega)] | rw [if_neg (by omega)]) <;> first | rfl | omega) | ((repeat' split) <;> first | rfl | (exfalso; omega) | omega)
                unfold s_whole
                rw [hh, if_pos (by decide)], rfl, hR380, hEI390, hER391, hi383, hi384⟩)
          · have c_87 : ¬ ((nI (by2 f 6)) < 45) := of_decide_eq_false c_87
            have n_87 : ¬ (by2 f 6 < 45) := fun h9 => c_87 ((lt_nI (p := by2 f 6) (n := 45) (Nat.lt_trans (by2_lt _ _) (by decide)) (by decide)).mpr h9)
            refine ps_st (S' := (91, [(0, .ref m0)], [.ref m0], M365)) rfl rfl rfl ?_
            refine pr_int (j := 53) (S' := (94, [(0, .ref m0)], [.int (nI (by2 f 6))], M365)) rfl hR367 rfl hi368 rfl ?_
            refine ps_st (S' := (96, [(0, .ref m0)], [.int 61, .int (nI (by2 f 6))], M365)) rfl rfl rfl ?_
            refine ps_if2 (S1 := (116, [(0, .ref m0)], [], M365)) (S2 := (99, [(0, .ref m0)], [], M365)) rfl rfl rfl (fun c_96 => ?_) (fun c_96 => ?_)
            · have c_96 : 61 < (nI (by2 f 6)) := of_decide_eq_true c_96
              have n_96 : 61 < by2 f 6 := (lt_nI (p := 61) (n := by2 f 6) (by decide) (Nat.lt_trans (by2_lt _ _) (by decide))).mp c_96
              refine ps_st (S' := (117, [(0, .ref m0)], [.ref m0], M365)) rfl rfl rfl ?_
              refine ps_st (S' := (118, [(0, .ref m0)], [.int 3, .ref m0], M365)) rfl rfl rfl ?_
              refine ps_st (S' := (119, [(0, .ref m0)], [.int 4, .int 3, .ref m0], M365)) rfl rfl rfl ?_
              refine pl_call (a := [.ref m0, .int 3, .int 4]) (rest := []) rfl rfl rfl (rd_wrong (x1 := 3) (x2 := 4) hR367) (fun v392 M393 q394 => ?_)
              obtain ⟨I395, R396, rfl, hR397, hI398, hX399, hi400, hi401⟩ := q394
              have hi402 := (hI398 20 (by decide)).trans hi370
              have hi403 := (hI398 50 (by decide)).trans hi371
              have hi404 := (hI398 53 (by decide)).trans hi368
              have hF_405 := hF_372.mono (cIx hI398 (by decide)) (cRx hX399 (by decide))
              have hY_406 := hY_373.mono (cIx hI398 (by decide)) (cRx hX399 (by decide))
              have hEI407 := hEI374.tr hI398 (by decide)
              have hER408 := hER361.tr hX399 (by decide)
              show pl _ _ _ (122, [(0, .ref m0)], [.int 0], M393) _
              exact ps_ret rfl rfl (Or.inr ⟨(3, 4), I395, R396, by
                  have hh : s_head f n = (3, 4) := by
                    unfold s_head
                    first | ((repeat first | rw [if_pos (by omega)] | rw [if_neg (by omega)]) <;> first | rfl | omega) | ((repeat' split) <;> first | rfl | (exfalso; omega) | omega)
                  unfold s_whole
                  rw [hh, if_pos (by decide)], rfl, hR397, hEI407, hER408, hi400, hi401⟩)
            · have c_96 : ¬ (61 < (nI (by2 f 6))) := of_decide_eq_false c_96
              have n_96 : ¬ (61 < by2 f 6) := fun h9 => c_96 ((lt_nI (p := 61) (n := by2 f 6) (by decide) (Nat.lt_trans (by2_lt _ _) (by decide))).mpr h9)
              refine ps_st (S' := (100, [(0, .ref m0)], [.ref m0], M365)) rfl rfl rfl ?_
              refine pr_int (j := 53) (S' := (103, [(0, .ref m0)], [.int (nI (by2 f 6))], M365)) rfl hR367 rfl hi368 rfl ?_
              refine ps_st (S' := (105, [(0, .ref m0)], [.int 56, .int (nI (by2 f 6))], M365)) rfl rfl rfl ?_
              refine ps_if2 (S1 := (123, [(0, .ref m0)], [], M365)) (S2 := (108, [(0, .ref m0)], [], M365)) rfl rfl rfl (fun c_105 => ?_) (fun c_105 => ?_)
              · have c_105 : (nI (by2 f 6)) < 56 := of_decide_eq_true c_105
                have n_105 : by2 f 6 < 56 := (lt_nI (p := by2 f 6) (n := 56) (Nat.lt_trans (by2_lt _ _) (by decide)) (by decide)).mp c_105
                have hh : s_head f n = (0, 0) := by
                  unfold s_head
                  first | ((repeat first | rw [if_pos (by omega)] | rw [if_neg (by omega)]) <;> first | rfl | omega) | ((repeat' split) <;> first | rfl | (exfalso; omega) | omega)
                refine ps_st (S' := (124, [(0, .ref m0)], [.ref m0], M365)) rfl rfl rfl ?_
                refine ps_st (S' := (126, [(0, .ref m0)], [.int 8, .ref m0], M365)) rfl rfl rfl ?_
                refine pr_put (j := 50) rfl hR367 rfl (fun M409 I410 hR411 hi412 hI413 => ?_)
                have hi414 := (hI413 20 (by decide)).trans hi370
                have hi415 := (hI413 53 (by decide)).trans hi368
                have hF_416 := hF_372.mono (pIx hI413 (by decide)) (fun _ _ => rfl)
                have hY_417 := hY_373.mono (pIx hI413 (by decide)) (fun _ _ => rfl)
                have hEI418 := hEI374.put hI413 (by decide)
                show pl _ _ _ (129, [(0, .ref m0)], [], M409) _
                refine ps_st (S' := (130, [(0, .ref m0)], [.ref m0], M409)) rfl rfl rfl ?_
                refine ps_st (S' := (133, [(0, .ref m0)], [.long 2, .ref m0], M409)) rfl rfl rfl ?_
                refine pl_call (a := [.ref m0, .long 2]) (rest := []) rfl rfl rfl (rd_item (n := n) (f := f) (p := 8) (k := 2) hR411 hi412 hF_416 (by omega) (by decide)) (fun v419 M420 q421 => ?_)
                rcases q421 with q421 | q421
                · skip
                  obtain ⟨I422, R423, q133_s, rfl, hR424, hI425, hX426⟩ := q421
                  have hi427 := (hI425 20 (by decide)).trans hi414
                  have hi428 := (hI425 53 (by decide)).trans hi415
                  have hi429 := (hI425 50 (by decide)).trans hi412
                  have hF_430 := hF_416.mono (cIx hI425 (by decide)) (cRx hX426 (by decide))
                  have hY_431 := hY_417.mono (cIx hI425 (by decide)) (cRx hX426 (by decide))
                  have hEI432 := hEI418.tr hI425 (by decide)
                  have hER433 := hER361.tr hX426 (by decide)
                  show pl _ _ _ (136, [(0, .ref m0)], [.int 1], M420) _
                  refine ps_if (S1 := (141, [(0, .ref m0)], [], M420)) (S2 := (139, [(0, .ref m0)], [], M420)) rfl rfl rfl (fun c_136 => ?_) (fun c_136 => ?_)
                  rotate_left
                  · exact absurd (by decide) (of_decide_eq_false c_136)
                  refine ps_st (S' := (142, [(0, .ref m0)], [.ref m0], M420)) rfl rfl rfl ?_
                  refine ps_st (S' := (143, [(0, .ref m0)], [.ref m0, .ref m0], M420)) rfl rfl rfl ?_
                  refine ps_st (S' := (145, [(0, .ref m0)], [.int 8, .ref m0, .ref m0], M420)) rfl rfl rfl ?_
                  refine pl_call (a := [.ref m0, .int 8]) (rest := [.ref m0]) rfl rfl rfl (rd_u2 (n := n) (f := f) (p := 8) hR424 hF_430 (by omega)) (fun v434 M435 q436 => ?_)
                  obtain ⟨rfl, rfl⟩ := q436
                  show pl _ _ _ (148, [(0, .ref m0)], [.int (nI (by2 f 8)), .ref m0], M420) _
                  have hu_145 := by2_lt f 8
                  refine pr_put (j := 52) rfl hR424 rfl (fun M437 I438 hR439 hi440 hI441 => ?_)
                  have hi442 := (hI441 20 (by decide)).trans hi427
                  have hi443 := (hI441 53 (by decide)).trans hi428
                  have hi444 := (hI441 50 (by decide)).trans hi429
                  have hF_445 := hF_430.mono (pIx hI441 (by decide)) (fun _ _ => rfl)
                  have hY_446 := hY_431.mono (pIx hI441 (by decide)) (fun _ _ => rfl)
                  have hEI447 := hEI432.put hI441 (by decide)
                  show pl _ _ _ (151, [(0, .ref m0)], [], M437) _
                  refine ps_st (S' := (152, [(0, .ref m0)], [.ref m0], M437)) rfl rfl rfl ?_
                  refine pr_int (j := 52) (S' := (155, [(0, .ref m0)], [.int (nI (by2 f 8))], M437)) rfl hR439 rfl hi440 rfl ?_
                  refine ps_if (S1 := (166, [(0, .ref m0)], [], M437)) (S2 := (158, [(0, .ref m0)], [], M437)) rfl rfl rfl (fun c_155 => ?_) (fun c_155 => ?_)
                  · have c_155 : ¬ (nI (by2 f 8)) = 0 := of_decide_eq_true c_155
                    have n_155 : ¬ (by2 f 8 = 0) := fun h9 => c_155 ((eq_nI (p := by2 f 8) (n := 0) (Nat.lt_trans (by2_lt _ _) (by decide)) (by decide)).mpr h9)
                    refine ps_st (S' := (167, [(0, .ref m0)], [.ref m0], M437)) rfl rfl rfl ?_
                    refine ps_st (S' := (169, [(0, .ref m0)], [.int 10, .ref m0], M437)) rfl rfl rfl ?_
                    refine pr_put (j := 50) rfl hR439 rfl (fun M448 I449 hR450 hi451 hI452 => ?_)
                    have hi453 := (hI452 20 (by decide)).trans hi442
                    have hi454 := (hI452 53 (by decide)).trans hi443
                    have hi455 := (hI452 52 (by decide)).trans hi440
                    have hF_456 := hF_445.mono (pIx hI452 (by decide)) (fun _ _ => rfl)
                    have hY_457 := hY_446.mono (pIx hI452 (by decide)) (fun _ _ => rfl)
                    have hEI458 := hEI447.put hI452 (by decide)
                    show pl _ _ _ (172, [(0, .ref m0)], [], M448) _
                    refine ps_st (S' := (173, [(0, .ref m0)], [.ref m0], M448)) rfl rfl rfl ?_
                    refine pl_call (a := [.ref m0]) (rest := []) rfl rfl rfl (rd_readPool (n := n) (f := f) (tx := tx) (cN := cN) (A := A) (N := (by2 f 8)) (mj := (by2 f 6)) hR450 hi453 hi451 hi455 hi454 hF_456 hY_457 (⟨by omega, by2_lt _ _⟩) (by2_lt _ _) (by omega)) (fun v459 M460 q461 => ?_)
                    rcases q461 with q461 | q461
                    · skip
                      obtain ⟨p'462, E463, tx1464, cN1465, A1466, I467, R468, q173_s, q173_k, q173_l, rfl, hR469, hI470, hX471, hi472, hi473, hY_474, hP_475⟩ := q461
                      have hi476 := (hI470 53 (by decide)).trans hi454
                      have hi477 := (hI470 52 (by decide)).trans hi455
                      have hF_478 := hF_456.mono (cIx hI470 (by decide)) (cRx hX471 (by decide))
                      have hEI479 := hEI458.tr hI470 (by decide)
                      have hER480 := hER433.tr hX471 (by decide)
                      show pl _ _ _ (176, [(0, .ref m0)], [.int 1], M460) _
                      have hpl : s_pool f n (by2 f 6) = .inr (p'462, E463) := by
                        unfold s_pool
                        rw [if_neg (by omega), if_neg (by omega)]
                        exact q173_s
                      refine ps_if (S1 := (181, [(0, .ref m0)], [], M460)) (S2 := (179, [(0, .ref m0)], [], M460)) rfl rfl rfl (fun c_176 => ?_) (fun c_176 => ?_)
                      rotate_left
                      · exact absurd (by decide) (of_decide_eq_false c_176)
                      refine ps_st (S' := (182, [(0, .ref m0)], [.ref m0], M460)) rfl rfl rfl ?_
                      refine ps_st (S' := (183, [(0, .ref m0)], [.ref m0, .ref m0], M460)) rfl rfl rfl ?_
                      refine pr_int (j := 50) (S' := (186, [(0, .ref m0)], [.int (nI p'462), .ref m0], M460)) rfl hR469 rfl hi472 rfl ?_
                      refine pr_put (j := 54) rfl hR469 rfl (fun M481 I482 hR483 hi484 hI485 => ?_)
                      have hi486 := (hI485 53 (by decide)).trans hi476
                      have hi487 := (hI485 52 (by decide)).trans hi477
                      have hi488 := (hI485 50 (by decide)).trans hi472
                      have hi489 := (hI485 51 (by decide)).trans hi473
                      have hF_490 := hF_478.mono (pIx hI485 (by decide)) (fun _ _ => rfl)
                      have hY_491 := hY_474.mono (pIx hI485 (by decide)) (fun _ _ => rfl)
                      have hP_492 := hP_475.mono (pIx hI485 (by decide)) (fun _ _ => rfl)
                      have hEI493 := hEI479.put hI485 (by decide)
                      show pl _ _ _ (189, [(0, .ref m0)], [], M481) _
                      refine ps_st (S' := (190, [(0, .ref m0)], [.int 0], M481)) rfl rfl rfl ?_
                      refine ps_st (S' := (191, [(0, .ref m0), (1, .int 0)], [], M481)) rfl rfl rfl ?_
                      exact (LL kf).1 (0) (p'462) (E463) (tx1464) (cN1465) (A1466) M481 I482 R468 hR483 hEI493 hER480 hi488 hi489 hi487 hi486 hi484 hF_490 hY_491 hP_492 (hh) (hpl) (q173_k) (by have := q173_l; omega)
                    · skip
                      obtain ⟨e494, I495, R496, q173_s, rfl, hR497, hI498, hX499, hi500, hi501⟩ := q461
                      have hi502 := (hI498 53 (by decide)).trans hi454
                      have hi503 := (hI498 52 (by decide)).trans hi455
                      have hF_504 := hF_456.mono (cIx hI498 (by decide)) (cRx hX499 (by decide))
                      have hEI505 := hEI458.tr hI498 (by decide)
                      have hER506 := hER433.tr hX499 (by decide)
                      show pl _ _ _ (176, [(0, .ref m0)], [.int 0], M460) _
                      have hpl : s_pool f n (by2 f 6) = .inl e494 := by
                        unfold s_pool
                        rw [if_neg (by omega), if_neg (by omega)]
                        exact q173_s
                      refine ps_if (S1 := (181, [(0, .ref m0)], [], M460)) (S2 := (179, [(0, .ref m0)], [], M460)) rfl rfl rfl (fun c_176 => ?_) (fun c_176 => ?_)
                      · exact absurd (of_decide_eq_true c_176) (by decide)
                      refine ps_st (S' := (180, [(0, .ref m0)], [.int 0], M460)) rfl rfl rfl ?_
                      exact ps_ret rfl rfl (Or.inr ⟨e494, I495, R496, by
                          unfold s_whole
                          rw [hh, if_neg (fun h => h rfl)]
                          rw [hpl], rfl, hR497, hEI505, hER506, hi500, hi501⟩)
                  · have c_155 : ¬ (¬ (nI (by2 f 8)) = 0) := of_decide_eq_false c_155
                    have n_155 : by2 f 8 = 0 := (eq_nI (p := by2 f 8) (n := 0) (Nat.lt_trans (by2_lt _ _) (by decide)) (by decide)).mp (Decidable.not_not.mp c_155)
                    refine ps_st (S' := (159, [(0, .ref m0)], [.ref m0], M437)) rfl rfl rfl ?_
                    refine ps_st (S' := (160, [(0, .ref m0)], [.int 4, .ref m0], M437)) rfl rfl rfl ?_
                    refine ps_st (S' := (162, [(0, .ref m0)], [.int 8, .int 4, .ref m0], M437)) rfl rfl rfl ?_
                    refine pl_call (a := [.ref m0, .int 4, .int 8]) (rest := []) rfl rfl rfl (rd_wrong (x1 := 4) (x2 := 8) hR439) (fun v507 M508 q509 => ?_)
                    obtain ⟨I510, R511, rfl, hR512, hI513, hX514, hi515, hi516⟩ := q509
                    have hi517 := (hI513 20 (by decide)).trans hi442
                    have hi518 := (hI513 53 (by decide)).trans hi443
                    have hi519 := (hI513 50 (by decide)).trans hi444
                    have hi520 := (hI513 52 (by decide)).trans hi440
                    have hF_521 := hF_445.mono (cIx hI513 (by decide)) (cRx hX514 (by decide))
                    have hY_522 := hY_446.mono (cIx hI513 (by decide)) (cRx hX514 (by decide))
                    have hEI523 := hEI447.tr hI513 (by decide)
                    have hER524 := hER433.tr hX514 (by decide)
                    show pl _ _ _ (165, [(0, .ref m0)], [.int 0], M508) _
                    exact ps_ret rfl rfl (Or.inr ⟨(4, 8), I510, R511, by
                        unfold s_whole
                        rw [hh, if_neg (fun h => h rfl)]
                        rw [show s_pool f n (by2 f 6) = .inl (4, 8) by unfold s_pool; rw [if_neg (by omega), if_pos (by omega)]], rfl, hR512, hEI523, hER524, hi515, hi516⟩)
                · skip
                  obtain ⟨I525, R526, q133_s, rfl, hR527, hI528, hX529, hi530, hi531⟩ := q421
                  have hi532 := (hI528 20 (by decide)).trans hi414
                  have hi533 := (hI528 53 (by decide)).trans hi415
                  have hi534 := (hI528 50 (by decide)).trans hi412
                  have hF_535 := hF_416.mono (cIx hI528 (by decide)) (cRx hX529 (by decide))
                  have hY_536 := hY_417.mono (cIx hI528 (by decide)) (cRx hX529 (by decide))
                  have hEI537 := hEI418.tr hI528 (by decide)
                  have hER538 := hER361.tr hX529 (by decide)
                  show pl _ _ _ (136, [(0, .ref m0)], [.int 0], M420) _
                  refine ps_if (S1 := (141, [(0, .ref m0)], [], M420)) (S2 := (139, [(0, .ref m0)], [], M420)) rfl rfl rfl (fun c_136 => ?_) (fun c_136 => ?_)
                  · exact absurd (of_decide_eq_true c_136) (by decide)
                  refine ps_st (S' := (140, [(0, .ref m0)], [.int 0], M420)) rfl rfl rfl ?_
                  exact ps_ret rfl rfl (Or.inr ⟨(1, 8), I525, R526, by
                      unfold s_whole
                      rw [hh, if_neg (fun h => h rfl)]
                      rw [show s_pool f n (by2 f 6) = .inl (1, 8) by unfold s_pool; rw [if_pos (by omega)]], rfl, hR527, hEI537, hER538, hi530, hi531⟩)
              · have c_105 : ¬ ((nI (by2 f 6)) < 56) := of_decide_eq_false c_105
                have n_105 : ¬ (by2 f 6 < 56) := fun h9 => c_105 ((lt_nI (p := by2 f 6) (n := 56) (Nat.lt_trans (by2_lt _ _) (by decide)) (by decide)).mpr h9)
                refine ps_st (S' := (109, [(0, .ref m0)], [.ref m0], M365)) rfl rfl rfl ?_
                refine ps_st (S' := (110, [(0, .ref m0)], [.int 4, .ref m0], M365)) rfl rfl rfl ?_
                refine pl_call (a := [.ref m0, .int 4]) (rest := []) rfl rfl rfl (rd_u2 (n := n) (f := f) (p := 4) hR367 hF_372 (by omega)) (fun v539 M540 q541 => ?_)
                obtain ⟨rfl, rfl⟩ := q541
                show pl _ _ _ (113, [(0, .ref m0)], [.int (nI (by2 f 4))], M365) _
                have hu_110 := by2_lt f 4
                refine ps_if (S1 := (123, [(0, .ref m0)], [], M365)) (S2 := (116, [(0, .ref m0)], [], M365)) rfl rfl rfl (fun c_113 => ?_) (fun c_113 => ?_)
                · have c_113 : (nI (by2 f 4)) = 0 := of_decide_eq_true c_113
                  have n_113 : by2 f 4 = 0 := (eq_nI (p := by2 f 4) (n := 0) (Nat.lt_trans (by2_lt _ _) (by decide)) (by decide)).mp c_113
                  have hh : s_head f n = (0, 0) := by
                    unfold s_head
                    first | ((repeat first | rw [if_pos (by omega)] | rw [if_neg (by omega)]) <;> first | rfl | omega) | ((repeat' split) <;> first | rfl | (exfalso; omega) | omega)
                  refine ps_st (S' := (124, [(0, .ref m0)], [.ref m0], M365)) rfl rfl rfl ?_
                  refine ps_st (S' := (126, [(0, .ref m0)], [.int 8, .ref m0], M365)) rfl rfl rfl ?_
                  refine pr_put (j := 50) rfl hR367 rfl (fun M542 I543 hR544 hi545 hI546 => ?_)
                  have hi547 := (hI546 20 (by decide)).trans hi370
                  have hi548 := (hI546 53 (by decide)).trans hi368
                  have hF_549 := hF_372.mono (pIx hI546 (by decide)) (fun _ _ => rfl)
                  have hY_550 := hY_373.mono (pIx hI546 (by decide)) (fun _ _ => rfl)
                  have hEI551 := hEI374.put hI546 (by decide)
                  show pl _ _ _ (129, [(0, .ref m0)], [], M542) _
                  refine ps_st (S' := (130, [(0, .ref m0)], [.ref m0], M542)) rfl rfl rfl ?_
                  refine ps_st (S' := (133, [(0, .ref m0)], [.long 2, .ref m0], M542)) rfl rfl rfl ?_
                  refine pl_call (a := [.ref m0, .long 2]) (rest := []) rfl rfl rfl (rd_item (n := n) (f := f) (p := 8) (k := 2) hR544 hi545 hF_549 (by omega) (by decide)) (fun v552 M553 q554 => ?_)
                  rcases q554 with q554 | q554
                  · skip
                    obtain ⟨I555, R556, q133_s, rfl, hR557, hI558, hX559⟩ := q554
                    have hi560 := (hI558 20 (by decide)).trans hi547
                    have hi561 := (hI558 53 (by decide)).trans hi548
                    have hi562 := (hI558 50 (by decide)).trans hi545
                    have hF_563 := hF_549.mono (cIx hI558 (by decide)) (cRx hX559 (by decide))
                    have hY_564 := hY_550.mono (cIx hI558 (by decide)) (cRx hX559 (by decide))
                    have hEI565 := hEI551.tr hI558 (by decide)
                    have hER566 := hER361.tr hX559 (by decide)
                    show pl _ _ _ (136, [(0, .ref m0)], [.int 1], M553) _
                    refine ps_if (S1 := (141, [(0, .ref m0)], [], M553)) (S2 := (139, [(0, .ref m0)], [], M553)) rfl rfl rfl (fun c_136 => ?_) (fun c_136 => ?_)
                    rotate_left
                    · exact absurd (by decide) (of_decide_eq_false c_136)
                    refine ps_st (S' := (142, [(0, .ref m0)], [.ref m0], M553)) rfl rfl rfl ?_
                    refine ps_st (S' := (143, [(0, .ref m0)], [.ref m0, .ref m0], M553)) rfl rfl rfl ?_
                    refine ps_st (S' := (145, [(0, .ref m0)], [.int 8, .ref m0, .ref m0], M553)) rfl rfl rfl ?_
                    refine pl_call (a := [.ref m0, .int 8]) (rest := [.ref m0]) rfl rfl rfl (rd_u2 (n := n) (f := f) (p := 8) hR557 hF_563 (by omega)) (fun v567 M568 q569 => ?_)
                    obtain ⟨rfl, rfl⟩ := q569
                    show pl _ _ _ (148, [(0, .ref m0)], [.int (nI (by2 f 8)), .ref m0], M553) _
                    have hu_145 := by2_lt f 8
                    refine pr_put (j := 52) rfl hR557 rfl (fun M570 I571 hR572 hi573 hI574 => ?_)
                    have hi575 := (hI574 20 (by decide)).trans hi560
                    have hi576 := (hI574 53 (by decide)).trans hi561
                    have hi577 := (hI574 50 (by decide)).trans hi562
                    have hF_578 := hF_563.mono (pIx hI574 (by decide)) (fun _ _ => rfl)
                    have hY_579 := hY_564.mono (pIx hI574 (by decide)) (fun _ _ => rfl)
                    have hEI580 := hEI565.put hI574 (by decide)
                    show pl _ _ _ (151, [(0, .ref m0)], [], M570) _
                    refine ps_st (S' := (152, [(0, .ref m0)], [.ref m0], M570)) rfl rfl rfl ?_
                    refine pr_int (j := 52) (S' := (155, [(0, .ref m0)], [.int (nI (by2 f 8))], M570)) rfl hR572 rfl hi573 rfl ?_
                    refine ps_if (S1 := (166, [(0, .ref m0)], [], M570)) (S2 := (158, [(0, .ref m0)], [], M570)) rfl rfl rfl (fun c_155 => ?_) (fun c_155 => ?_)
                    · have c_155 : ¬ (nI (by2 f 8)) = 0 := of_decide_eq_true c_155
                      have n_155 : ¬ (by2 f 8 = 0) := fun h9 => c_155 ((eq_nI (p := by2 f 8) (n := 0) (Nat.lt_trans (by2_lt _ _) (by decide)) (by decide)).mpr h9)
                      refine ps_st (S' := (167, [(0, .ref m0)], [.ref m0], M570)) rfl rfl rfl ?_
                      refine ps_st (S' := (169, [(0, .ref m0)], [.int 10, .ref m0], M570)) rfl rfl rfl ?_
                      refine pr_put (j := 50) rfl hR572 rfl (fun M581 I582 hR583 hi584 hI585 => ?_)
                      have hi586 := (hI585 20 (by decide)).trans hi575
                      have hi587 := (hI585 53 (by decide)).trans hi576
                      have hi588 := (hI585 52 (by decide)).trans hi573
                      have hF_589 := hF_578.mono (pIx hI585 (by decide)) (fun _ _ => rfl)
                      have hY_590 := hY_579.mono (pIx hI585 (by decide)) (fun _ _ => rfl)
                      have hEI591 := hEI580.put hI585 (by decide)
                      show pl _ _ _ (172, [(0, .ref m0)], [], M581) _
                      refine ps_st (S' := (173, [(0, .ref m0)], [.ref m0], M581)) rfl rfl rfl ?_
                      refine pl_call (a := [.ref m0]) (rest := []) rfl rfl rfl (rd_readPool (n := n) (f := f) (tx := tx) (cN := cN) (A := A) (N := (by2 f 8)) (mj := (by2 f 6)) hR583 hi586 hi584 hi588 hi587 hF_589 hY_590 (⟨by omega, by2_lt _ _⟩) (by2_lt _ _) (by omega)) (fun v592 M593 q594 => ?_)
                      rcases q594 with q594 | q594
                      · skip
                        obtain ⟨p'595, E596, tx1597, cN1598, A1599, I600, R601, q173_s, q173_k, q173_l, rfl, hR602, hI603, hX604, hi605, hi606, hY_607, hP_608⟩ := q594
                        have hi609 := (hI603 53 (by decide)).trans hi587
                        have hi610 := (hI603 52 (by decide)).trans hi588
                        have hF_611 := hF_589.mono (cIx hI603 (by decide)) (cRx hX604 (by decide))
                        have hEI612 := hEI591.tr hI603 (by decide)
                        have hER613 := hER566.tr hX604 (by decide)
                        show pl _ _ _ (176, [(0, .ref m0)], [.int 1], M593) _
                        have hpl : s_pool f n (by2 f 6) = .inr (p'595, E596) := by
                          unfold s_pool
                          rw [if_neg (by omega), if_neg (by omega)]
                          exact q173_s
                        refine ps_if (S1 := (181, [(0, .ref m0)], [], M593)) (S2 := (179, [(0, .ref m0)], [], M593)) rfl rfl rfl (fun c_176 => ?_) (fun c_176 => ?_)
                        rotate_left
                        · exact absurd (by decide) (of_decide_eq_false c_176)
                        refine ps_st (S' := (182, [(0, .ref m0)], [.ref m0], M593)) rfl rfl rfl ?_
                        refine ps_st (S' := (183, [(0, .ref m0)], [.ref m0, .ref m0], M593)) rfl rfl rfl ?_
                        refine pr_int (j := 50) (S' := (186, [(0, .ref m0)], [.int (nI p'595), .ref m0], M593)) rfl hR602 rfl hi605 rfl ?_
                        refine pr_put (j := 54) rfl hR602 rfl (fun M614 I615 hR616 hi617 hI618 => ?_)
                        have hi619 := (hI618 53 (by decide)).trans hi609
                        have hi620 := (hI618 52 (by decide)).trans hi610
                        have hi621 := (hI618 50 (by decide)).trans hi605
                        have hi622 := (hI618 51 (by decide)).trans hi606
                        have hF_623 := hF_611.mono (pIx hI618 (by decide)) (fun _ _ => rfl)
                        have hY_624 := hY_607.mono (pIx hI618 (by decide)) (fun _ _ => rfl)
                        have hP_625 := hP_608.mono (pIx hI618 (by decide)) (fun _ _ => rfl)
                        have hEI626 := hEI612.put hI618 (by decide)
                        show pl _ _ _ (189, [(0, .ref m0)], [], M614) _
                        refine ps_st (S' := (190, [(0, .ref m0)], [.int 0], M614)) rfl rfl rfl ?_
                        refine ps_st (S' := (191, [(0, .ref m0), (1, .int 0)], [], M614)) rfl rfl rfl ?_
                        exact (LL kf).1 (0) (p'595) (E596) (tx1597) (cN1598) (A1599) M614 I615 R601 hR616 hEI626 hER613 hi621 hi622 hi620 hi619 hi617 hF_623 hY_624 hP_625 (hh) (hpl) (q173_k) (by have := q173_l; omega)
                      · skip
                        obtain ⟨e627, I628, R629, q173_s, rfl, hR630, hI631, hX632, hi633, hi634⟩ := q594
                        have hi635 := (hI631 53 (by decide)).trans hi587
                        have hi636 := (hI631 52 (by decide)).trans hi588
                        have hF_637 := hF_589.mono (cIx hI631 (by decide)) (cRx hX632 (by decide))
                        have hEI638 := hEI591.tr hI631 (by decide)
                        have hER639 := hER566.tr hX632 (by decide)
                        show pl _ _ _ (176, [(0, .ref m0)], [.int 0], M593) _
                        have hpl : s_pool f n (by2 f 6) = .inl e627 := by
                          unfold s_pool
                          rw [if_neg (by omega), if_neg (by omega)]
                          exact q173_s
                        refine ps_if (S1 := (181, [(0, .ref m0)], [], M593)) (S2 := (179, [(0, .ref m0)], [], M593)) rfl rfl rfl (fun c_176 => ?_) (fun c_176 => ?_)
                        · exact absurd (of_decide_eq_true c_176) (by decide)
                        refine ps_st (S' := (180, [(0, .ref m0)], [.int 0], M593)) rfl rfl rfl ?_
                        exact ps_ret rfl rfl (Or.inr ⟨e627, I628, R629, by
                            unfold s_whole
                            rw [hh, if_neg (fun h => h rfl)]
                            rw [hpl], rfl, hR630, hEI638, hER639, hi633, hi634⟩)
                    · have c_155 : ¬ (¬ (nI (by2 f 8)) = 0) := of_decide_eq_false c_155
                      have n_155 : by2 f 8 = 0 := (eq_nI (p := by2 f 8) (n := 0) (Nat.lt_trans (by2_lt _ _) (by decide)) (by decide)).mp (Decidable.not_not.mp c_155)
                      refine ps_st (S' := (159, [(0, .ref m0)], [.ref m0], M570)) rfl rfl rfl ?_
                      refine ps_st (S' := (160, [(0, .ref m0)], [.int 4, .ref m0], M570)) rfl rfl rfl ?_
                      refine ps_st (S' := (162, [(0, .ref m0)], [.int 8, .int 4, .ref m0], M570)) rfl rfl rfl ?_
                      refine pl_call (a := [.ref m0, .int 4, .int 8]) (rest := []) rfl rfl rfl (rd_wrong (x1 := 4) (x2 := 8) hR572) (fun v640 M641 q642 => ?_)
                      obtain ⟨I643, R644, rfl, hR645, hI646, hX647, hi648, hi649⟩ := q642
                      have hi650 := (hI646 20 (by decide)).trans hi575
                      have hi651 := (hI646 53 (by decide)).trans hi576
                      have hi652 := (hI646 50 (by decide)).trans hi577
                      have hi653 := (hI646 52 (by decide)).trans hi573
                      have hF_654 := hF_578.mono (cIx hI646 (by decide)) (cRx hX647 (by decide))
                      have hY_655 := hY_579.mono (cIx hI646 (by decide)) (cRx hX647 (by decide))
                      have hEI656 := hEI580.tr hI646 (by decide)
                      have hER657 := hER566.tr hX647 (by decide)
                      show pl _ _ _ (165, [(0, .ref m0)], [.int 0], M641) _
                      exact ps_ret rfl rfl (Or.inr ⟨(4, 8), I643, R644, by
                          unfold s_whole
                          rw [hh, if_neg (fun h => h rfl)]
                          rw [show s_pool f n (by2 f 6) = .inl (4, 8) by unfold s_pool; rw [if_neg (by omega), if_pos (by omega)]], rfl, hR645, hEI656, hER657, hi648, hi649⟩)
                  · skip
                    obtain ⟨I658, R659, q133_s, rfl, hR660, hI661, hX662, hi663, hi664⟩ := q554
                    have hi665 := (hI661 20 (by decide)).trans hi547
                    have hi666 := (hI661 53 (by decide)).trans hi548
                    have hi667 := (hI661 50 (by decide)).trans hi545
                    have hF_668 := hF_549.mono (cIx hI661 (by decide)) (cRx hX662 (by decide))
                    have hY_669 := hY_550.mono (cIx hI661 (by decide)) (cRx hX662 (by decide))
                    have hEI670 := hEI551.tr hI661 (by decide)
                    have hER671 := hER361.tr hX662 (by decide)
                    show pl _ _ _ (136, [(0, .ref m0)], [.int 0], M553) _
                    refine ps_if (S1 := (141, [(0, .ref m0)], [], M553)) (S2 := (139, [(0, .ref m0)], [], M553)) rfl rfl rfl (fun c_136 => ?_) (fun c_136 => ?_)
                    · exact absurd (of_decide_eq_true c_136) (by decide)
                    refine ps_st (S' := (140, [(0, .ref m0)], [.int 0], M553)) rfl rfl rfl ?_
                    exact ps_ret rfl rfl (Or.inr ⟨(1, 8), I658, R659, by
                        unfold s_whole
                        rw [hh, if_neg (fun h => h rfl)]
                        rw [show s_pool f n (by2 f 6) = .inl (1, 8) by unfold s_pool; rw [if_pos (by omega)]], rfl, hR660, hEI670, hER671, hi663, hi664⟩)
                · have c_113 : ¬ ((nI (by2 f 4)) = 0) := of_decide_eq_false c_113
                  have n_113 : ¬ (by2 f 4 = 0) := fun h9 => c_113 ((eq_nI (p := by2 f 4) (n := 0) (Nat.lt_trans (by2_lt _ _) (by decide)) (by decide)).mpr h9)
                  refine ps_st (S' := (117, [(0, .ref m0)], [.ref m0], M365)) rfl rfl rfl ?_
                  refine ps_st (S' := (118, [(0, .ref m0)], [.int 3, .ref m0], M365)) rfl rfl rfl ?_
                  refine ps_st (S' := (119, [(0, .ref m0)], [.int 4, .int 3, .ref m0], M365)) rfl rfl rfl ?_
                  refine pl_call (a := [.ref m0, .int 3, .int 4]) (rest := []) rfl rfl rfl (rd_wrong (x1 := 3) (x2 := 4) hR367) (fun v672 M673 q674 => ?_)
                  obtain ⟨I675, R676, rfl, hR677, hI678, hX679, hi680, hi681⟩ := q674
                  have hi682 := (hI678 20 (by decide)).trans hi370
                  have hi683 := (hI678 50 (by decide)).trans hi371
                  have hi684 := (hI678 53 (by decide)).trans hi368
                  have hF_685 := hF_372.mono (cIx hI678 (by decide)) (cRx hX679 (by decide))
                  have hY_686 := hY_373.mono (cIx hI678 (by decide)) (cRx hX679 (by decide))
                  have hEI687 := hEI374.tr hI678 (by decide)
                  have hER688 := hER361.tr hX679 (by decide)
                  show pl _ _ _ (122, [(0, .ref m0)], [.int 0], M673) _
                  exact ps_ret rfl rfl (Or.inr ⟨(3, 4), I675, R676, by
                      have hh : s_head f n = (3, 4) := by
                        unfold s_head
                        first | ((repeat first | rw [if_pos (by omega)] | rw [if_neg (by omega)]) <;> first | rfl | omega) | ((repeat' split) <;> first | rfl | (exfalso; omega) | omega)
                      unfold s_whole
                      rw [hh, if_pos (by decide)], rfl, hR677, hEI687, hER688, hi680, hi681⟩)
        · skip
          obtain ⟨I689, R690, q63_s, rfl, hR691, hI692, hX693, hi694, hi695⟩ := q350
          have hi696 := (hI692 20 (by decide)).trans hi344
          have hi697 := (hI692 50 (by decide)).trans hi342
          have hF_698 := hF_345.mono (cIx hI692 (by decide)) (cRx hX693 (by decide))
          have hY_699 := hY_346.mono (cIx hI692 (by decide)) (cRx hX693 (by decide))
          have hEI700 := hEI347.tr hI692 (by decide)
          have hER701 := hER338.tr hX693 (by decide)
          show pl _ _ _ (66, [(0, .ref m0)], [.int 0], M349) _
          refine ps_if (S1 := (71, [(0, .ref m0)], [], M349)) (S2 := (69, [(0, .ref m0)], [], M349)) rfl rfl rfl (fun c_66 => ?_) (fun c_66 => ?_)
          · exact absurd (of_decide_eq_true c_66) (by decide)
          refine ps_st (S' := (70, [(0, .ref m0)], [.int 0], M349)) rfl rfl rfl ?_
          exact ps_ret rfl rfl (Or.inr ⟨(1, 6), I689, R690, by
              have hh : s_head f n = (1, 6) := by
                unfold s_head
                first | ((repeat first | rw [if_pos (by omega)] | rw [if_neg (by omega)]) <;> first | rfl | omega) | ((repeat' split) <;> first | rfl | (exfalso; omega) | omega)
              unfold s_whole
              rw [hh, if_pos (by decide)], rfl, hR691, hEI700, hER701, hi694, hi695⟩)
      · skip
        obtain ⟨I702, R703, q45_s, rfl, hR704, hI705, hX706, hi707, hi708⟩ := q327
        have hi709 := (hI705 20 (by decide)).trans hi321
        have hi710 := (hI705 50 (by decide)).trans hi319
        have hF_711 := hF_322.mono (cIx hI705 (by decide)) (cRx hX706 (by decide))
        have hY_712 := hY_323.mono (cIx hI705 (by decide)) (cRx hX706 (by decide))
        have hEI713 := hEI324.tr hI705 (by decide)
        have hER714 := hER312.tr hX706 (by decide)
        show pl _ _ _ (48, [(0, .ref m0)], [.int 0], M326) _
        refine ps_if (S1 := (53, [(0, .ref m0)], [], M326)) (S2 := (51, [(0, .ref m0)], [], M326)) rfl rfl rfl (fun c_48 => ?_) (fun c_48 => ?_)
        · exact absurd (of_decide_eq_true c_48) (by decide)
        refine ps_st (S' := (52, [(0, .ref m0)], [.int 0], M326)) rfl rfl rfl ?_
        exact ps_ret rfl rfl (Or.inr ⟨(1, 4), I702, R703, by
            have hh : s_head f n = (1, 4) := by
              unfold s_head
              first | ((repeat first | rw [if_pos (by omega)] | rw [if_neg (by omega)]) <;> first | rfl | omega) | ((repeat' split) <;> first | rfl | (exfalso; omega) | omega)
            unfold s_whole
            rw [hh, if_pos (by decide)], rfl, hR704, hEI713, hER714, hi707, hi708⟩)
    · have n_26 : ¬ (by4 f 0 = 3405691582) := fun h9 => of_decide_eq_false c_26 ((cL_eq (p := by4 f 0) (k := 3405691582) (x := (nL (by4 f 0))) (y := 3405691582) rfl rfl (by omega) (by omega)).mpr h9)
      refine ps_st (S' := (30, [(0, .ref m0)], [.ref m0], M300)) rfl rfl rfl ?_
      refine ps_st (S' := (31, [(0, .ref m0)], [.int 2, .ref m0], M300)) rfl rfl rfl ?_
      refine ps_st (S' := (32, [(0, .ref m0)], [.int 0, .int 2, .ref m0], M300)) rfl rfl rfl ?_
      refine pl_call (a := [.ref m0, .int 2, .int 0]) (rest := []) rfl rfl rfl (rd_wrong (x1 := 2) (x2 := 0) hR304) (fun v715 M716 q717 => ?_)
      obtain ⟨I718, R719, rfl, hR720, hI721, hX722, hi723, hi724⟩ := q717
      have hi725 := (hI721 20 (by decide)).trans hi307
      have hi726 := (hI721 50 (by decide)).trans hi308
      have hF_727 := hF_309.mono (cIx hI721 (by decide)) (cRx hX722 (by decide))
      have hY_728 := hY_310.mono (cIx hI721 (by decide)) (cRx hX722 (by decide))
      have hEI729 := hEI311.tr hI721 (by decide)
      have hER730 := hER312.tr hX722 (by decide)
      show pl _ _ _ (35, [(0, .ref m0)], [.int 0], M716) _
      exact ps_ret rfl rfl (Or.inr ⟨(2, 0), I718, R719, by
          have hh : s_head f n = (2, 0) := by
            unfold s_head
            first | ((repeat first | rw [if_pos (by omega)] | rw [if_neg (by omega)]) <;> first | rfl | omega) | ((repeat' split) <;> first | rfl | (exfalso; omega) | omega)
          unfold s_whole
          rw [hh, if_pos (by decide)], rfl, hR720, hEI729, hER730, hi723, hi724⟩)
  · skip
    obtain ⟨I731, R732, q9_s, rfl, hR733, hI734, hX735, hi736, hi737⟩ := q301
    have hi738 := (hI734 20 (by decide)).trans hi295
    have hi739 := (hI734 50 (by decide)).trans hi293
    have hF_740 := hF_296.mono (cIx hI734 (by decide)) (cRx hX735 (by decide))
    have hY_741 := hY_297.mono (cIx hI734 (by decide)) (cRx hX735 (by decide))
    have hEI742 := hEI298.tr hI734 (by decide)
    have hER743 := hER.tr hX735 (by decide)
    show pl _ _ _ (12, [(0, .ref m0)], [.int 0], M300) _
    refine ps_if (S1 := (17, [(0, .ref m0)], [], M300)) (S2 := (15, [(0, .ref m0)], [], M300)) rfl rfl rfl (fun c_12 => ?_) (fun c_12 => ?_)
    · exact absurd (of_decide_eq_true c_12) (by decide)
    refine ps_st (S' := (16, [(0, .ref m0)], [.int 0], M300)) rfl rfl rfl ?_
    exact ps_ret rfl rfl (Or.inr ⟨(1, 0), I731, R732, by
        have hh : s_head f n = (1, 0) := by
          unfold s_head
          first | ((repeat first | rw [if_pos (by omega)] | rw [if_neg (by omega)]) <;> first | rfl | omega) | ((repeat' split) <;> first | rfl | (exfalso; omega) | omega)
        unfold s_whole
        rw [hh, if_pos (by decide)], rfl, hR733, hEI742, hER743, hi736, hi737⟩)
