section
/-! the reference reads the file (laid by wip/p4/e5.py) -/
set_option maxHeartbeats 1000000 in
theorem rd_readFile {g : xe_G} {m0 : Nat} {q : Nat → Nat} {z : Nat × Nat} {I : rI} {R : rR} {M : mi_H} {n : Nat} {f : Nat → Int32} {tx : List (List Nat)} {cN : Nat} {A : Nat → Nat} (hR : RS g m0 q z I R M) (hi20 : I 20 = some 0) (hF : FK n f I R) (hY : SYT tx cN A I R)  : pt (mT g) 237 [.ref m0] M (fun v M' => (∃ (E : List (Nat × Nat)) (p1 pF pM pA : Nat) (tx1 : List (List Nat)) (cN1 : Nat) (A1 : Nat → Nat) (I' : rI) (R' : rR), (s_whole f n = .inr (E, p1, pF, pM, pA)) ∧ (tx.length ≤ tx1.length ∧ ∀ s, s < tx.length → tx1.getD s [] = tx.getD s []) ∧ (s_class f n p1 = .inr pF) ∧ (s_mbs f n pF = .inr pM) ∧ (s_mbs f n pM = .inr pA) ∧ (s_attributes f n pA = .inr n) ∧ v = some (.int 1) ∧ RS g m0 q z I' R' M' ∧ eqI [3, 8, 20, 47, 48, 50, 51, 52, 53, 54, 55, 56, 57] I I' ∧ eqR [1, 2, 4, 5, 6, 7, 21, 22] R R' ∧ I' 51 = some 0 ∧ I' 52 = some (nI (by2 f 8)) ∧ I' 53 = some (nI (by2 f 6)) ∧ I' 54 = some (nI p1) ∧ I' 55 = some (nI pF) ∧ I' 56 = some (nI pM) ∧ I' 57 = some (nI pA) ∧ SYT tx1 cN1 A1 I' R' ∧ RPV f n E tx1 (by2 f 8) I' R') ∨ (∃ (e : Nat × Nat) (I' : rI) (R' : rR), (s_whole f n = .inl e) ∧ v = some (.int 0) ∧ RS g m0 q z I' R' M' ∧ eqI [3, 8, 20, 47, 48, 50, 51, 52, 53, 54, 55, 56, 57] I I' ∧ eqR [1, 2, 4, 5, 6, 7, 21, 22] R R' ∧ I' 47 = some (nI e.1) ∧ I' 48 = some (nI e.2))) := by
  refine pt_in (b := mb_237 g) rfl (fun kf => ?_)
  show pl (mT g) kf (mb_237 g).2 (0, [(0, .ref m0)], [], M) _
  have hEI : eqI [3, 8, 20, 47, 48, 50, 51, 52, 53, 54, 55, 56, 57] I I := eqI.rf
  have hER : eqR [1, 2, 4, 5, 6, 7, 21, 22] R R := eqR.rf
  have hn := hF.1
  have LL : ∀ (kf : Nat), (∀ (k p1 : Nat) (E : List (Nat × Nat)) (tx1 : List (List Nat)) (cN1 : Nat) (A1 : Nat → Nat) (M1 : mi_H) (I1 : rI) (R1 : rR), (RS g m0 q z I1 R1 M1) → (eqI [3, 8, 20, 47, 48, 50, 51, 52, 53, 54, 55, 56, 57] I I1) → (eqR [1, 2, 4, 5, 6, 7, 21, 22] R R1) → (I1 50 = some (nI (p1 + 2 * k))) → (I1 51 = some 0) → (I1 52 = some (nI (by2 f 8))) → (I1 53 = some (nI (by2 f 6))) → (I1 54 = some (nI p1)) → (FK n f I1 R1) → (SYT tx1 cN1 A1 I1 R1) → (RPV f n E tx1 (by2 f 8) I1 R1) → (s_head f n = (0, 0)) → (s_pool f n (by2 f 6) = .inr (p1, E)) → (tx.length ≤ tx1.length ∧ ∀ s, s < tx.length → tx1.getD s [] = tx.getD s []) → (k ≤ 4 ∧ p1 + 2 * k ≤ n) →  pl (mT g) kf (mb_237 g).2 (191, [(0, .ref m0), (1, .int (nI k))], [], M1) (fun v M' => (∃ (E : List (Nat × Nat)) (p1 pF pM pA : Nat) (tx1 : List (List Nat)) (cN1 : Nat) (A1 : Nat → Nat) (I' : rI) (R' : rR), (s_whole f n = .inr (E, p1, pF, pM, pA)) ∧ (tx.length ≤ tx1.length ∧ ∀ s, s < tx.length → tx1.getD s [] = tx.getD s []) ∧ (s_class f n p1 = .inr pF) ∧ (s_mbs f n pF = .inr pM) ∧ (s_mbs f n pM = .inr pA) ∧ (s_attributes f n pA = .inr n) ∧ v = some (.int 1) ∧ RS g m0 q z I' R' M' ∧ eqI [3, 8, 20, 47, 48, 50, 51, 52, 53, 54, 55, 56, 57] I I' ∧ eqR [1, 2, 4, 5, 6, 7, 21, 22] R R' ∧ I' 51 = some 0 ∧ I' 52 = some (nI (by2 f 8)) ∧ I' 53 = some (nI (by2 f 6)) ∧ I' 54 = some (nI p1) ∧ I' 55 = some (nI pF) ∧ I' 56 = some (nI pM) ∧ I' 57 = some (nI pA) ∧ SYT tx1 cN1 A1 I' R' ∧ RPV f n E tx1 (by2 f 8) I' R') ∨ (∃ (e : Nat × Nat) (I' : rI) (R' : rR), (s_whole f n = .inl e) ∧ v = some (.int 0) ∧ RS g m0 q z I' R' M' ∧ eqI [3, 8, 20, 47, 48, 50, 51, 52, 53, 54, 55, 56, 57] I I' ∧ eqR [1, 2, 4, 5, 6, 7, 21, 22] R R' ∧ I' 47 = some (nI e.1) ∧ I' 48 = some (nI e.2)))) ∧ (∀ (i p1 : Nat) (E : List (Nat × Nat)) (tx1 : List (List Nat)) (cN1 : Nat) (A1 : Nat → Nat) (M1 : mi_H) (I1 : rI) (R1 : rR), (RS g m0 q z I1 R1 M1) → (eqI [3, 8, 20, 47, 48, 50, 51, 52, 53, 54, 55, 56, 57] I I1) → (eqR [1, 2, 4, 5, 6, 7, 21, 22] R R1) → (I1 50 = some (nI (p1 + 8 + 2 * i))) → (I1 51 = some 0) → (I1 52 = some (nI (by2 f 8))) → (I1 53 = some (nI (by2 f 6))) → (I1 54 = some (nI p1)) → (FK n f I1 R1) → (SYT tx1 cN1 A1 I1 R1) → (RPV f n E tx1 (by2 f 8) I1 R1) → (s_head f n = (0, 0)) → (s_pool f n (by2 f 6) = .inr (p1, E)) → (tx.length ≤ tx1.length ∧ ∀ s, s < tx.length → tx1.getD s [] = tx.getD s []) → (i ≤ by2 f (p1 + 6) ∧ p1 + 8 + 2 * i ≤ n) → (s_two n (by2 f (p1 + 6) - i) (p1 + 8 + 2 * i) = s_class f n p1) →  pl (mT g) kf (mb_237 g).2 (237, [(0, .ref m0), (1, .int (nI (by2 f (p1 + 6)))), (2, .int (nI i))], [], M1) (fun v M' => (∃ (E : List (Nat × Nat)) (p1 pF pM pA : Nat) (tx1 : List (List Nat)) (cN1 : Nat) (A1 : Nat → Nat) (I' : rI) (R' : rR), (s_whole f n = .inr (E, p1, pF, pM, pA)) ∧ (tx.length ≤ tx1.length ∧ ∀ s, s < tx.length → tx1.getD s [] = tx.getD s []) ∧ (s_class f n p1 = .inr pF) ∧ (s_mbs f n pF = .inr pM) ∧ (s_mbs f n pM = .inr pA) ∧ (s_attributes f n pA = .inr n) ∧ v = some (.int 1) ∧ RS g m0 q z I' R' M' ∧ eqI [3, 8, 20, 47, 48, 50, 51, 52, 53, 54, 55, 56, 57] I I' ∧ eqR [1, 2, 4, 5, 6, 7, 21, 22] R R' ∧ I' 51 = some 0 ∧ I' 52 = some (nI (by2 f 8)) ∧ I' 53 = some (nI (by2 f 6)) ∧ I' 54 = some (nI p1) ∧ I' 55 = some (nI pF) ∧ I' 56 = some (nI pM) ∧ I' 57 = some (nI pA) ∧ SYT tx1 cN1 A1 I' R' ∧ RPV f n E tx1 (by2 f 8) I' R') ∨ (∃ (e : Nat × Nat) (I' : rI) (R' : rR), (s_whole f n = .inl e) ∧ v = some (.int 0) ∧ RS g m0 q z I' R' M' ∧ eqI [3, 8, 20, 47, 48, 50, 51, 52, 53, 54, 55, 56, 57] I I' ∧ eqR [1, 2, 4, 5, 6, 7, 21, 22] R R' ∧ I' 47 = some (nI e.1) ∧ I' 48 = some (nI e.2)))) := by
    intro kf
    induction kf with
    | zero => exact ⟨by intros; exact pl_0, by intros; exact pl_0⟩
    | succ kf ih =>
      refine ⟨?_, ?_⟩
      · skip
        intro k p1 E tx1 cN1 A1 M1 I1 R1 hR1 hEI1 hER1 hl50 hl51 hl52 hl53 hl54 hF1 hY1 hP1 hh hpl htx hk
        have hn := hF1.1
        refine ps_st1 (S' := (192, [(0, .ref m0), (1, .int (nI k))], [.int (nI k)], M1)) rfl rfl rfl ?_
        refine ps_st (S' := (193, [(0, .ref m0), (1, .int (nI k))], [.int 4, .int (nI k)], M1)) rfl rfl rfl ?_
        refine ps_if2 (S1 := (224, [(0, .ref m0), (1, .int (nI k))], [], M1)) (S2 := (196, [(0, .ref m0), (1, .int (nI k))], [], M1)) rfl rfl rfl (fun c_193 => ?_) (fun c_193 => ?_)
        · have c_193 : 4 ≤ (nI k) := of_decide_eq_true c_193
          have n_193 : 4 ≤ k := (le_nI (p := 4) (n := k) (by decide) (by omega)).mp c_193
          refine ps_st (S' := (225, [(0, .ref m0), (1, .int (nI k))], [.ref m0], M1)) rfl rfl rfl ?_
          refine ps_st (S' := (226, [(0, .ref m0), (1, .int (nI k))], [.ref m0, .ref m0], M1)) rfl rfl rfl ?_
          refine pr_int (j := 50) (S' := (229, [(0, .ref m0), (1, .int (nI k))], [.int (nI (p1 + 2 * k)), .ref m0], M1)) rfl hR1 rfl hl50 rfl ?_
          refine ps_st (S' := (230, [(0, .ref m0), (1, .int (nI k))], [.int 2, .int (nI (p1 + 2 * k)), .ref m0], M1)) rfl rfl rfl ?_
          refine ps_st (S' := (231, [(0, .ref m0), (1, .int (nI k))], [.int ((nI (p1 + 2 * k)) - 2), .ref m0], M1)) rfl rfl rfl ?_
          rw [nI_sub1 (p := p1 + 2 * k) (k := 2) (x := 2) rfl (by omega) (by omega)]
          show pl _ _ _ (_, [(0, .ref m0), (1, .int (nI k))], [.int (nI ((p1 + 2 * k) - 2)), .ref m0], M1) _
          refine pl_top (x := (nI ((p1 + 2 * k) - 2))) (y := (nI (p1 + 6))) (congrArg nI (by omega)) ?_
          refine pl_call (a := [.ref m0, .int (nI (p1 + 6))]) (rest := []) rfl rfl rfl (rd_u2 (n := n) (f := f) (p := (p1 + 6)) hR1 hF1 (by omega)) (fun v1 M2 q3 => ?_)
          obtain ⟨rfl, rfl⟩ := q3
          show pl _ _ _ (234, [(0, .ref m0), (1, .int (nI k))], [.int (nI (by2 f (p1 + 6)))], M1) _
          have hu_231 := by2_lt f (p1 + 6)
          refine ps_st (S' := (235, [(1, .int (nI (by2 f (p1 + 6)))), (0, .ref m0)], [], M1)) rfl rfl rfl ?_
          refine ps_st (S' := (236, [(1, .int (nI (by2 f (p1 + 6)))), (0, .ref m0)], [.int 0], M1)) rfl rfl rfl ?_
          refine ps_st (S' := (237, [(0, .ref m0), (1, .int (nI (by2 f (p1 + 6)))), (2, .int 0)], [], M1)) rfl rfl rfl ?_
          have hi4 := hl50.trans (congrArg (fun x => some (nI x)) (show p1 + 2 * k = p1 + 8 + 2 * 0 by omega))
          exact ih.2 (0) (p1) (E) (tx1) (cN1) (A1) M1 I1 R1 hR1 hEI1 hER1 hi4 hl51 hl52 hl53 hl54 hF1 hY1 hP1 (hh) (hpl) (htx) (by omega) (by
              unfold s_class
              rw [if_neg (by omega), if_neg (by omega), if_neg (by omega), if_neg (by omega)]
              rfl)
        · have c_193 : ¬ (4 ≤ (nI k)) := of_decide_eq_false c_193
          have n_193 : ¬ (4 ≤ k) := fun h9 => c_193 ((le_nI (p := 4) (n := k) (by decide) (by omega)).mpr h9)
          refine ps_st (S' := (197, [(0, .ref m0), (1, .int (nI k))], [.ref m0], M1)) rfl rfl rfl ?_
          refine ps_st (S' := (200, [(0, .ref m0), (1, .int (nI k))], [.long 2, .ref m0], M1)) rfl rfl rfl ?_
          refine pl_call (a := [.ref m0, .long 2]) (rest := []) rfl rfl rfl (rd_item (n := n) (f := f) (p := (p1 + 2 * k)) (k := 2) hR1 hl50 hF1 (by omega) (by decide)) (fun v5 M6 q7 => ?_)
          rcases q7 with q7 | q7
          · skip
            obtain ⟨I8, R9, q200_s, rfl, hR10, hI11, hX12⟩ := q7
            have hi13 := (hI11 50 (by decide)).trans hl50
            have hi14 := (hI11 51 (by decide)).trans hl51
            have hi15 := (hI11 52 (by decide)).trans hl52
            have hi16 := (hI11 53 (by decide)).trans hl53
            have hi17 := (hI11 54 (by decide)).trans hl54
            have hF_18 := hF1.mono (cIx hI11 (by decide)) (cRx hX12 (by decide))
            have hY_19 := hY1.mono (cIx hI11 (by decide)) (cRx hX12 (by decide))
            have hP_20 := hP1.mono (cIx hI11 (by decide)) (cRx hX12 (by decide))
            have hEI21 := hEI1.tr hI11 (by decide)
            have hER22 := hER1.tr hX12 (by decide)
            show pl _ _ _ (203, [(0, .ref m0), (1, .int (nI k))], [.int 1], M6) _
            refine ps_if (S1 := (208, [(0, .ref m0), (1, .int (nI k))], [], M6)) (S2 := (206, [(0, .ref m0), (1, .int (nI k))], [], M6)) rfl rfl rfl (fun c_203 => ?_) (fun c_203 => ?_)
            rotate_left
            · exact absurd (by decide) (of_decide_eq_false c_203)
            refine ps_st (S' := (209, [(0, .ref m0), (1, .int (nI k))], [.ref m0], M6)) rfl rfl rfl ?_
            refine ps_st (S' := (210, [(0, .ref m0), (1, .int (nI k))], [.ref m0, .ref m0], M6)) rfl rfl rfl ?_
            refine pr_int (j := 50) (S' := (213, [(0, .ref m0), (1, .int (nI k))], [.int (nI (p1 + 2 * k)), .ref m0], M6)) rfl hR10 rfl hi13 rfl ?_
            refine ps_st (S' := (214, [(0, .ref m0), (1, .int (nI k))], [.int 2, .int (nI (p1 + 2 * k)), .ref m0], M6)) rfl rfl rfl ?_
            refine ps_st (S' := (215, [(0, .ref m0), (1, .int (nI k))], [.int ((nI (p1 + 2 * k)) + 2), .ref m0], M6)) rfl rfl rfl ?_
            rw [nI_add1 (p := p1 + 2 * k) (k := 2) (x := 2) rfl (by omega)]
            show pl _ _ _ (_, [(0, .ref m0), (1, .int (nI k))], [.int (nI (p1 + 2 * k + 2)), .ref m0], M6) _
            refine pr_put (j := 50) rfl hR10 rfl (fun M23 I24 hR25 hi26 hI27 => ?_)
            have hi28 := (hI27 51 (by decide)).trans hi14
            have hi29 := (hI27 52 (by decide)).trans hi15
            have hi30 := (hI27 53 (by decide)).trans hi16
            have hi31 := (hI27 54 (by decide)).trans hi17
            have hF_32 := hF_18.mono (pIx hI27 (by decide)) (fun _ _ => rfl)
            have hY_33 := hY_19.mono (pIx hI27 (by decide)) (fun _ _ => rfl)
            have hP_34 := hP_20.mono (pIx hI27 (by decide)) (fun _ _ => rfl)
            have hEI35 := hEI21.put hI27 (by decide)
            show pl _ _ _ (218, [(0, .ref m0), (1, .int (nI k))], [], M23) _
            refine ps_st (S' := (221, [(1, .int ((nI k) + 1)), (0, .ref m0)], [], M23)) rfl rfl rfl ?_
            rw [nI_add1 (p := k) (k := 1) (x := 1) rfl (by omega)]
            show pl _ _ _ (_, [(1, .int (nI (k + 1))), (0, .ref m0)], [], M23) _
            refine ps_st (S' := (191, [(0, .ref m0), (1, .int (nI (k + 1)))], [], M23)) rfl rfl rfl ?_
            exact ih.1 (k + 1) (p1) (E) (tx1) (cN1) (A1) M23 I24 R9 hR25 hEI35 hER22 hi26 hi28 hi29 hi30 hi31 hF_32 hY_33 hP_34 (hh) (hpl) (htx) (by omega)
          · skip
            obtain ⟨I36, R37, q200_s, rfl, hR38, hI39, hX40, hi41, hi42⟩ := q7
            have hi43 := (hI39 50 (by decide)).trans hl50
            have hi44 := (hI39 51 (by decide)).trans hl51
            have hi45 := (hI39 52 (by decide)).trans hl52
            have hi46 := (hI39 53 (by decide)).trans hl53
            have hi47 := (hI39 54 (by decide)).trans hl54
            have hF_48 := hF1.mono (cIx hI39 (by decide)) (cRx hX40 (by decide))
            have hY_49 := hY1.mono (cIx hI39 (by decide)) (cRx hX40 (by decide))
            have hP_50 := hP1.mono (cIx hI39 (by decide)) (cRx hX40 (by decide))
            have hEI51 := hEI1.tr hI39 (by decide)
            have hER52 := hER1.tr hX40 (by decide)
            show pl _ _ _ (203, [(0, .ref m0), (1, .int (nI k))], [.int 0], M6) _
            refine ps_if (S1 := (208, [(0, .ref m0), (1, .int (nI k))], [], M6)) (S2 := (206, [(0, .ref m0), (1, .int (nI k))], [], M6)) rfl rfl rfl (fun c_203 => ?_) (fun c_203 => ?_)
            · exact absurd (of_decide_eq_true c_203) (by decide)
            refine ps_st (S' := (207, [(0, .ref m0), (1, .int (nI k))], [.int 0], M6)) rfl rfl rfl ?_
            exact ps_ret rfl rfl (Or.inr ⟨(1, p1 + 2 * k), I36, R37, by
                unfold s_whole
                rw [hh, if_neg (fun h => h rfl)]
                rw [hpl]
                dsimp only
                rw [s_class_bad (j := k) (by omega) (by omega) (by omega)], rfl, hR38, hEI51, hER52, hi41, hi42⟩)
      · skip
        intro i p1 E tx1 cN1 A1 M1 I1 R1 hR1 hEI1 hER1 hl50 hl51 hl52 hl53 hl54 hF1 hY1 hP1 hh hpl htx hi hs
        have hn := hF1.1
        have hu9 := by2_lt f (p1 + 6)
        refine ps_st1 (S' := (238, [(0, .ref m0), (1, .int (nI (by2 f (p1 + 6)))), (2, .int (nI i))], [.int (nI i)], M1)) rfl rfl rfl ?_
        refine ps_st (S' := (239, [(0, .ref m0), (1, .int (nI (by2 f (p1 + 6)))), (2, .int (nI i))], [.int (nI (by2 f (p1 + 6))), .int (nI i)], M1)) rfl rfl rfl ?_
        refine ps_if2 (S1 := (270, [(0, .ref m0), (1, .int (nI (by2 f (p1 + 6)))), (2, .int (nI i))], [], M1)) (S2 := (242, [(0, .ref m0), (1, .int (nI (by2 f (p1 + 6)))), (2, .int (nI i))], [], M1)) rfl rfl rfl (fun c_239 => ?_) (fun c_239 => ?_)
        · have c_239 : (nI (by2 f (p1 + 6))) ≤ (nI i) := of_decide_eq_true c_239
          have n_239 : by2 f (p1 + 6) ≤ i := (le_nI (p := by2 f (p1 + 6)) (n := i) (Nat.lt_trans (by2_lt _ _) (by decide)) (by omega)).mp c_239
          have hcl : s_class f n p1 = .inr (p1 + 8 + 2 * i) := by
            rw [← hs, show by2 f (p1 + 6) - i = 0 by omega]
            rfl
          refine ps_st (S' := (271, [(0, .ref m0), (1, .int (nI (by2 f (p1 + 6)))), (2, .int (nI i))], [.ref m0], M1)) rfl rfl rfl ?_
          refine ps_st (S' := (272, [(0, .ref m0), (1, .int (nI (by2 f (p1 + 6)))), (2, .int (nI i))], [.ref m0, .ref m0], M1)) rfl rfl rfl ?_
          refine pr_int (j := 50) (S' := (275, [(0, .ref m0), (1, .int (nI (by2 f (p1 + 6)))), (2, .int (nI i))], [.int (nI (p1 + 8 + 2 * i)), .ref m0], M1)) rfl hR1 rfl hl50 rfl ?_
          refine pr_put (j := 55) rfl hR1 rfl (fun M53 I54 hR55 hi56 hI57 => ?_)
          have hi58 := (hI57 50 (by decide)).trans hl50
          have hi59 := (hI57 51 (by decide)).trans hl51
          have hi60 := (hI57 52 (by decide)).trans hl52
          have hi61 := (hI57 53 (by decide)).trans hl53
          have hi62 := (hI57 54 (by decide)).trans hl54
          have hF_63 := hF1.mono (pIx hI57 (by decide)) (fun _ _ => rfl)
          have hY_64 := hY1.mono (pIx hI57 (by decide)) (fun _ _ => rfl)
          have hP_65 := hP1.mono (pIx hI57 (by decide)) (fun _ _ => rfl)
          have hEI66 := hEI1.put hI57 (by decide)
          show pl _ _ _ (278, [(0, .ref m0), (1, .int (nI (by2 f (p1 + 6)))), (2, .int (nI i))], [], M53) _
          refine ps_st (S' := (279, [(0, .ref m0), (1, .int (nI (by2 f (p1 + 6)))), (2, .int (nI i))], [.ref m0], M53)) rfl rfl rfl ?_
          refine pl_call (a := [.ref m0]) (rest := []) rfl rfl rfl (rd_members (n := n) (f := f) (p := (p1 + 8 + 2 * i)) hR55 hi58 hF_63 (by omega)) (fun v67 M68 q69 => ?_)
          rcases q69 with q69 | q69
          · skip
            obtain ⟨p'70, I71, R72, q279_s, rfl, hR73, hI74, hX75, hi76⟩ := q69
            have hi77 := (hI74 51 (by decide)).trans hi59
            have hi78 := (hI74 52 (by decide)).trans hi60
            have hi79 := (hI74 53 (by decide)).trans hi61
            have hi80 := (hI74 54 (by decide)).trans hi62
            have hi81 := (hI74 55 (by decide)).trans hi56
            have hF_82 := hF_63.mono (cIx hI74 (by decide)) (cRx hX75 (by decide))
            have hY_83 := hY_64.mono (cIx hI74 (by decide)) (cRx hX75 (by decide))
            have hP_84 := hP_65.mono (cIx hI74 (by decide)) (cRx hX75 (by decide))
            have hEI85 := hEI66.tr hI74 (by decide)
            have hER86 := hER1.tr hX75 (by decide)
            show pl _ _ _ (282, [(0, .ref m0), (1, .int (nI (by2 f (p1 + 6)))), (2, .int (nI i))], [.int 1], M68) _
            have hle_279 := s_mbs_le q279_s
            refine ps_if (S1 := (287, [(0, .ref m0), (1, .int (nI (by2 f (p1 + 6)))), (2, .int (nI i))], [], M68)) (S2 := (285, [(0, .ref m0), (1, .int (nI (by2 f (p1 + 6)))), (2, .int (nI i))], [], M68)) rfl rfl rfl (fun c_282 => ?_) (fun c_282 => ?_)
            rotate_left
            · exact absurd (by decide) (of_decide_eq_false c_282)
            refine ps_st (S' := (288, [(0, .ref m0), (1, .int (nI (by2 f (p1 + 6)))), (2, .int (nI i))], [.ref m0], M68)) rfl rfl rfl ?_
            refine ps_st (S' := (289, [(0, .ref m0), (1, .int (nI (by2 f (p1 + 6)))), (2, .int (nI i))], [.ref m0, .ref m0], M68)) rfl rfl rfl ?_
            refine pr_int (j := 50) (S' := (292, [(0, .ref m0), (1, .int (nI (by2 f (p1 + 6)))), (2, .int (nI i))], [.int (nI p'70), .ref m0], M68)) rfl hR73 rfl hi76 rfl ?_
            refine pr_put (j := 56) rfl hR73 rfl (fun M87 I88 hR89 hi90 hI91 => ?_)
            have hi92 := (hI91 51 (by decide)).trans hi77
            have hi93 := (hI91 52 (by decide)).trans hi78
            have hi94 := (hI91 53 (by decide)).trans hi79
            have hi95 := (hI91 54 (by decide)).trans hi80
            have hi96 := (hI91 55 (by decide)).trans hi81
            have hi97 := (hI91 50 (by decide)).trans hi76
            have hF_98 := hF_82.mono (pIx hI91 (by decide)) (fun _ _ => rfl)
            have hY_99 := hY_83.mono (pIx hI91 (by decide)) (fun _ _ => rfl)
            have hP_100 := hP_84.mono (pIx hI91 (by decide)) (fun _ _ => rfl)
            have hEI101 := hEI85.put hI91 (by decide)
            show pl _ _ _ (295, [(0, .ref m0), (1, .int (nI (by2 f (p1 + 6)))), (2, .int (nI i))], [], M87) _
            refine ps_st (S' := (296, [(0, .ref m0), (1, .int (nI (by2 f (p1 + 6)))), (2, .int (nI i))], [.ref m0], M87)) rfl rfl rfl ?_
            refine pl_call (a := [.ref m0]) (rest := []) rfl rfl rfl (rd_members (n := n) (f := f) (p := (p'70)) hR89 hi97 hF_98 (by omega)) (fun v102 M103 q104 => ?_)
            rcases q104 with q104 | q104
            · skip
              obtain ⟨p'105, I106, R107, q296_s, rfl, hR108, hI109, hX110, hi111⟩ := q104
              have hi112 := (hI109 51 (by decide)).trans hi92
              have hi113 := (hI109 52 (by decide)).trans hi93
              have hi114 := (hI109 53 (by decide)).trans hi94
              have hi115 := (hI109 54 (by decide)).trans hi95
              have hi116 := (hI109 55 (by decide)).trans hi96
              have hi117 := (hI109 56 (by decide)).trans hi90
              have hF_118 := hF_98.mono (cIx hI109 (by decide)) (cRx hX110 (by decide))
              have hY_119 := hY_99.mono (cIx hI109 (by decide)) (cRx hX110 (by decide))
              have hP_120 := hP_100.mono (cIx hI109 (by decide)) (cRx hX110 (by decide))
              have hEI121 := hEI101.tr hI109 (by decide)
              have hER122 := hER86.tr hX110 (by decide)
              show pl _ _ _ (299, [(0, .ref m0), (1, .int (nI (by2 f (p1 + 6)))), (2, .int (nI i))], [.int 1], M103) _
              have hle_296 := s_mbs_le q296_s
              refine ps_if (S1 := (304, [(0, .ref m0), (1, .int (nI (by2 f (p1 + 6)))), (2, .int (nI i))], [], M103)) (S2 := (302, [(0, .ref m0), (1, .int (nI (by2 f (p1 + 6)))), (2, .int (nI i))], [], M103)) rfl rfl rfl (fun c_299 => ?_) (fun c_299 => ?_)
              rotate_left
              · exact absurd (by decide) (of_decide_eq_false c_299)
              refine ps_st (S' := (305, [(0, .ref m0), (1, .int (nI (by2 f (p1 + 6)))), (2, .int (nI i))], [.ref m0], M103)) rfl rfl rfl ?_
              refine ps_st (S' := (306, [(0, .ref m0), (1, .int (nI (by2 f (p1 + 6)))), (2, .int (nI i))], [.ref m0, .ref m0], M103)) rfl rfl rfl ?_
              refine pr_int (j := 50) (S' := (309, [(0, .ref m0), (1, .int (nI (by2 f (p1 + 6)))), (2, .int (nI i))], [.int (nI p'105), .ref m0], M103)) rfl hR108 rfl hi111 rfl ?_
              refine pr_put (j := 57) rfl hR108 rfl (fun M123 I124 hR125 hi126 hI127 => ?_)
              have hi128 := (hI127 51 (by decide)).trans hi112
              have hi129 := (hI127 52 (by decide)).trans hi113
              have hi130 := (hI127 53 (by decide)).trans hi114
              have hi131 := (hI127 54 (by decide)).trans hi115
              have hi132 := (hI127 55 (by decide)).trans hi116
              have hi133 := (hI127 56 (by decide)).trans hi117
              have hi134 := (hI127 50 (by decide)).trans hi111
              have hF_135 := hF_118.mono (pIx hI127 (by decide)) (fun _ _ => rfl)
              have hY_136 := hY_119.mono (pIx hI127 (by decide)) (fun _ _ => rfl)
              have hP_137 := hP_120.mono (pIx hI127 (by decide)) (fun _ _ => rfl)
              have hEI138 := hEI121.put hI127 (by decide)
              show pl _ _ _ (312, [(0, .ref m0), (1, .int (nI (by2 f (p1 + 6)))), (2, .int (nI i))], [], M123) _
              refine ps_st (S' := (313, [(0, .ref m0), (1, .int (nI (by2 f (p1 + 6)))), (2, .int (nI i))], [.ref m0], M123)) rfl rfl rfl ?_
              refine pl_call (a := [.ref m0]) (rest := []) rfl rfl rfl (rd_attributes (n := n) (f := f) (p := (p'105)) hR125 hi134 hF_135 (by omega)) (fun v139 M140 q141 => ?_)
              rcases q141 with q141 | q141
              · skip
                obtain ⟨p'142, I143, R144, q313_s, rfl, hR145, hI146, hX147, hi148⟩ := q141
                have hi149 := (hI146 51 (by decide)).trans hi128
                have hi150 := (hI146 52 (by decide)).trans hi129
                have hi151 := (hI146 53 (by decide)).trans hi130
                have hi152 := (hI146 54 (by decide)).trans hi131
                have hi153 := (hI146 55 (by decide)).trans hi132
                have hi154 := (hI146 56 (by decide)).trans hi133
                have hi155 := (hI146 57 (by decide)).trans hi126
                have hF_156 := hF_135.mono (cIx hI146 (by decide)) (cRx hX147 (by decide))
                have hY_157 := hY_136.mono (cIx hI146 (by decide)) (cRx hX147 (by decide))
                have hP_158 := hP_137.mono (cIx hI146 (by decide)) (cRx hX147 (by decide))
                have hEI159 := hEI138.tr hI146 (by decide)
                have hER160 := hER122.tr hX147 (by decide)
                show pl _ _ _ (316, [(0, .ref m0), (1, .int (nI (by2 f (p1 + 6)))), (2, .int (nI i))], [.int 1], M140) _
                have hle_313 := s_attributes_le2 q313_s
                refine ps_if (S1 := (321, [(0, .ref m0), (1, .int (nI (by2 f (p1 + 6)))), (2, .int (nI i))], [], M140)) (S2 := (319, [(0, .ref m0), (1, .int (nI (by2 f (p1 + 6)))), (2, .int (nI i))], [], M140)) rfl rfl rfl (fun c_316 => ?_) (fun c_316 => ?_)
                rotate_left
                · exact absurd (by decide) (of_decide_eq_false c_316)
                refine ps_st (S' := (322, [(0, .ref m0), (1, .int (nI (by2 f (p1 + 6)))), (2, .int (nI i))], [.ref m0], M140)) rfl rfl rfl ?_
                refine pr_int (j := 50) (S' := (325, [(0, .ref m0), (1, .int (nI (by2 f (p1 + 6)))), (2, .int (nI i))], [.int (nI p'142)], M140)) rfl hR145 rfl hi148 rfl ?_
                refine ps_st (S' := (326, [(0, .ref m0), (1, .int (nI (by2 f (p1 + 6)))), (2, .int (nI i))], [.ref m0, .int (nI p'142)], M140)) rfl rfl rfl ?_
                refine pr_int (j := 16) (S' := (329, [(0, .ref m0), (1, .int (nI (by2 f (p1 + 6)))), (2, .int (nI i))], [.int (nI n), .int (nI p'142)], M140)) rfl hR145 rfl hF_156.2.2.1 rfl ?_
                refine ps_if2 (S1 := (345, [], [], M140)) (S2 := (332, [(0, .ref m0), (1, .int (nI (by2 f (p1 + 6)))), (2, .int (nI i))], [], M140)) rfl rfl rfl (fun c_329 => ?_) (fun c_329 => ?_)
                · have c_329 : (nI p'142) = (nI n) := of_decide_eq_true c_329
                  have n_329 : p'142 = n := (eq_nI (p := p'142) (n := n) (by omega) (by omega)).mp c_329
                  refine ps_st (S' := (346, [], [.int 1], M140)) rfl rfl rfl ?_
                  refine ps_st (S' := (350, [], [.int 1], M140)) rfl rfl rfl ?_
                  exact ps_ret rfl rfl (Or.inl ⟨E, p1, p1 + 8 + 2 * i, p'70, p'105, tx1, cN1, A1, I143, R144, by
                      unfold s_whole
                      rw [hh, if_neg (fun h => h rfl), hpl]
                      dsimp only
                      rw [hcl]
                      dsimp only
                      rw [q279_s]
                      dsimp only
                      rw [q296_s]
                      dsimp only
                      rw [show s_end f n p'105 = none by unfold s_end; rw [q313_s]; dsimp only; rw [if_pos n_329]], htx, hcl, q279_s, q296_s, by rw [q313_s, n_329], rfl, hR145, hEI159, hER160, hi149, hi150, hi151, hi152, hi153, hi154, hi155, hY_157, hP_158⟩)
                · have c_329 : ¬ ((nI p'142) = (nI n)) := of_decide_eq_false c_329
                  have n_329 : ¬ (p'142 = n) := fun h9 => c_329 ((eq_nI (p := p'142) (n := n) (by omega) (by omega)).mpr h9)
                  refine ps_st (S' := (333, [(0, .ref m0), (1, .int (nI (by2 f (p1 + 6)))), (2, .int (nI i))], [.ref m0], M140)) rfl rfl rfl ?_
                  refine ps_st (S' := (335, [(0, .ref m0), (1, .int (nI (by2 f (p1 + 6)))), (2, .int (nI i))], [.int 8, .ref m0], M140)) rfl rfl rfl ?_
                  refine ps_st (S' := (336, [(0, .ref m0), (1, .int (nI (by2 f (p1 + 6)))), (2, .int (nI i))], [.ref m0, .int 8, .ref m0], M140)) rfl rfl rfl ?_
                  refine pr_int (j := 50) (S' := (339, [(0, .ref m0), (1, .int (nI (by2 f (p1 + 6)))), (2, .int (nI i))], [.int (nI p'142), .int 8, .ref m0], M140)) rfl hR145 rfl hi148 rfl ?_
                  refine pl_call (a := [.ref m0, .int 8, .int (nI p'142)]) (rest := []) rfl rfl rfl (rd_wrong (x1 := 8) (x2 := (nI p'142)) hR145) (fun v161 M162 q163 => ?_)
                  obtain ⟨I164, R165, rfl, hR166, hI167, hX168, hi169, hi170⟩ := q163
                  have hi171 := (hI167 51 (by decide)).trans hi149
                  have hi172 := (hI167 52 (by decide)).trans hi150
                  have hi173 := (hI167 53 (by decide)).trans hi151
                  have hi174 := (hI167 54 (by decide)).trans hi152
                  have hi175 := (hI167 55 (by decide)).trans hi153
                  have hi176 := (hI167 56 (by decide)).trans hi154
                  have hi177 := (hI167 57 (by decide)).trans hi155
                  have hi178 := (hI167 50 (by decide)).trans hi148
                  have hi179 := (hI167 16 (by decide)).trans hF_156.2.2.1
                  have hF_180 := hF_156.mono (cIx hI167 (by decide)) (cRx hX168 (by decide))
                  have hY_181 := hY_157.mono (cIx hI167 (by decide)) (cRx hX168 (by decide))
                  have hP_182 := hP_158.mono (cIx hI167 (by decide)) (cRx hX168 (by decide))
                  have hEI183 := hEI159.tr hI167 (by decide)
                  have hER184 := hER160.tr hX168 (by decide)
                  show pl _ _ _ (342, [(0, .ref m0), (1, .int (nI (by2 f (p1 + 6)))), (2, .int (nI i))], [.int 0], M162) _
                  refine ps_if (S1 := (349, [(0, .ref m0), (1, .int (nI (by2 f (p1 + 6)))), (2, .int (nI i))], [], M162)) (S2 := (345, [], [], M162)) rfl rfl rfl (fun c_342 => ?_) (fun c_342 => ?_)
                  rotate_left
                  · exact absurd (by decide) (of_decide_eq_false c_342)
                  refine ps_st (S' := (350, [], [.int 0], M162)) rfl rfl rfl ?_
                  exact ps_ret rfl rfl (Or.inr ⟨(8, p'142), I164, R165, by
                      unfold s_whole
                      rw [hh, if_neg (fun h => h rfl)]
                      rw [hpl]
                      dsimp only
                      rw [hcl]
                      dsimp only
                      rw [q279_s]
                      dsimp only
                      rw [q296_s]
                      dsimp only
                      rw [show s_end f n p'105 = some (8, p'142) by unfold s_end; rw [q313_s]; dsimp only; rw [if_neg n_329]], rfl, hR166, hEI183, hER184, hi169, hi170⟩)
              · skip
                obtain ⟨e185, I186, R187, q313_s, rfl, hR188, hI189, hX190, hi191, hi192⟩ := q141
                have hi193 := (hI189 51 (by decide)).trans hi128
                have hi194 := (hI189 52 (by decide)).trans hi129
                have hi195 := (hI189 53 (by decide)).trans hi130
                have hi196 := (hI189 54 (by decide)).trans hi131
                have hi197 := (hI189 55 (by decide)).trans hi132
                have hi198 := (hI189 56 (by decide)).trans hi133
                have hi199 := (hI189 57 (by decide)).trans hi126
                have hF_200 := hF_135.mono (cIx hI189 (by decide)) (cRx hX190 (by decide))
                have hY_201 := hY_136.mono (cIx hI189 (by decide)) (cRx hX190 (by decide))
                have hP_202 := hP_137.mono (cIx hI189 (by decide)) (cRx hX190 (by decide))
                have hEI203 := hEI138.tr hI189 (by decide)
                have hER204 := hER122.tr hX190 (by decide)
                show pl _ _ _ (316, [(0, .ref m0), (1, .int (nI (by2 f (p1 + 6)))), (2, .int (nI i))], [.int 0], M140) _
                refine ps_if (S1 := (321, [(0, .ref m0), (1, .int (nI (by2 f (p1 + 6)))), (2, .int (nI i))], [], M140)) (S2 := (319, [(0, .ref m0), (1, .int (nI (by2 f (p1 + 6)))), (2, .int (nI i))], [], M140)) rfl rfl rfl (fun c_316 => ?_) (fun c_316 => ?_)
                · exact absurd (of_decide_eq_true c_316) (by decide)
                refine ps_st (S' := (320, [(0, .ref m0), (1, .int (nI (by2 f (p1 + 6)))), (2, .int (nI i))], [.int 0], M140)) rfl rfl rfl ?_
                exact ps_ret rfl rfl (Or.inr ⟨e185, I186, R187, by
                    unfold s_whole
                    rw [hh, if_neg (fun h => h rfl)]
                    rw [hpl]
                    dsimp only
                    rw [hcl]
                    dsimp only
                    rw [q279_s]
                    dsimp only
                    rw [q296_s]
                    dsimp only
                    rw [show s_end f n p'105 = some e185 by unfold s_end; rw [q313_s]], rfl, hR188, hEI203, hER204, hi191, hi192⟩)
            · skip
              obtain ⟨e205, I206, R207, q296_s, rfl, hR208, hI209, hX210, hi211, hi212⟩ := q104
              have hi213 := (hI209 51 (by decide)).trans hi92
              have hi214 := (hI209 52 (by decide)).trans hi93
              have hi215 := (hI209 53 (by decide)).trans hi94
              have hi216 := (hI209 54 (by decide)).trans hi95
              have hi217 := (hI209 55 (by decide)).trans hi96
              have hi218 := (hI209 56 (by decide)).trans hi90
              have hF_219 := hF_98.mono (cIx hI209 (by decide)) (cRx hX210 (by decide))
              have hY_220 := hY_99.mono (cIx hI209 (by decide)) (cRx hX210 (by decide))
              have hP_221 := hP_100.mono (cIx hI209 (by decide)) (cRx hX210 (by decide))
              have hEI222 := hEI101.tr hI209 (by decide)
              have hER223 := hER86.tr hX210 (by decide)
              show pl _ _ _ (299, [(0, .ref m0), (1, .int (nI (by2 f (p1 + 6)))), (2, .int (nI i))], [.int 0], M103) _
              refine ps_if (S1 := (304, [(0, .ref m0), (1, .int (nI (by2 f (p1 + 6)))), (2, .int (nI i))], [], M103)) (S2 := (302, [(0, .ref m0), (1, .int (nI (by2 f (p1 + 6)))), (2, .int (nI i))], [], M103)) rfl rfl rfl (fun c_299 => ?_) (fun c_299 => ?_)
              · exact absurd (of_decide_eq_true c_299) (by decide)
              refine ps_st (S' := (303, [(0, .ref m0), (1, .int (nI (by2 f (p1 + 6)))), (2, .int (nI i))], [.int 0], M103)) rfl rfl rfl ?_
              exact ps_ret rfl rfl (Or.inr ⟨e205, I206, R207, by
                  unfold s_whole
                  rw [hh, if_neg (fun h => h rfl)]
                  rw [hpl]
                  dsimp only
                  rw [hcl]
                  dsimp only
                  rw [q279_s]
                  dsimp only
                  rw [q296_s], rfl, hR208, hEI222, hER223, hi211, hi212⟩)
          · skip
            obtain ⟨e224, I225, R226, q279_s, rfl, hR227, hI228, hX229, hi230, hi231⟩ := q69
            have hi232 := (hI228 51 (by decide)).trans hi59
            have hi233 := (hI228 52 (by decide)).trans hi60
            have hi234 := (hI228 53 (by decide)).trans hi61
            have hi235 := (hI228 54 (by decide)).trans hi62
            have hi236 := (hI228 55 (by decide)).trans hi56
            have hF_237 := hF_63.mono (cIx hI228 (by decide)) (cRx hX229 (by decide))
            have hY_238 := hY_64.mono (cIx hI228 (by decide)) (cRx hX229 (by decide))
            have hP_239 := hP_65.mono (cIx hI228 (by decide)) (cRx hX229 (by decide))
            have hEI240 := hEI66.tr hI228 (by decide)
            have hER241 := hER1.tr hX229 (by decide)
            show pl _ _ _ (282, [(0, .ref m0), (1, .int (nI (by2 f (p1 + 6)))), (2, .int (nI i))], [.int 0], M68) _
            refine ps_if (S1 := (287, [(0, .ref m0), (1, .int (nI (by2 f (p1 + 6)))), (2, .int (nI i))], [], M68)) (S2 := (285, [(0, .ref m0), (1, .int (nI (by2 f (p1 + 6)))), (2, .int (nI i))], [], M68)) rfl rfl rfl (fun c_282 => ?_) (fun c_282 => ?_)
            · exact absurd (of_decide_eq_true c_282) (by decide)
            refine ps_st (S' := (286, [(0, .ref m0), (1, .int (nI (by2 f (p1 + 6)))), (2, .int (nI i))], [.int 0], M68)) rfl rfl rfl ?_
            exact ps_ret rfl rfl (Or.inr ⟨e224, I225, R226, by
                unfold s_whole
                rw [hh, if_neg (fun h => h rfl)]
                rw [hpl]
                dsimp only
                rw [hcl]
                dsimp only
                rw [q279_s], rfl, hR227, hEI240, hER241, hi230, hi231⟩)
        · have c_239 : ¬ ((nI (by2 f (p1 + 6))) ≤ (nI i)) := of_decide_eq_false c_239
          have n_239 : ¬ (by2 f (p1 + 6) ≤ i) := fun h9 => c_239 ((le_nI (p := by2 f (p1 + 6)) (n := i) (Nat.lt_trans (by2_lt _ _) (by decide)) (by omega)).mpr h9)
          refine ps_st (S' := (243, [(0, .ref m0), (1, .int (nI (by2 f (p1 + 6)))), (2, .int (nI i))], [.ref m0], M1)) rfl rfl rfl ?_
          refine ps_st (S' := (246, [(0, .ref m0), (1, .int (nI (by2 f (p1 + 6)))), (2, .int (nI i))], [.long 2, .ref m0], M1)) rfl rfl rfl ?_
          refine pl_call (a := [.ref m0, .long 2]) (rest := []) rfl rfl rfl (rd_item (n := n) (f := f) (p := (p1 + 8 + 2 * i)) (k := 2) hR1 hl50 hF1 (by omega) (by decide)) (fun v242 M243 q244 => ?_)
          rcases q244 with q244 | q244
          · skip
            obtain ⟨I245, R246, q246_s, rfl, hR247, hI248, hX249⟩ := q244
            have hi250 := (hI248 50 (by decide)).trans hl50
            have hi251 := (hI248 51 (by decide)).trans hl51
            have hi252 := (hI248 52 (by decide)).trans hl52
            have hi253 := (hI248 53 (by decide)).trans hl53
            have hi254 := (hI248 54 (by decide)).trans hl54
            have hF_255 := hF1.mono (cIx hI248 (by decide)) (cRx hX249 (by decide))
            have hY_256 := hY1.mono (cIx hI248 (by decide)) (cRx hX249 (by decide))
            have hP_257 := hP1.mono (cIx hI248 (by decide)) (cRx hX249 (by decide))
            have hEI258 := hEI1.tr hI248 (by decide)
            have hER259 := hER1.tr hX249 (by decide)
            show pl _ _ _ (249, [(0, .ref m0), (1, .int (nI (by2 f (p1 + 6)))), (2, .int (nI i))], [.int 1], M243) _
            refine ps_if (S1 := (254, [(0, .ref m0), (1, .int (nI (by2 f (p1 + 6)))), (2, .int (nI i))], [], M243)) (S2 := (252, [(0, .ref m0), (1, .int (nI (by2 f (p1 + 6)))), (2, .int (nI i))], [], M243)) rfl rfl rfl (fun c_249 => ?_) (fun c_249 => ?_)
            rotate_left
            · exact absurd (by decide) (of_decide_eq_false c_249)
            refine ps_st (S' := (255, [(0, .ref m0), (1, .int (nI (by2 f (p1 + 6)))), (2, .int (nI i))], [.ref m0], M243)) rfl rfl rfl ?_
            refine ps_st (S' := (256, [(0, .ref m0), (1, .int (nI (by2 f (p1 + 6)))), (2, .int (nI i))], [.ref m0, .ref m0], M243)) rfl rfl rfl ?_
            refine pr_int (j := 50) (S' := (259, [(0, .ref m0), (1, .int (nI (by2 f (p1 + 6)))), (2, .int (nI i))], [.int (nI (p1 + 8 + 2 * i)), .ref m0], M243)) rfl hR247 rfl hi250 rfl ?_
            refine ps_st (S' := (260, [(0, .ref m0), (1, .int (nI (by2 f (p1 + 6)))), (2, .int (nI i))], [.int 2, .int (nI (p1 + 8 + 2 * i)), .ref m0], M243)) rfl rfl rfl ?_
            refine ps_st (S' := (261, [(0, .ref m0), (1, .int (nI (by2 f (p1 + 6)))), (2, .int (nI i))], [.int ((nI (p1 + 8 + 2 * i)) + 2), .ref m0], M243)) rfl rfl rfl ?_
            rw [nI_add1 (p := p1 + 8 + 2 * i) (k := 2) (x := 2) rfl (by omega)]
            show pl _ _ _ (_, [(0, .ref m0), (1, .int (nI (by2 f (p1 + 6)))), (2, .int (nI i))], [.int (nI (p1 + 8 + 2 * i + 2)), .ref m0], M243) _
            refine pr_put (j := 50) rfl hR247 rfl (fun M260 I261 hR262 hi263 hI264 => ?_)
            have hi265 := (hI264 51 (by decide)).trans hi251
            have hi266 := (hI264 52 (by decide)).trans hi252
            have hi267 := (hI264 53 (by decide)).trans hi253
            have hi268 := (hI264 54 (by decide)).trans hi254
            have hF_269 := hF_255.mono (pIx hI264 (by decide)) (fun _ _ => rfl)
            have hY_270 := hY_256.mono (pIx hI264 (by decide)) (fun _ _ => rfl)
            have hP_271 := hP_257.mono (pIx hI264 (by decide)) (fun _ _ => rfl)
            have hEI272 := hEI258.put hI264 (by decide)
            show pl _ _ _ (264, [(0, .ref m0), (1, .int (nI (by2 f (p1 + 6)))), (2, .int (nI i))], [], M260) _
            refine ps_st (S' := (267, [(2, .int ((nI i) + 1)), (0, .ref m0), (1, .int (nI (by2 f (p1 + 6))))], [], M260)) rfl rfl rfl ?_
            rw [nI_add1 (p := i) (k := 1) (x := 1) rfl (by omega)]
            show pl _ _ _ (_, [(2, .int (nI (i + 1))), (0, .ref m0), (1, .int (nI (by2 f (p1 + 6))))], [], M260) _
            refine ps_st (S' := (237, [(0, .ref m0), (1, .int (nI (by2 f (p1 + 6)))), (2, .int (nI (i + 1)))], [], M260)) rfl rfl rfl ?_
            exact ih.2 (i + 1) (p1) (E) (tx1) (cN1) (A1) M260 I261 R246 hR262 hEI272 hER259 hi263 hi265 hi266 hi267 hi268 hF_269 hY_270 hP_271 (hh) (hpl) (htx) (by omega) (by
                rw [← hs, s_two_st (i := i) (by omega), if_neg (by omega)]
                rfl)
          · skip
            obtain ⟨I273, R274, q246_s, rfl, hR275, hI276, hX277, hi278, hi279⟩ := q244
            have hi280 := (hI276 50 (by decide)).trans hl50
            have hi281 := (hI276 51 (by decide)).trans hl51
            have hi282 := (hI276 52 (by decide)).trans hl52
            have hi283 := (hI276 53 (by decide)).trans hl53
            have hi284 := (hI276 54 (by decide)).trans hl54
            have hF_285 := hF1.mono (cIx hI276 (by decide)) (cRx hX277 (by decide))
            have hY_286 := hY1.mono (cIx hI276 (by decide)) (cRx hX277 (by decide))
            have hP_287 := hP1.mono (cIx hI276 (by decide)) (cRx hX277 (by decide))
            have hEI288 := hEI1.tr hI276 (by decide)
            have hER289 := hER1.tr hX277 (by decide)
            show pl _ _ _ (249, [(0, .ref m0), (1, .int (nI (by2 f (p1 + 6)))), (2, .int (nI i))], [.int 0], M243) _
            refine ps_if (S1 := (254, [(0, .ref m0), (1, .int (nI (by2 f (p1 + 6)))), (2, .int (nI i))], [], M243)) (S2 := (252, [(0, .ref m0), (1, .int (nI (by2 f (p1 + 6)))), (2, .int (nI i))], [], M243)) rfl rfl rfl (fun c_249 => ?_) (fun c_249 => ?_)
            · exact absurd (of_decide_eq_true c_249) (by decide)
            refine ps_st (S' := (253, [(0, .ref m0), (1, .int (nI (by2 f (p1 + 6)))), (2, .int (nI i))], [.int 0], M243)) rfl rfl rfl ?_
            exact ps_ret rfl rfl (Or.inr ⟨(1, p1 + 8 + 2 * i), I273, R274, by
                unfold s_whole
                rw [hh, if_neg (fun h => h rfl)]
                rw [hpl]
                dsimp only
                rw [show s_class f n p1 = .inl (1, p1 + 8 + 2 * i) by rw [← hs, s_two_st (i := i) (by omega), if_pos (by omega)]], rfl, hR275, hEI288, hER289, hi278, hi279⟩)
  refine ps_st (S' := (1, [(0, .ref m0)], [.ref m0], M)) rfl rfl rfl ?_
  refine ps_st (S' := (2, [(0, .ref m0)], [.int 0, .ref m0], M)) rfl rfl rfl ?_
  refine pr_put (j := 50) rfl hR rfl (fun M290 I291 hR292 hi293 hI294 => ?_)
  have hi295 := (hI294 20 (by decide)).trans hi20
  have hF_296 := hF.mono (pIx hI294 (by decide)) (fun _ _ => rfl)
  have hY_297 := hY.mono (pIx hI294 (by decide)) (fun _ _ => rfl)
  have hEI298 := hEI.put hI294 (by decide)
  show pl _ _ _ (5, [(0, .ref m0)], [], M290) _
  refine ps_st (S' := (6, [(0, .ref m0)], [.ref m0], M290)) rfl rfl rfl ?_
  refine ps_st (S' := (9, [(0, .ref m0)], [.long 4, .ref m0], M290)) rfl rfl rfl ?_
  refine pl_call (a := [.ref m0, .long 4]) (rest := []) rfl rfl rfl (rd_item (n := n) (f := f) (p := 0) (k := 4) hR292 hi293 hF_296 (by omega) (by decide)) (fun v299 M300 q301 => ?_)
  rcases q301 with q301 | q301
  · skip
    obtain ⟨I302, R303, q9_s, rfl, hR304, hI305, hX306⟩ := q301
    have hi307 := (hI305 20 (by decide)).trans hi295
    have hi308 := (hI305 50 (by decide)).trans hi293
    have hF_309 := hF_296.mono (cIx hI305 (by decide)) (cRx hX306 (by decide))
    have hY_310 := hY_297.mono (cIx hI305 (by decide)) (cRx hX306 (by decide))
    have hEI311 := hEI298.tr hI305 (by decide)
    have hER312 := hER.tr hX306 (by decide)
    show pl _ _ _ (12, [(0, .ref m0)], [.int 1], M300) _
    refine ps_if (S1 := (17, [(0, .ref m0)], [], M300)) (S2 := (15, [(0, .ref m0)], [], M300)) rfl rfl rfl (fun c_12 => ?_) (fun c_12 => ?_)
    rotate_left
    · exact absurd (by decide) (of_decide_eq_false c_12)
    refine ps_st (S' := (18, [(0, .ref m0)], [.ref m0], M300)) rfl rfl rfl ?_
    refine ps_st (S' := (19, [(0, .ref m0)], [.int 0, .ref m0], M300)) rfl rfl rfl ?_
    refine pl_call (a := [.ref m0, .int 0]) (rest := []) rfl rfl rfl (rd_u4 (n := n) (f := f) (p := 0) hR304 hF_309 (by omega)) (fun v313 M314 q315 => ?_)
    obtain ⟨rfl, rfl⟩ := q315
    show pl _ _ _ (22, [(0, .ref m0)], [.long (nL (by4 f 0))], M300) _
    have hu_19 := by4_lt f 0
    refine ps_st (S' := (25, [(0, .ref m0)], [.long 3405691582, .long (nL (by4 f 0))], M300)) rfl rfl rfl ?_
    refine ps_st (S' := (26, [(0, .ref m0)], [.int (lg_cmp (nL (by4 f 0)) 3405691582)], M300)) rfl rfl rfl ?_
    refine ps_if (S1 := (36, [(0, .ref m0)], [], M300)) (S2 := (29, [(0, .ref m0)], [], M300)) rfl rfl rfl (fun c_26 => ?_) (fun c_26 => ?_)
    · have n_26 : by4 f 0 = 3405691582 := (cL_eq (p := by4 f 0) (k := 3405691582) (x := (nL (by4 f 0))) (y := 3405691582) rfl rfl (by omega) (by omega)).mp (of_decide_eq_true c_26)
      refine ps_st (S' := (37, [(0, .ref m0)], [.ref m0], M300)) rfl rfl rfl ?_
      refine ps_st (S' := (38, [(0, .ref m0)], [.int 4, .ref m0], M300)) rfl rfl rfl ?_
      refine pr_put (j := 50) rfl hR304 rfl (fun M316 I317 hR318 hi319 hI320 => ?_)
      have hi321 := (hI320 20 (by decide)).trans hi307
      have hF_322 := hF_309.mono (pIx hI320 (by decide)) (fun _ _ => rfl)
      have hY_323 := hY_310.mono (pIx hI320 (by decide)) (fun _ _ => rfl)
      have hEI324 := hEI311.put hI320 (by decide)
      show pl _ _ _ (41, [(0, .ref m0)], [], M316) _
      refine ps_st (S' := (42, [(0, .ref m0)], [.ref m0], M316)) rfl rfl rfl ?_
      refine ps_st (S' := (45, [(0, .ref m0)], [.long 2, .ref m0], M316)) rfl rfl rfl ?_
      refine pl_call (a := [.ref m0, .long 2]) (rest := []) rfl rfl rfl (rd_item (n := n) (f := f) (p := 4) (k := 2) hR318 hi319 hF_322 (by omega) (by decide)) (fun v325 M326 q327 => ?_)
      rcases q327 with q327 | q327
      · skip
        obtain ⟨I328, R329, q45_s, rfl, hR330, hI331, hX332⟩ := q327
        have hi333 := (hI331 20 (by decide)).trans hi321
        have hi334 := (hI331 50 (by decide)).trans hi319
        have hF_335 := hF_322.mono (cIx hI331 (by decide)) (cRx hX332 (by decide))
        have hY_336 := hY_323.mono (cIx hI331 (by decide)) (cRx hX332 (by decide))
        have hEI337 := hEI324.tr hI331 (by decide)
        have hER338 := hER312.tr hX332 (by decide)
        show pl _ _ _ (48, [(0, .ref m0)], [.int 1], M326) _
        refine ps_if (S1 := (53, [(0, .ref m0)], [], M326)) (S2 := (51, [(0, .ref m0)], [], M326)) rfl rfl rfl (fun c_48 => ?_) (fun c_48 => ?_)
        rotate_left
        · exact absurd (by decide) (of_decide_eq_false c_48)
        refine ps_st (S' := (54, [(0, .ref m0)], [.ref m0], M326)) rfl rfl rfl ?_
        refine ps_st (S' := (56, [(0, .ref m0)], [.int 6, .ref m0], M326)) rfl rfl rfl ?_
        refine pr_put (j := 50) rfl hR330 rfl (fun M339 I340 hR341 hi342 hI343 => ?_)
        have hi344 := (hI343 20 (by decide)).trans hi333
        have hF_345 := hF_335.mono (pIx hI343 (by decide)) (fun _ _ => rfl)
        have hY_346 := hY_336.mono (pIx hI343 (by decide)) (fun _ _ => rfl)
        have hEI347 := hEI337.put hI343 (by decide)
        show pl _ _ _ (59, [(0, .ref m0)], [], M339) _
        refine ps_st (S' := (60, [(0, .ref m0)], [.ref m0], M339)) rfl rfl rfl ?_
        refine ps_st (S' := (63, [(0, .ref m0)], [.long 2, .ref m0], M339)) rfl rfl rfl ?_
        refine pl_call (a := [.ref m0, .long 2]) (rest := []) rfl rfl rfl (rd_item (n := n) (f := f) (p := 6) (k := 2) hR341 hi342 hF_345 (by omega) (by decide)) (fun v348 M349 q350 => ?_)
        rcases q350 with q350 | q350
        · skip
          obtain ⟨I351, R352, q63_s, rfl, hR353, hI354, hX355⟩ := q350
          have hi356 := (hI354 20 (by decide)).trans hi344
          have hi357 := (hI354 50 (by decide)).trans hi342
          have hF_358 := hF_345.mono (cIx hI354 (by decide)) (cRx hX355 (by decide))
          have hY_359 := hY_346.mono (cIx hI354 (by decide)) (cRx hX355 (by decide))
          have hEI360 := hEI347.tr hI354 (by decide)
          have hER361 := hER338.tr hX355 (by decide)
          show pl _ _ _ (66, [(0, .ref m0)], [.int 1], M349) _
          refine ps_if (S1 := (71, [(0, .ref m0)], [], M349)) (S2 := (69, [(0, .ref m0)], [], M349)) rfl rfl rfl (fun c_66 => ?_) (fun c_66 => ?_)
          rotate_left
          · exact absurd (by decide) (of_decide_eq_false c_66)
          refine ps_st (S' := (72, [(0, .ref m0)], [.ref m0], M349)) rfl rfl rfl ?_
          refine ps_st (S' := (73, [(0, .ref m0)], [.ref m0, .ref m0], M349)) rfl rfl rfl ?_
          refine ps_st (S' := (75, [(0, .ref m0)], [.int 6, .ref m0, .ref m0], M349)) rfl rfl rfl ?_
          refine pl_call (a := [.ref m0, .int 6]) (rest := [.ref m0]) rfl rfl rfl (rd_u2 (n := n) (f := f) (p := 6) hR353 hF_358 (by omega)) (fun v362 M363 q364 => ?_)
          obtain ⟨rfl, rfl⟩ := q364
          show pl _ _ _ (78, [(0, .ref m0)], [.int (nI (by2 f 6)), .ref m0], M349) _
          have hu_75 := by2_lt f 6
          refine pr_put (j := 53) rfl hR353 rfl (fun M365 I366 hR367 hi368 hI369 => ?_)
          have hi370 := (hI369 20 (by decide)).trans hi356
          have hi371 := (hI369 50 (by decide)).trans hi357
          have hF_372 := hF_358.mono (pIx hI369 (by decide)) (fun _ _ => rfl)
          have hY_373 := hY_359.mono (pIx hI369 (by decide)) (fun _ _ => rfl)
          have hEI374 := hEI360.put hI369 (by decide)
          show pl _ _ _ (81, [(0, .ref m0)], [], M365) _
          refine ps_st (S' := (82, [(0, .ref m0)], [.ref m0], M365)) rfl rfl rfl ?_
          refine pr_int (j := 53) (S' := (85, [(0, .ref m0)], [.int (nI (by2 f 6))], M365)) rfl hR367 rfl hi368 rfl ?_
          refine ps_st (S' := (87, [(0, .ref m0)], [.int 45, .int (nI (by2 f 6))], M365)) rfl rfl rfl ?_
          refine ps_if2 (S1 := (116, [(0, .ref m0)], [], M365)) (S2 := (90, [(0, .ref m0)], [], M365)) rfl rfl rfl (fun c_87 => ?_) (fun c_87 => ?_)
          · have c_87 : (nI (by2 f 6)) < 45 := of_decide_eq_true c_87
            have n_87 : by2 f 6 < 45 := (lt_nI (p := by2 f 6) (n := 45) (Nat.lt_trans (by2_lt _ _) (by decide)) (by decide)).mp c_87
            refine ps_st (S' := (117, [(0, .ref m0)], [.ref m0], M365)) rfl rfl rfl ?_
            refine ps_st (S' := (118, [(0, .ref m0)], [.int 3, .ref m0], M365)) rfl rfl rfl ?_
            refine ps_st (S' := (119, [(0, .ref m0)], [.int 4, .int 3, .ref m0], M365)) rfl rfl rfl ?_
            refine pl_call (a := [.ref m0, .int 3, .int 4]) (rest := []) rfl rfl rfl (rd_wrong (x1 := 3) (x2 := 4) hR367) (fun v375 M376 q377 => ?_)
            obtain ⟨I378, R379, rfl, hR380, hI381, hX382, hi383, hi384⟩ := q377
            have hi385 := (hI381 20 (by decide)).trans hi370
            have hi386 := (hI381 50 (by decide)).trans hi371
            have hi387 := (hI381 53 (by decide)).trans hi368
            have hF_388 := hF_372.mono (cIx hI381 (by decide)) (cRx hX382 (by decide))
            have hY_389 := hY_373.mono (cIx hI381 (by decide)) (cRx hX382 (by decide))
            have hEI390 := hEI374.tr hI381 (by decide)
            have hER391 := hER361.tr hX382 (by decide)
            show pl _ _ _ (122, [(0, .ref m0)], [.int 0], M376) _
            exact ps_ret rfl rfl (Or.inr ⟨(3, 4), I378, R379, by
                have hh : s_head f n = (3, 4) := by
                  unfold s_head
                  first | ((repeat first | rw [if_pos (by omega)] | rw [if_neg (by omega)]) <;> first | rfl | omega) | ((repeat' split) <;> first | rfl | (exfalso; omega) | omega)
                unfold s_whole
                rw [hh, if_pos (by decide)], rfl, hR380, hEI390, hER391, hi383, hi384⟩)
          · have c_87 : ¬ ((nI (by2 f 6)) < 45) := of_decide_eq_false c_87
            have n_87 : ¬ (by2 f 6 < 45) := fun h9 => c_87 ((lt_nI (p := by2 f 6) (n := 45) (Nat.lt_trans (by2_lt _ _) (by decide)) (by decide)).mpr h9)
            refine ps_st (S' := (91, [(0, .ref m0)], [.ref m0], M365)) rfl rfl rfl ?_
            refine pr_int (j := 53) (S' := (94, [(0, .ref m0)], [.int (nI (by2 f 6))], M365)) rfl hR367 rfl hi368 rfl ?_
            refine ps_st (S' := (96, [(0, .ref m0)], [.int 61, .int (nI (by2 f 6))], M365)) rfl rfl rfl ?_
            refine ps_if2 (S1 := (116, [(0, .ref m0)], [], M365)) (S2 := (99, [(0, .ref m0)], [], M365)) rfl rfl rfl (fun c_96 => ?_) (fun c_96 => ?_)
            · have c_96 : 61 < (nI (by2 f 6)) := of_decide_eq_true c_96
              have n_96 : 61 < by2 f 6 := (lt_nI (p := 61) (n := by2 f 6) (by decide) (Nat.lt_trans (by2_lt _ _) (by decide))).mp c_96
              refine ps_st (S' := (117, [(0, .ref m0)], [.ref m0], M365)) rfl rfl rfl ?_
              refine ps_st (S' := (118, [(0, .ref m0)], [.int 3, .ref m0], M365)) rfl rfl rfl ?_
              refine ps_st (S' := (119, [(0, .ref m0)], [.int 4, .int 3, .ref m0], M365)) rfl rfl rfl ?_
              refine pl_call (a := [.ref m0, .int 3, .int 4]) (rest := []) rfl rfl rfl (rd_wrong (x1 := 3) (x2 := 4) hR367) (fun v392 M393 q394 => ?_)
              obtain ⟨I395, R396, rfl, hR397, hI398, hX399, hi400, hi401⟩ := q394
              have hi402 := (hI398 20 (by decide)).trans hi370
              have hi403 := (hI398 50 (by decide)).trans hi371
              have hi404 := (hI398 53 (by decide)).trans hi368
              have hF_405 := hF_372.mono (cIx hI398 (by decide)) (cRx hX399 (by decide))
              have hY_406 := hY_373.mono (cIx hI398 (by decide)) (cRx hX399 (by decide))
              have hEI407 := hEI374.tr hI398 (by decide)
              have hER408 := hER361.tr hX399 (by decide)
              show pl _ _ _ (122, [(0, .ref m0)], [.int 0], M393) _
              exact ps_ret rfl rfl (Or.inr ⟨(3, 4), I395, R396, by
                  have hh : s_head f n = (3, 4) := by
                    unfold s_head
                    first | ((repeat first | rw [if_pos (by omega)] | rw [if_neg (by omega)]) <;> first | rfl | omega) | ((repeat' split) <;> first | rfl | (exfalso; omega) | omega)
                  unfold s_whole
                  rw [hh, if_pos (by decide)], rfl, hR397, hEI407, hER408, hi400, hi401⟩)
            · have c_96 : ¬ (61 < (nI (by2 f 6))) := of_decide_eq_false c_96
              have n_96 : ¬ (61 < by2 f 6) := fun h9 => c_96 ((lt_nI (p := 61) (n := by2 f 6) (by decide) (Nat.lt_trans (by2_lt _ _) (by decide))).mpr h9)
              refine ps_st (S' := (100, [(0, .ref m0)], [.ref m0], M365)) rfl rfl rfl ?_
              refine pr_int (j := 53) (S' := (103, [(0, .ref m0)], [.int (nI (by2 f 6))], M365)) rfl hR367 rfl hi368 rfl ?_
              refine ps_st (S' := (105, [(0, .ref m0)], [.int 56, .int (nI (by2 f 6))], M365)) rfl rfl rfl ?_
              refine ps_if2 (S1 := (123, [(0, .ref m0)], [], M365)) (S2 := (108, [(0, .ref m0)], [], M365)) rfl rfl rfl (fun c_105 => ?_) (fun c_105 => ?_)
              · have c_105 : (nI (by2 f 6)) < 56 := of_decide_eq_true c_105
                have n_105 : by2 f 6 < 56 := (lt_nI (p := by2 f 6) (n := 56) (Nat.lt_trans (by2_lt _ _) (by decide)) (by decide)).mp c_105
                have hh : s_head f n = (0, 0) := by
                  unfold s_head
                  first | ((repeat first | rw [if_pos (by omega)] | rw [if_neg (by omega)]) <;> first | rfl | omega) | ((repeat' split) <;> first | rfl | (exfalso; omega) | omega)
                refine ps_st (S' := (124, [(0, .ref m0)], [.ref m0], M365)) rfl rfl rfl ?_
                refine ps_st (S' := (126, [(0, .ref m0)], [.int 8, .ref m0], M365)) rfl rfl rfl ?_
                refine pr_put (j := 50) rfl hR367 rfl (fun M409 I410 hR411 hi412 hI413 => ?_)
                have hi414 := (hI413 20 (by decide)).trans hi370
                have hi415 := (hI413 53 (by decide)).trans hi368
                have hF_416 := hF_372.mono (pIx hI413 (by decide)) (fun _ _ => rfl)
                have hY_417 := hY_373.mono (pIx hI413 (by decide)) (fun _ _ => rfl)
                have hEI418 := hEI374.put hI413 (by decide)
                show pl _ _ _ (129, [(0, .ref m0)], [], M409) _
                refine ps_st (S' := (130, [(0, .ref m0)], [.ref m0], M409)) rfl rfl rfl ?_
                refine ps_st (S' := (133, [(0, .ref m0)], [.long 2, .ref m0], M409)) rfl rfl rfl ?_
                refine pl_call (a := [.ref m0, .long 2]) (rest := []) rfl rfl rfl (rd_item (n := n) (f := f) (p := 8) (k := 2) hR411 hi412 hF_416 (by omega) (by decide)) (fun v419 M420 q421 => ?_)
                rcases q421 with q421 | q421
                · skip
                  obtain ⟨I422, R423, q133_s, rfl, hR424, hI425, hX426⟩ := q421
                  have hi427 := (hI425 20 (by decide)).trans hi414
                  have hi428 := (hI425 53 (by decide)).trans hi415
                  have hi429 := (hI425 50 (by decide)).trans hi412
                  have hF_430 := hF_416.mono (cIx hI425 (by decide)) (cRx hX426 (by decide))
                  have hY_431 := hY_417.mono (cIx hI425 (by decide)) (cRx hX426 (by decide))
                  have hEI432 := hEI418.tr hI425 (by decide)
                  have hER433 := hER361.tr hX426 (by decide)
                  show pl _ _ _ (136, [(0, .ref m0)], [.int 1], M420) _
                  refine ps_if (S1 := (141, [(0, .ref m0)], [], M420)) (S2 := (139, [(0, .ref m0)], [], M420)) rfl rfl rfl (fun c_136 => ?_) (fun c_136 => ?_)
                  rotate_left
                  · exact absurd (by decide) (of_decide_eq_false c_136)
                  refine ps_st (S' := (142, [(0, .ref m0)], [.ref m0], M420)) rfl rfl rfl ?_
                  refine ps_st (S' := (143, [(0, .ref m0)], [.ref m0, .ref m0], M420)) rfl rfl rfl ?_
                  refine ps_st (S' := (145, [(0, .ref m0)], [.int 8, .ref m0, .ref m0], M420)) rfl rfl rfl ?_
                  refine pl_call (a := [.ref m0, .int 8]) (rest := [.ref m0]) rfl rfl rfl (rd_u2 (n := n) (f := f) (p := 8) hR424 hF_430 (by omega)) (fun v434 M435 q436 => ?_)
                  obtain ⟨rfl, rfl⟩ := q436
                  show pl _ _ _ (148, [(0, .ref m0)], [.int (nI (by2 f 8)), .ref m0], M420) _
                  have hu_145 := by2_lt f 8
                  refine pr_put (j := 52) rfl hR424 rfl (fun M437 I438 hR439 hi440 hI441 => ?_)
                  have hi442 := (hI441 20 (by decide)).trans hi427
                  have hi443 := (hI441 53 (by decide)).trans hi428
                  have hi444 := (hI441 50 (by decide)).trans hi429
                  have hF_445 := hF_430.mono (pIx hI441 (by decide)) (fun _ _ => rfl)
                  have hY_446 := hY_431.mono (pIx hI441 (by decide)) (fun _ _ => rfl)
                  have hEI447 := hEI432.put hI441 (by decide)
                  show pl _ _ _ (151, [(0, .ref m0)], [], M437) _
                  refine ps_st (S' := (152, [(0, .ref m0)], [.ref m0], M437)) rfl rfl rfl ?_
                  refine pr_int (j := 52) (S' := (155, [(0, .ref m0)], [.int (nI (by2 f 8))], M437)) rfl hR439 rfl hi440 rfl ?_
                  refine ps_if (S1 := (166, [(0, .ref m0)], [], M437)) (S2 := (158, [(0, .ref m0)], [], M437)) rfl rfl rfl (fun c_155 => ?_) (fun c_155 => ?_)
                  · have c_155 : ¬ (nI (by2 f 8)) = 0 := of_decide_eq_true c_155
                    have n_155 : ¬ (by2 f 8 = 0) := fun h9 => c_155 ((eq_nI (p := by2 f 8) (n := 0) (Nat.lt_trans (by2_lt _ _) (by decide)) (by decide)).mpr h9)
                    refine ps_st (S' := (167, [(0, .ref m0)], [.ref m0], M437)) rfl rfl rfl ?_
                    refine ps_st (S' := (169, [(0, .ref m0)], [.int 10, .ref m0], M437)) rfl rfl rfl ?_
                    refine pr_put (j := 50) rfl hR439 rfl (fun M448 I449 hR450 hi451 hI452 => ?_)
                    have hi453 := (hI452 20 (by decide)).trans hi442
                    have hi454 := (hI452 53 (by decide)).trans hi443
                    have hi455 := (hI452 52 (by decide)).trans hi440
                    have hF_456 := hF_445.mono (pIx hI452 (by decide)) (fun _ _ => rfl)
                    have hY_457 := hY_446.mono (pIx hI452 (by decide)) (fun _ _ => rfl)
                    have hEI458 := hEI447.put hI452 (by decide)
                    show pl _ _ _ (172, [(0, .ref m0)], [], M448) _
                    refine ps_st (S' := (173, [(0, .ref m0)], [.ref m0], M448)) rfl rfl rfl ?_
                    refine pl_call (a := [.ref m0]) (rest := []) rfl rfl rfl (rd_readPool (n := n) (f := f) (tx := tx) (cN := cN) (A := A) (N := (by2 f 8)) (mj := (by2 f 6)) hR450 hi453 hi451 hi455 hi454 hF_456 hY_457 (⟨by omega, by2_lt _ _⟩) (by2_lt _ _) (by omega)) (fun v459 M460 q461 => ?_)
                    rcases q461 with q461 | q461
                    · skip
                      obtain ⟨p'462, E463, tx1464, cN1465, A1466, I467, R468, q173_s, q173_k, q173_l, rfl, hR469, hI470, hX471, hi472, hi473, hY_474, hP_475⟩ := q461
                      have hi476 := (hI470 53 (by decide)).trans hi454
                      have hi477 := (hI470 52 (by decide)).trans hi455
                      have hF_478 := hF_456.mono (cIx hI470 (by decide)) (cRx hX471 (by decide))
                      have hEI479 := hEI458.tr hI470 (by decide)
                      have hER480 := hER433.tr hX471 (by decide)
                      show pl _ _ _ (176, [(0, .ref m0)], [.int 1], M460) _
                      have hpl : s_pool f n (by2 f 6) = .inr (p'462, E463) := by
                        unfold s_pool
                        rw [if_neg (by omega), if_neg (by omega)]
                        exact q173_s
                      refine ps_if (S1 := (181, [(0, .ref m0)], [], M460)) (S2 := (179, [(0, .ref m0)], [], M460)) rfl rfl rfl (fun c_176 => ?_) (fun c_176 => ?_)
                      rotate_left
                      · exact absurd (by decide) (of_decide_eq_false c_176)
                      refine ps_st (S' := (182, [(0, .ref m0)], [.ref m0], M460)) rfl rfl rfl ?_
                      refine ps_st (S' := (183, [(0, .ref m0)], [.ref m0, .ref m0], M460)) rfl rfl rfl ?_
                      refine pr_int (j := 50) (S' := (186, [(0, .ref m0)], [.int (nI p'462), .ref m0], M460)) rfl hR469 rfl hi472 rfl ?_
                      refine pr_put (j := 54) rfl hR469 rfl (fun M481 I482 hR483 hi484 hI485 => ?_)
                      have hi486 := (hI485 53 (by decide)).trans hi476
                      have hi487 := (hI485 52 (by decide)).trans hi477
                      have hi488 := (hI485 50 (by decide)).trans hi472
                      have hi489 := (hI485 51 (by decide)).trans hi473
                      have hF_490 := hF_478.mono (pIx hI485 (by decide)) (fun _ _ => rfl)
                      have hY_491 := hY_474.mono (pIx hI485 (by decide)) (fun _ _ => rfl)
                      have hP_492 := hP_475.mono (pIx hI485 (by decide)) (fun _ _ => rfl)
                      have hEI493 := hEI479.put hI485 (by decide)
                      show pl _ _ _ (189, [(0, .ref m0)], [], M481) _
                      refine ps_st (S' := (190, [(0, .ref m0)], [.int 0], M481)) rfl rfl rfl ?_
                      refine ps_st (S' := (191, [(0, .ref m0), (1, .int 0)], [], M481)) rfl rfl rfl ?_
                      exact (LL kf).1 (0) (p'462) (E463) (tx1464) (cN1465) (A1466) M481 I482 R468 hR483 hEI493 hER480 hi488 hi489 hi487 hi486 hi484 hF_490 hY_491 hP_492 (hh) (hpl) (q173_k) (by have := q173_l; omega)
                    · skip
                      obtain ⟨e494, I495, R496, q173_s, rfl, hR497, hI498, hX499, hi500, hi501⟩ := q461
                      have hi502 := (hI498 53 (by decide)).trans hi454
                      have hi503 := (hI498 52 (by decide)).trans hi455
                      have hF_504 := hF_456.mono (cIx hI498 (by decide)) (cRx hX499 (by decide))
                      have hEI505 := hEI458.tr hI498 (by decide)
                      have hER506 := hER433.tr hX499 (by decide)
                      show pl _ _ _ (176, [(0, .ref m0)], [.int 0], M460) _
                      have hpl : s_pool f n (by2 f 6) = .inl e494 := by
                        unfold s_pool
                        rw [if_neg (by omega), if_neg (by omega)]
                        exact q173_s
                      refine ps_if (S1 := (181, [(0, .ref m0)], [], M460)) (S2 := (179, [(0, .ref m0)], [], M460)) rfl rfl rfl (fun c_176 => ?_) (fun c_176 => ?_)
                      · exact absurd (of_decide_eq_true c_176) (by decide)
                      refine ps_st (S' := (180, [(0, .ref m0)], [.int 0], M460)) rfl rfl rfl ?_
                      exact ps_ret rfl rfl (Or.inr ⟨e494, I495, R496, by
                          unfold s_whole
                          rw [hh, if_neg (fun h => h rfl)]
                          rw [hpl], rfl, hR497, hEI505, hER506, hi500, hi501⟩)
                  · have c_155 : ¬ (¬ (nI (by2 f 8)) = 0) := of_decide_eq_false c_155
                    have n_155 : by2 f 8 = 0 := (eq_nI (p := by2 f 8) (n := 0) (Nat.lt_trans (by2_lt _ _) (by decide)) (by decide)).mp (Decidable.not_not.mp c_155)
                    refine ps_st (S' := (159, [(0, .ref m0)], [.ref m0], M437)) rfl rfl rfl ?_
                    refine ps_st (S' := (160, [(0, .ref m0)], [.int 4, .ref m0], M437)) rfl rfl rfl ?_
                    refine ps_st (S' := (162, [(0, .ref m0)], [.int 8, .int 4, .ref m0], M437)) rfl rfl rfl ?_
                    refine pl_call (a := [.ref m0, .int 4, .int 8]) (rest := []) rfl rfl rfl (rd_wrong (x1 := 4) (x2 := 8) hR439) (fun v507 M508 q509 => ?_)
                    obtain ⟨I510, R511, rfl, hR512, hI513, hX514, hi515, hi516⟩ := q509
                    have hi517 := (hI513 20 (by decide)).trans hi442
                    have hi518 := (hI513 53 (by decide)).trans hi443
                    have hi519 := (hI513 50 (by decide)).trans hi444
                    have hi520 := (hI513 52 (by decide)).trans hi440
                    have hF_521 := hF_445.mono (cIx hI513 (by decide)) (cRx hX514 (by decide))
                    have hY_522 := hY_446.mono (cIx hI513 (by decide)) (cRx hX514 (by decide))
                    have hEI523 := hEI447.tr hI513 (by decide)
                    have hER524 := hER433.tr hX514 (by decide)
                    show pl _ _ _ (165, [(0, .ref m0)], [.int 0], M508) _
                    exact ps_ret rfl rfl (Or.inr ⟨(4, 8), I510, R511, by
                        unfold s_whole
                        rw [hh, if_neg (fun h => h rfl)]
                        rw [show s_pool f n (by2 f 6) = .inl (4, 8) by unfold s_pool; rw [if_neg (by omega), if_pos (by omega)]], rfl, hR512, hEI523, hER524, hi515, hi516⟩)
                · skip
                  obtain ⟨I525, R526, q133_s, rfl, hR527, hI528, hX529, hi530, hi531⟩ := q421
                  have hi532 := (hI528 20 (by decide)).trans hi414
                  have hi533 := (hI528 53 (by decide)).trans hi415
                  have hi534 := (hI528 50 (by decide)).trans hi412
                  have hF_535 := hF_416.mono (cIx hI528 (by decide)) (cRx hX529 (by decide))
                  have hY_536 := hY_417.mono (cIx hI528 (by decide)) (cRx hX529 (by decide))
                  have hEI537 := hEI418.tr hI528 (by decide)
                  have hER538 := hER361.tr hX529 (by decide)
                  show pl _ _ _ (136, [(0, .ref m0)], [.int 0], M420) _
                  refine ps_if (S1 := (141, [(0, .ref m0)], [], M420)) (S2 := (139, [(0, .ref m0)], [], M420)) rfl rfl rfl (fun c_136 => ?_) (fun c_136 => ?_)
                  · exact absurd (of_decide_eq_true c_136) (by decide)
                  refine ps_st (S' := (140, [(0, .ref m0)], [.int 0], M420)) rfl rfl rfl ?_
                  exact ps_ret rfl rfl (Or.inr ⟨(1, 8), I525, R526, by
                      unfold s_whole
                      rw [hh, if_neg (fun h => h rfl)]
                      rw [show s_pool f n (by2 f 6) = .inl (1, 8) by unfold s_pool; rw [if_pos (by omega)]], rfl, hR527, hEI537, hER538, hi530, hi531⟩)
              · have c_105 : ¬ ((nI (by2 f 6)) < 56) := of_decide_eq_false c_105
                have n_105 : ¬ (by2 f 6 < 56) := fun h9 => c_105 ((lt_nI (p := by2 f 6) (n := 56) (Nat.lt_trans (by2_lt _ _) (by decide)) (by decide)).mpr h9)
                refine ps_st (S' := (109, [(0, .ref m0)], [.ref m0], M365)) rfl rfl rfl ?_
                refine ps_st (S' := (110, [(0, .ref m0)], [.int 4, .ref m0], M365)) rfl rfl rfl ?_
                refine pl_call (a := [.ref m0, .int 4]) (rest := []) rfl rfl rfl (rd_u2 (n := n) (f := f) (p := 4) hR367 hF_372 (by omega)) (fun v539 M540 q541 => ?_)
                obtain ⟨rfl, rfl⟩ := q541
                show pl _ _ _ (113, [(0, .ref m0)], [.int (nI (by2 f 4))], M365) _
                have hu_110 := by2_lt f 4
                refine ps_if (S1 := (123, [(0, .ref m0)], [], M365)) (S2 := (116, [(0, .ref m0)], [], M365)) rfl rfl rfl (fun c_113 => ?_) (fun c_113 => ?_)
                · have c_113 : (nI (by2 f 4)) = 0 := of_decide_eq_true c_113
                  have n_113 : by2 f 4 = 0 := (eq_nI (p := by2 f 4) (n := 0) (Nat.lt_trans (by2_lt _ _) (by decide)) (by decide)).mp c_113
                  have hh : s_head f n = (0, 0) := by
                    unfold s_head
                    first | ((repeat first | rw [if_pos (by omega)] | rw [if_neg (by omega)]) <;> first | rfl | omega) | ((repeat' split) <;> first | rfl | (exfalso; omega) | omega)
                  refine ps_st (S' := (124, [(0, .ref m0)], [.ref m0], M365)) rfl rfl rfl ?_
                  refine ps_st (S' := (126, [(0, .ref m0)], [.int 8, .ref m0], M365)) rfl rfl rfl ?_
                  refine pr_put (j := 50) rfl hR367 rfl (fun M542 I543 hR544 hi545 hI546 => ?_)
                  have hi547 := (hI546 20 (by decide)).trans hi370
                  have hi548 := (hI546 53 (by decide)).trans hi368
                  have hF_549 := hF_372.mono (pIx hI546 (by decide)) (fun _ _ => rfl)
                  have hY_550 := hY_373.mono (pIx hI546 (by decide)) (fun _ _ => rfl)
                  have hEI551 := hEI374.put hI546 (by decide)
                  show pl _ _ _ (129, [(0, .ref m0)], [], M542) _
                  refine ps_st (S' := (130, [(0, .ref m0)], [.ref m0], M542)) rfl rfl rfl ?_
                  refine ps_st (S' := (133, [(0, .ref m0)], [.long 2, .ref m0], M542)) rfl rfl rfl ?_
                  refine pl_call (a := [.ref m0, .long 2]) (rest := []) rfl rfl rfl (rd_item (n := n) (f := f) (p := 8) (k := 2) hR544 hi545 hF_549 (by omega) (by decide)) (fun v552 M553 q554 => ?_)
                  rcases q554 with q554 | q554
                  · skip
                    obtain ⟨I555, R556, q133_s, rfl, hR557, hI558, hX559⟩ := q554
                    have hi560 := (hI558 20 (by decide)).trans hi547
                    have hi561 := (hI558 53 (by decide)).trans hi548
                    have hi562 := (hI558 50 (by decide)).trans hi545
                    have hF_563 := hF_549.mono (cIx hI558 (by decide)) (cRx hX559 (by decide))
                    have hY_564 := hY_550.mono (cIx hI558 (by decide)) (cRx hX559 (by decide))
                    have hEI565 := hEI551.tr hI558 (by decide)
                    have hER566 := hER361.tr hX559 (by decide)
                    show pl _ _ _ (136, [(0, .ref m0)], [.int 1], M553) _
                    refine ps_if (S1 := (141, [(0, .ref m0)], [], M553)) (S2 := (139, [(0, .ref m0)], [], M553)) rfl rfl rfl (fun c_136 => ?_) (fun c_136 => ?_)
                    rotate_left
                    · exact absurd (by decide) (of_decide_eq_false c_136)
                    refine ps_st (S' := (142, [(0, .ref m0)], [.ref m0], M553)) rfl rfl rfl ?_
                    refine ps_st (S' := (143, [(0, .ref m0)], [.ref m0, .ref m0], M553)) rfl rfl rfl ?_
                    refine ps_st (S' := (145, [(0, .ref m0)], [.int 8, .ref m0, .ref m0], M553)) rfl rfl rfl ?_
                    refine pl_call (a := [.ref m0, .int 8]) (rest := [.ref m0]) rfl rfl rfl (rd_u2 (n := n) (f := f) (p := 8) hR557 hF_563 (by omega)) (fun v567 M568 q569 => ?_)
                    obtain ⟨rfl, rfl⟩ := q569
                    show pl _ _ _ (148, [(0, .ref m0)], [.int (nI (by2 f 8)), .ref m0], M553) _
                    have hu_145 := by2_lt f 8
                    refine pr_put (j := 52) rfl hR557 rfl (fun M570 I571 hR572 hi573 hI574 => ?_)
                    have hi575 := (hI574 20 (by decide)).trans hi560
                    have hi576 := (hI574 53 (by decide)).trans hi561
                    have hi577 := (hI574 50 (by decide)).trans hi562
                    have hF_578 := hF_563.mono (pIx hI574 (by decide)) (fun _ _ => rfl)
                    have hY_579 := hY_564.mono (pIx hI574 (by decide)) (fun _ _ => rfl)
                    have hEI580 := hEI565.put hI574 (by decide)
                    show pl _ _ _ (151, [(0, .ref m0)], [], M570) _
                    refine ps_st (S' := (152, [(0, .ref m0)], [.ref m0], M570)) rfl rfl rfl ?_
                    refine pr_int (j := 52) (S' := (155, [(0, .ref m0)], [.int (nI (by2 f 8))], M570)) rfl hR572 rfl hi573 rfl ?_
                    refine ps_if (S1 := (166, [(0, .ref m0)], [], M570)) (S2 := (158, [(0, .ref m0)], [], M570)) rfl rfl rfl (fun c_155 => ?_) (fun c_155 => ?_)
                    · have c_155 : ¬ (nI (by2 f 8)) = 0 := of_decide_eq_true c_155
                      have n_155 : ¬ (by2 f 8 = 0) := fun h9 => c_155 ((eq_nI (p := by2 f 8) (n := 0) (Nat.lt_trans (by2_lt _ _) (by decide)) (by decide)).mpr h9)
                      refine ps_st (S' := (167, [(0, .ref m0)], [.ref m0], M570)) rfl rfl rfl ?_
                      refine ps_st (S' := (169, [(0, .ref m0)], [.int 10, .ref m0], M570)) rfl rfl rfl ?_
                      refine pr_put (j := 50) rfl hR572 rfl (fun M581 I582 hR583 hi584 hI585 => ?_)
                      have hi586 := (hI585 20 (by decide)).trans hi575
                      have hi587 := (hI585 53 (by decide)).trans hi576
                      have hi588 := (hI585 52 (by decide)).trans hi573
                      have hF_589 := hF_578.mono (pIx hI585 (by decide)) (fun _ _ => rfl)
                      have hY_590 := hY_579.mono (pIx hI585 (by decide)) (fun _ _ => rfl)
                      have hEI591 := hEI580.put hI585 (by decide)
                      show pl _ _ _ (172, [(0, .ref m0)], [], M581) _
                      refine ps_st (S' := (173, [(0, .ref m0)], [.ref m0], M581)) rfl rfl rfl ?_
                      refine pl_call (a := [.ref m0]) (rest := []) rfl rfl rfl (rd_readPool (n := n) (f := f) (tx := tx) (cN := cN) (A := A) (N := (by2 f 8)) (mj := (by2 f 6)) hR583 hi586 hi584 hi588 hi587 hF_589 hY_590 (⟨by omega, by2_lt _ _⟩) (by2_lt _ _) (by omega)) (fun v592 M593 q594 => ?_)
                      rcases q594 with q594 | q594
                      · skip
                        obtain ⟨p'595, E596, tx1597, cN1598, A1599, I600, R601, q173_s, q173_k, q173_l, rfl, hR602, hI603, hX604, hi605, hi606, hY_607, hP_608⟩ := q594
                        have hi609 := (hI603 53 (by decide)).trans hi587
                        have hi610 := (hI603 52 (by decide)).trans hi588
                        have hF_611 := hF_589.mono (cIx hI603 (by decide)) (cRx hX604 (by decide))
                        have hEI612 := hEI591.tr hI603 (by decide)
                        have hER613 := hER566.tr hX604 (by decide)
                        show pl _ _ _ (176, [(0, .ref m0)], [.int 1], M593) _
                        have hpl : s_pool f n (by2 f 6) = .inr (p'595, E596) := by
                          unfold s_pool
                          rw [if_neg (by omega), if_neg (by omega)]
                          exact q173_s
                        refine ps_if (S1 := (181, [(0, .ref m0)], [], M593)) (S2 := (179, [(0, .ref m0)], [], M593)) rfl rfl rfl (fun c_176 => ?_) (fun c_176 => ?_)
                        rotate_left
                        · exact absurd (by decide) (of_decide_eq_false c_176)
                        refine ps_st (S' := (182, [(0, .ref m0)], [.ref m0], M593)) rfl rfl rfl ?_
                        refine ps_st (S' := (183, [(0, .ref m0)], [.ref m0, .ref m0], M593)) rfl rfl rfl ?_
                        refine pr_int (j := 50) (S' := (186, [(0, .ref m0)], [.int (nI p'595), .ref m0], M593)) rfl hR602 rfl hi605 rfl ?_
                        refine pr_put (j := 54) rfl hR602 rfl (fun M614 I615 hR616 hi617 hI618 => ?_)
                        have hi619 := (hI618 53 (by decide)).trans hi609
                        have hi620 := (hI618 52 (by decide)).trans hi610
                        have hi621 := (hI618 50 (by decide)).trans hi605
                        have hi622 := (hI618 51 (by decide)).trans hi606
                        have hF_623 := hF_611.mono (pIx hI618 (by decide)) (fun _ _ => rfl)
                        have hY_624 := hY_607.mono (pIx hI618 (by decide)) (fun _ _ => rfl)
                        have hP_625 := hP_608.mono (pIx hI618 (by decide)) (fun _ _ => rfl)
                        have hEI626 := hEI612.put hI618 (by decide)
                        show pl _ _ _ (189, [(0, .ref m0)], [], M614) _
                        refine ps_st (S' := (190, [(0, .ref m0)], [.int 0], M614)) rfl rfl rfl ?_
                        refine ps_st (S' := (191, [(0, .ref m0), (1, .int 0)], [], M614)) rfl rfl rfl ?_
                        exact (LL kf).1 (0) (p'595) (E596) (tx1597) (cN1598) (A1599) M614 I615 R601 hR616 hEI626 hER613 hi621 hi622 hi620 hi619 hi617 hF_623 hY_624 hP_625 (hh) (hpl) (q173_k) (by have := q173_l; omega)
                      · skip
                        obtain ⟨e627, I628, R629, q173_s, rfl, hR630, hI631, hX632, hi633, hi634⟩ := q594
                        have hi635 := (hI631 53 (by decide)).trans hi587
                        have hi636 := (hI631 52 (by decide)).trans hi588
                        have hF_637 := hF_589.mono (cIx hI631 (by decide)) (cRx hX632 (by decide))
                        have hEI638 := hEI591.tr hI631 (by decide)
                        have hER639 := hER566.tr hX632 (by decide)
                        show pl _ _ _ (176, [(0, .ref m0)], [.int 0], M593) _
                        have hpl : s_pool f n (by2 f 6) = .inl e627 := by
                          unfold s_pool
                          rw [if_neg (by omega), if_neg (by omega)]
                          exact q173_s
                        refine ps_if (S1 := (181, [(0, .ref m0)], [], M593)) (S2 := (179, [(0, .ref m0)], [], M593)) rfl rfl rfl (fun c_176 => ?_) (fun c_176 => ?_)
                        · exact absurd (of_decide_eq_true c_176) (by decide)
                        refine ps_st (S' := (180, [(0, .ref m0)], [.int 0], M593)) rfl rfl rfl ?_
                        exact ps_ret rfl rfl (Or.inr ⟨e627, I628, R629, by
                            unfold s_whole
                            rw [hh, if_neg (fun h => h rfl)]
                            rw [hpl], rfl, hR630, hEI638, hER639, hi633, hi634⟩)
                    · have c_155 : ¬ (¬ (nI (by2 f 8)) = 0) := of_decide_eq_false c_155
                      have n_155 : by2 f 8 = 0 := (eq_nI (p := by2 f 8) (n := 0) (Nat.lt_trans (by2_lt _ _) (by decide)) (by decide)).mp (Decidable.not_not.mp c_155)
                      refine ps_st (S' := (159, [(0, .ref m0)], [.ref m0], M570)) rfl rfl rfl ?_
                      refine ps_st (S' := (160, [(0, .ref m0)], [.int 4, .ref m0], M570)) rfl rfl rfl ?_
                      refine ps_st (S' := (162, [(0, .ref m0)], [.int 8, .int 4, .ref m0], M570)) rfl rfl rfl ?_
                      refine pl_call (a := [.ref m0, .int 4, .int 8]) (rest := []) rfl rfl rfl (rd_wrong (x1 := 4) (x2 := 8) hR572) (fun v640 M641 q642 => ?_)
                      obtain ⟨I643, R644, rfl, hR645, hI646, hX647, hi648, hi649⟩ := q642
                      have hi650 := (hI646 20 (by decide)).trans hi575
                      have hi651 := (hI646 53 (by decide)).trans hi576
                      have hi652 := (hI646 50 (by decide)).trans hi577
                      have hi653 := (hI646 52 (by decide)).trans hi573
                      have hF_654 := hF_578.mono (cIx hI646 (by decide)) (cRx hX647 (by decide))
                      have hY_655 := hY_579.mono (cIx hI646 (by decide)) (cRx hX647 (by decide))
                      have hEI656 := hEI580.tr hI646 (by decide)
                      have hER657 := hER566.tr hX647 (by decide)
                      show pl _ _ _ (165, [(0, .ref m0)], [.int 0], M641) _
                      exact ps_ret rfl rfl (Or.inr ⟨(4, 8), I643, R644, by
                          unfold s_whole
                          rw [hh, if_neg (fun h => h rfl)]
                          rw [show s_pool f n (by2 f 6) = .inl (4, 8) by unfold s_pool; rw [if_neg (by omega), if_pos (by omega)]], rfl, hR645, hEI656, hER657, hi648, hi649⟩)
                  · skip
                    obtain ⟨I658, R659, q133_s, rfl, hR660, hI661, hX662, hi663, hi664⟩ := q554
                    have hi665 := (hI661 20 (by decide)).trans hi547
                    have hi666 := (hI661 53 (by decide)).trans hi548
                    have hi667 := (hI661 50 (by decide)).trans hi545
                    have hF_668 := hF_549.mono (cIx hI661 (by decide)) (cRx hX662 (by decide))
                    have hY_669 := hY_550.mono (cIx hI661 (by decide)) (cRx hX662 (by decide))
                    have hEI670 := hEI551.tr hI661 (by decide)
                    have hER671 := hER361.tr hX662 (by decide)
                    show pl _ _ _ (136, [(0, .ref m0)], [.int 0], M553) _
                    refine ps_if (S1 := (141, [(0, .ref m0)], [], M553)) (S2 := (139, [(0, .ref m0)], [], M553)) rfl rfl rfl (fun c_136 => ?_) (fun c_136 => ?_)
                    · exact absurd (of_decide_eq_true c_136) (by decide)
                    refine ps_st (S' := (140, [(0, .ref m0)], [.int 0], M553)) rfl rfl rfl ?_
                    exact ps_ret rfl rfl (Or.inr ⟨(1, 8), I658, R659, by
                        unfold s_whole
                        rw [hh, if_neg (fun h => h rfl)]
                        rw [show s_pool f n (by2 f 6) = .inl (1, 8) by unfold s_pool; rw [if_pos (by omega)]], rfl, hR660, hEI670, hER671, hi663, hi664⟩)
                · have c_113 : ¬ ((nI (by2 f 4)) = 0) := of_decide_eq_false c_113
                  have n_113 : ¬ (by2 f 4 = 0) := fun h9 => c_113 ((eq_nI (p := by2 f 4) (n := 0) (Nat.lt_trans (by2_lt _ _) (by decide)) (by decide)).mpr h9)
                  refine ps_st (S' := (117, [(0, .ref m0)], [.ref m0], M365)) rfl rfl rfl ?_
                  refine ps_st (S' := (118, [(0, .ref m0)], [.int 3, .ref m0], M365)) rfl rfl rfl ?_
                  refine ps_st (S' := (119, [(0, .ref m0)], [.int 4, .int 3, .ref m0], M365)) rfl rfl rfl ?_
                  refine pl_call (a := [.ref m0, .int 3, .int 4]) (rest := []) rfl rfl rfl (rd_wrong (x1 := 3) (x2 := 4) hR367) (fun v672 M673 q674 => ?_)
                  obtain ⟨I675, R676, rfl, hR677, hI678, hX679, hi680, hi681⟩ := q674
                  have hi682 := (hI678 20 (by decide)).trans hi370
                  have hi683 := (hI678 50 (by decide)).trans hi371
                  have hi684 := (hI678 53 (by decide)).trans hi368
                  have hF_685 := hF_372.mono (cIx hI678 (by decide)) (cRx hX679 (by decide))
                  have hY_686 := hY_373.mono (cIx hI678 (by decide)) (cRx hX679 (by decide))
                  have hEI687 := hEI374.tr hI678 (by decide)
                  have hER688 := hER361.tr hX679 (by decide)
                  show pl _ _ _ (122, [(0, .ref m0)], [.int 0], M673) _
                  exact ps_ret rfl rfl (Or.inr ⟨(3, 4), I675, R676, by
                      have hh : s_head f n = (3, 4) := by
                        unfold s_head
                        first | ((repeat first | rw [if_pos (by omega)] | rw [if_neg (by omega)]) <;> first | rfl | omega) | ((repeat' split) <;> first | rfl | (exfalso; omega) | omega)
                      unfold s_whole
                      rw [hh, if_pos (by decide)], rfl, hR677, hEI687, hER688, hi680, hi681⟩)
        · skip
          obtain ⟨I689, R690, q63_s, rfl, hR691, hI692, hX693, hi694, hi695⟩ := q350
          have hi696 := (hI692 20 (by decide)).trans hi344
          have hi697 := (hI692 50 (by decide)).trans hi342
          have hF_698 := hF_345.mono (cIx hI692 (by decide)) (cRx hX693 (by decide))
          have hY_699 := hY_346.mono (cIx hI692 (by decide)) (cRx hX693 (by decide))
          have hEI700 := hEI347.tr hI692 (by decide)
          have hER701 := hER338.tr hX693 (by decide)
          show pl _ _ _ (66, [(0, .ref m0)], [.int 0], M349) _
          refine ps_if (S1 := (71, [(0, .ref m0)], [], M349)) (S2 := (69, [(0, .ref m0)], [], M349)) rfl rfl rfl (fun c_66 => ?_) (fun c_66 => ?_)
          · exact absurd (of_decide_eq_true c_66) (by decide)
          refine ps_st (S' := (70, [(0, .ref m0)], [.int 0], M349)) rfl rfl rfl ?_
          exact ps_ret rfl rfl (Or.inr ⟨(1, 6), I689, R690, by
              have hh : s_head f n = (1, 6) := by
                unfold s_head
                first | ((repeat first | rw [if_pos (by omega)] | rw [if_neg (by omega)]) <;> first | rfl | omega) | ((repeat' split) <;> first | rfl | (exfalso; omega) | omega)
              unfold s_whole
              rw [hh, if_pos (by decide)], rfl, hR691, hEI700, hER701, hi694, hi695⟩)
      · skip
        obtain ⟨I702, R703, q45_s, rfl, hR704, hI705, hX706, hi707, hi708⟩ := q327
        have hi709 := (hI705 20 (by decide)).trans hi321
        have hi710 := (hI705 50 (by decide)).trans hi319
        have hF_711 := hF_322.mono (cIx hI705 (by decide)) (cRx hX706 (by decide))
        have hY_712 := hY_323.mono (cIx hI705 (by decide)) (cRx hX706 (by decide))
        have hEI713 := hEI324.tr hI705 (by decide)
        have hER714 := hER312.tr hX706 (by decide)
        show pl _ _ _ (48, [(0, .ref m0)], [.int 0], M326) _
        refine ps_if (S1 := (53, [(0, .ref m0)], [], M326)) (S2 := (51, [(0, .ref m0)], [], M326)) rfl rfl rfl (fun c_48 => ?_) (fun c_48 => ?_)
        · exact absurd (of_decide_eq_true c_48) (by decide)
        refine ps_st (S' := (52, [(0, .ref m0)], [.int 0], M326)) rfl rfl rfl ?_
        exact ps_ret rfl rfl (Or.inr ⟨(1, 4), I702, R703, by
            have hh : s_head f n = (1, 4) := by
              unfold s_head
              first | ((repeat first | rw [if_pos (by omega)] | rw [if_neg (by omega)]) <;> first | rfl | omega) | ((repeat' split) <;> first | rfl | (exfalso; omega) | omega)
            unfold s_whole
            rw [hh, if_pos (by decide)], rfl, hR704, hEI713, hER714, hi707, hi708⟩)
    · have n_26 : ¬ (by4 f 0 = 3405691582) := fun h9 => of_decide_eq_false c_26 ((cL_eq (p := by4 f 0) (k := 3405691582) (x := (nL (by4 f 0))) (y := 3405691582) rfl rfl (by omega) (by omega)).mpr h9)
      refine ps_st (S' := (30, [(0, .ref m0)], [.ref m0], M300)) rfl rfl rfl ?_
      refine ps_st (S' := (31, [(0, .ref m0)], [.int 2, .ref m0], M300)) rfl rfl rfl ?_
      refine ps_st (S' := (32, [(0, .ref m0)], [.int 0, .int 2, .ref m0], M300)) rfl rfl rfl ?_
      refine pl_call (a := [.ref m0, .int 2, .int 0]) (rest := []) rfl rfl rfl (rd_wrong (x1 := 2) (x2 := 0) hR304) (fun v715 M716 q717 => ?_)
      obtain ⟨I718, R719, rfl, hR720, hI721, hX722, hi723, hi724⟩ := q717
      have hi725 := (hI721 20 (by decide)).trans hi307
      have hi726 := (hI721 50 (by decide)).trans hi308
      have hF_727 := hF_309.mono (cIx hI721 (by decide)) (cRx hX722 (by decide))
      have hY_728 := hY_310.mono (cIx hI721 (by decide)) (cRx hX722 (by decide))
      have hEI729 := hEI311.tr hI721 (by decide)
      have hER730 := hER312.tr hX722 (by decide)
      show pl _ _ _ (35, [(0, .ref m0)], [.int 0], M716) _
      exact ps_ret rfl rfl (Or.inr ⟨(2, 0), I718, R719, by
          have hh : s_head f n = (2, 0) := by
            unfold s_head
            first | ((repeat first | rw [if_pos (by omega)] | rw [if_neg (by omega)]) <;> first | rfl | omega) | ((repeat' split) <;> first | rfl | (exfalso; omega) | omega)
          unfold s_whole
          rw [hh, if_pos (by decide)], rfl, hR720, hEI729, hER730, hi723, hi724⟩)
  · skip
    obtain ⟨I731, R732, q9_s, rfl, hR733, hI734, hX735, hi736, hi737⟩ := q301
    have hi738 := (hI734 20 (by decide)).trans hi295
    have hi739 := (hI734 50 (by decide)).trans hi293
    have hF_740 := hF_296.mono (cIx hI734 (by decide)) (cRx hX735 (by decide))
    have hY_741 := hY_297.mono (cIx hI734 (by decide)) (cRx hX735 (by decide))
    have hEI742 := hEI298.tr hI734 (by decide)
    have hER743 := hER.tr hX735 (by decide)
    show pl _ _ _ (12, [(0, .ref m0)], [.int 0], M300) _
    refine ps_if (S1 := (17, [(0, .ref m0)], [], M300)) (S2 := (15, [(0, .ref m0)], [], M300)) rfl rfl rfl (fun c_12 => ?_) (fun c_12 => ?_)
    · exact absurd (of_decide_eq_true c_12) (by decide)
    refine ps_st (S' := (16, [(0, .ref m0)], [.int 0], M300)) rfl rfl rfl ?_
    exact ps_ret rfl rfl (Or.inr ⟨(1, 0), I731, R732, by
        have hh : s_head f n = (1, 0) := by
          unfold s_head
          first | ((repeat first | rw [if_pos (by omega)] | rw [if_neg (by omega)]) <;> first | rfl | omega) | ((repeat' split) <;> first | rfl | (exfalso; omega) | omega)
        unfold s_whole
        rw [hh, if_pos (by decide)], rfl, hR733, hEI742, hER743, hi736, hi737⟩)
end
section
/-! texts as the reference reads them (my own text) -/
section TEA
theorem SYT.ch {tx : List (List Nat)} {cN : Nat} {A : Nat → Nat} {I : rI} {R : rR} {s k : Nat} {l : List Nat} (h : SYT tx cN A I R) (hs : s < tx.length ∧ tx.getD s [] = l) (hk : k < l.length) : l.getD k 0 < 65536 := by
  obtain ⟨-, -, -, h4⟩ := h.2.1 s hs.1
  rw [hs.2] at h4
  exact (h4 k hk).2
theorem SYT.ln {tx : List (List Nat)} {cN : Nat} {A : Nat → Nat} {I : rI} {R : rR} {s : Nat} {l : List Nat} (h : SYT tx cN A I R) (hs : s < tx.length ∧ tx.getD s [] = l) : l.length ≤ 66000 := by
  obtain ⟨-, -, h3, -⟩ := h.2.1 s hs.1
  rw [hs.2] at h3
  have := h.1.2.2.2
  omega
theorem mem_gd {l : List Nat} {k : Nat} (h : k < l.length) : l.getD k 0 ∈ l := by
  rw [List.getD_eq_getElem?_getD, List.getElem?_eq_getElem h, Option.getD_some]
  exact List.getElem_mem h
theorem gdm7 {l : List Nat} {x : Nat} (h : x ∈ l) : ∃ i, i < l.length ∧ l.getD i 0 = x := by
  obtain ⟨i, hi, e⟩ := List.getElem_of_mem h
  refine ⟨i, hi, ?_⟩
  rw [List.getD_eq_getElem?_getD, List.getElem?_eq_getElem hi, Option.getD_some]
  exact e
theorem unq_no7 {l : List Nat} {k : Nat} (hk : k < l.length) (h : l.getD k 0 = 46 ∨ l.getD k 0 = 59 ∨ l.getD k 0 = 91 ∨ l.getD k 0 = 47) : unqN l = 0 := by
  unfold unqN
  have := mem_gd hk
  rw [if_pos]
  rcases h with h | h | h | h <;> rw [h] at this
  · exact Or.inr (Or.inl this)
  · exact Or.inr (Or.inr (Or.inl this))
  · exact Or.inr (Or.inr (Or.inr (Or.inl this)))
  · exact Or.inr (Or.inr (Or.inr (Or.inr this)))
theorem unq_ok {l : List Nat} (hl : 0 < l.length) (h : ∀ i, i < l.length → ¬ (l.getD i 0 = 46 ∨ l.getD i 0 = 59 ∨ l.getD i 0 = 91 ∨ l.getD i 0 = 47)) : unqN l = 1 := by
  unfold unqN
  rw [if_neg]
  rintro (h1 | h1 | h1 | h1 | h1)
  · rw [h1] at hl
    exact absurd hl (by decide)
  all_goals
    obtain ⟨i, hi, e⟩ := gdm7 h1
    have := h i hi
    omega
theorem unq_nil7 {l : List Nat} (hl : l.length ≤ 0) : unqN l = 0 := by
  unfold unqN
  rw [if_pos (Or.inl (List.eq_nil_of_length_eq_zero (by omega)))]
theorem ang_1 {l : List Nat} {k : Nat} (hk : k < l.length) (h : l.getD k 0 = 60 ∨ l.getD k 0 = 62) : angN l = 1 := by
  unfold angN
  have := mem_gd hk
  rw [if_pos]
  rcases h with h | h <;> rw [h] at this
  · exact Or.inl this
  · exact Or.inr this
theorem ang_0 {l : List Nat} (h : ∀ i, i < l.length → ¬ (l.getD i 0 = 60 ∨ l.getD i 0 = 62)) : angN l = 0 := by
  unfold angN
  rw [if_neg]
  rintro (h1 | h1)
  all_goals
    obtain ⟨i, hi, e⟩ := gdm7 h1
    have := h i hi
    omega
def unq0 (l : List Nat) : Nat := if ¬ unqN l = 0 ∧ angN l = 0 then 1 else 0
end TEA
section TEB
variable {c : Nat → Nat}
def nmN (c : Nat → Nat) (a e : Nat) : Nat := if s_nm c (e - a) a a = some e then 1 else 0
theorem nm_st {e k p : Nat} (h : k < e) : s_nm c (e - k) k p = if c k = 59 then (if p < k then some k else none) else if c k = 46 ∨ c k = 91 ∨ (c k = 47 ∧ k = p) then none else s_nm c (e - (k + 1)) (k + 1) (if c k = 47 then k + 1 else p) := by
  rw [show e - k = (e - (k + 1)) + 1 by omega]
  rfl
theorem nm_bad {e k p : Nat} (h : k < e) (hc : c k = 46 ∨ c k = 59 ∨ c k = 91 ∨ (c k = 47 ∧ k = p)) : ¬ s_nm c (e - k) k p = some e := by
  rw [nm_st h]
  by_cases h1 : c k = 59
  · rw [if_pos h1]
    split
    · exact fun h9 => by have := Option.some.inj h9; omega
    · exact fun h9 => by cases h9
  · rw [if_neg h1, if_pos (by omega)]
    exact fun h9 => by cases h9
theorem nm_go {e k p : Nat} (h : k < e) (hc : ¬ (c k = 46 ∨ c k = 59 ∨ c k = 91 ∨ (c k = 47 ∧ k = p))) : s_nm c (e - k) k p = s_nm c (e - (k + 1)) (k + 1) (if c k = 47 then k + 1 else p) := by
  rw [nm_st h, if_neg (by omega), if_neg (by omega)]
theorem nm_end {e p : Nat} : s_nm c (e - e) e p = if p < e then some e else none := by
  rw [Nat.sub_self]
  rfl
theorem nm_stop : ∀ {r i p x : Nat}, s_nm c r i p = some x → x < i + r → c x = 59 := by
  intro r
  induction r with
  | zero => intro i p x h hx; have := s_nm_le h; omega
  | succ r ih =>
    intro i p x h hx
    unfold s_nm at h
    split at h
    · rename_i h1
      split at h
      · cases h; exact h1
      · cases h
    · split at h
      · cases h
      · exact ih h (by omega)
theorem nm_no : ∀ {r i p x : Nat}, (∀ j, i ≤ j → j < i + r → ¬ c j = 59) → s_nm c r i p = some x → x = i + r := by
  intro r i p x h hx
  have h1 := s_nm_le hx
  by_cases e : x = i + r
  · exact e
  · exact absurd (nm_stop hx (by omega)) (h x (by omega) (by omega))
theorem nm_semi {e n : Nat} (he : e < n) (hc : c e = 59) : ∀ {d i p : Nat}, d = e - i → i ≤ e → p ≤ i → (∀ j, i ≤ j → j < e → ¬ c j = 59) → s_nm c (n - i) i p = if s_nm c (e - i) i p = some e then some e else none := by
  intro d
  induction d with
  | zero =>
    intro i p hd hi hp h
    have e1 : i = e := by omega
    subst e1
    rw [nm_st he, if_pos hc, nm_end]
    by_cases h1 : p < i
    · rw [if_pos h1, if_pos rfl]
    · rw [if_neg h1, if_neg (fun h9 => by cases h9)]
  | succ d ih =>
    intro i p hd hi hp h
    have h1 : ¬ c i = 59 := h i (Nat.le_refl _) (by omega)
    rw [nm_st (show i < n by omega), nm_st (show i < e by omega), if_neg h1, if_neg h1]
    by_cases h2 : c i = 46 ∨ c i = 91 ∨ (c i = 47 ∧ i = p)
    · rw [if_pos h2, if_pos h2, if_neg (fun h9 => by cases h9)]
    · rw [if_neg h2, if_neg h2]
      exact ih (by omega) (by omega) (by split <;> omega) (fun j a b => h j (by omega) b)
theorem br_st {n k : Nat} (h : k < n) : s_br c (n - k) k = if c k = 91 then s_br c (n - (k + 1)) (k + 1) else k := by
  rw [show n - k = (n - (k + 1)) + 1 by omega]
  rfl
theorem br_end {n k : Nat} (h : n ≤ k) : s_br c (n - k) k = k := by
  rw [show n - k = 0 by omega]
  rfl
theorem ty_1 {n a k : Nat} (hb : s_br c (n - a) a = k) (h : n ≤ k ∨ 255 < k - a) : s_ty c n a = none := by
  unfold s_ty
  rw [hb, if_pos h]
theorem ty_p {n a k : Nat} (hb : s_br c (n - a) a = k) (h : ¬ (n ≤ k ∨ 255 < k - a)) (hp : c k = 66 ∨ c k = 67 ∨ c k = 68 ∨ c k = 70 ∨ c k = 73 ∨ c k = 74 ∨ c k = 83 ∨ c k = 90) : s_ty c n a = some (k + 1) := by
  unfold s_ty
  rw [hb, if_neg h, if_pos hp]
theorem ty_o {n a k : Nat} (hb : s_br c (n - a) a = k) (h : ¬ (n ≤ k ∨ 255 < k - a)) (hp : ¬ (c k = 66 ∨ c k = 67 ∨ c k = 68 ∨ c k = 70 ∨ c k = 73 ∨ c k = 74 ∨ c k = 83 ∨ c k = 90)) (hl : ¬ c k = 76) : s_ty c n a = none := by
  unfold s_ty
  rw [hb, if_neg h, if_neg hp, if_neg hl]
theorem ty_L {n a k : Nat} (hb : s_br c (n - a) a = k) (h : ¬ (n ≤ k ∨ 255 < k - a)) (hl : c k = 76) : s_ty c n a = match s_nm c (n - (k + 1)) (k + 1) (k + 1) with
    | none => none
    | some x => if x < n then some (x + 1) else none := by
  unfold s_ty
  rw [hb, if_neg h, if_neg (by omega), if_pos hl]
  rfl
theorem ty_Ln {n a k : Nat} (hb : s_br c (n - a) a = k) (h : ¬ (n ≤ k ∨ 255 < k - a)) (hl : c k = 76) (hn : ∀ j, k + 1 ≤ j → j < n → ¬ c j = 59) : s_ty c n a = none := by
  rw [ty_L hb h hl]
  cases hx : s_nm c (n - (k + 1)) (k + 1) (k + 1) with
  | none => rfl
  | some x =>
    have := nm_no (fun j a b => hn j a (by omega)) hx
    show (if x < n then some (x + 1) else none) = none
    rw [if_neg (by omega)]
theorem ty_Ls {n a k e : Nat} (hb : s_br c (n - a) a = k) (h : ¬ (n ≤ k ∨ 255 < k - a)) (hl : c k = 76) (he : e < n) (hk : k + 1 ≤ e) (hc : c e = 59) (hn : ∀ j, k + 1 ≤ j → j < e → ¬ c j = 59) : s_ty c n a = if nmN c (k + 1) e = 0 then none else some (e + 1) := by
  rw [ty_L hb h hl, nm_semi he hc rfl hk (Nat.le_refl _) hn]
  unfold nmN
  by_cases h1 : s_nm c (e - (k + 1)) (k + 1) (k + 1) = some e
  · rw [if_pos h1, if_pos h1, if_neg (by decide)]
    show (if e < n then some (e + 1) else none) = _
    rw [if_pos he]
  · rw [if_neg h1, if_neg h1, if_pos rfl]
theorem ty_last {e i : Nat} (h : s_ty c e i = some e) : ¬ c (e - 1) = 86 := by
  unfold s_ty at h
  have h1 := s_br_le (c := c) (r := e - i) (i := i)
  split at h
  · cases h
  · split at h
    · have h2 := Option.some.inj h
      rw [show e - 1 = s_br c (e - i) i by omega]
      omega
    · split at h
      · split at h
        · cases h
        · rename_i y hy
          split at h
          · have h2 := Option.some.inj h
            have h3 := nm_stop hy (by omega)
            rw [show e - 1 = y by omega, h3]
            decide
          · cases h
      · cases h
/-- arguments without a limit -/
def s_pl (c : Nat → Nat) (e : Nat) : Nat → Nat → Nat → Option (Nat × Nat)
  | 0, i, w => some (i, w)
  | r + 1, i, w => if i < e ∧ ¬ c i = 41 then (match s_ty c e i with
    | none => none
    | some i' => s_pl c e r i' (w + pW (c i))) else some (i, w)
theorem s_pl_0 {e r i w : Nat} (h : ¬ (i < e ∧ ¬ c i = 41)) : s_pl c e r i w = some (i, w) := by
  cases r with
  | zero => rfl
  | succ r => unfold s_pl; rw [if_neg h]
theorem s_pl_fuel {e : Nat} : ∀ {r r' i w : Nat}, e - i ≤ r → e - i ≤ r' → s_pl c e r i w = s_pl c e r' i w := by
  intro r
  induction r with
  | zero => intro r' i w h h'; rw [s_pl_0 (by omega), s_pl_0 (by omega)]
  | succ r ih =>
    intro r' i w h h'
    by_cases h1 : i < e ∧ ¬ c i = 41
    · cases r' with
      | zero => omega
      | succ r' =>
        unfold s_pl
        rw [if_pos h1, if_pos h1]
        cases ht : s_ty c e i with
        | none => rfl
        | some x =>
          have := s_ty_le ht
          exact ih (by omega) (by omega)
    · rw [s_pl_0 h1, s_pl_0 h1]
theorem s_pl_step {e i w x : Nat} (h : i < e ∧ ¬ c i = 41) (ht : s_ty c e i = some x) : s_pl c e (e - i) i w = s_pl c e (e - x) x (w + pW (c i)) := by
  have := s_ty_le ht
  rw [show e - i = (e - i - 1) + 1 by omega]
  conv => lhs; unfold s_pl
  rw [if_pos h, ht]
  exact s_pl_fuel (by omega) (by omega)
theorem s_pl_bad {e i w : Nat} (h : i < e ∧ ¬ c i = 41) (ht : s_ty c e i = none) : s_pl c e (e - i) i w = none := by
  rw [show e - i = (e - i - 1) + 1 by omega]
  unfold s_pl
  rw [if_pos h, ht]
theorem ar_pl {e : Nat} : ∀ {r i w : Nat}, e - i ≤ r → (∀ k W, s_pl c e r i w = some (k, W) → w ≤ W ∧ i ≤ k ∧ (W ≤ 255 → s_ar c e r i w = some (k, W)) ∧ (255 < W → ∃ k' w', s_ar c e r i w = some (k', w') ∧ 255 < w')) ∧ (s_pl c e r i w = none → s_ar c e r i w = none ∨ ∃ k' w', s_ar c e r i w = some (k', w') ∧ 255 < w') := by
  intro r
  induction r with
  | zero =>
    intro i w hr
    refine ⟨fun k W h => ?_, fun h => (by cases h)⟩
    cases h
    exact ⟨Nat.le_refl _, Nat.le_refl _, fun _ => rfl, fun h9 => ⟨i, w, rfl, h9⟩⟩
  | succ r ih =>
    intro i w hr
    by_cases h1 : i < e ∧ ¬ c i = 41
    · cases ht : s_ty c e i with
      | none =>
        have e1 : s_pl c e (r + 1) i w = none := by
          unfold s_pl
          rw [if_pos h1, ht]
        refine ⟨fun k W h => (by rw [e1] at h; cases h), fun _ => ?_⟩
        by_cases h2 : w ≤ 255
        · exact Or.inl (by unfold s_ar; rw [if_pos ⟨h2, h1.1, h1.2⟩, ht])
        · exact Or.inr ⟨i, w, s_ar_0 (by omega), by omega⟩
      | some x =>
        have hx := s_ty_le ht
        have e1 : s_pl c e (r + 1) i w = s_pl c e r x (w + pW (c i)) := by
          conv => lhs; unfold s_pl
          rw [if_pos h1, ht]
        have h3 := ih (i := x) (w := w + pW (c i)) (by omega)
        by_cases h2 : w ≤ 255
        · have e2 : s_ar c e (r + 1) i w = s_ar c e r x (w + pW (c i)) := by
            conv => lhs; unfold s_ar
            rw [if_pos ⟨h2, h1.1, h1.2⟩, ht]
          rw [e1, e2]
          refine ⟨fun k W h => ?_, h3.2⟩
          obtain ⟨a, b, d⟩ := h3.1 k W h
          exact ⟨by omega, by omega, d⟩
        · rw [e1]
          refine ⟨fun k W h => ?_, fun _ => Or.inr ⟨i, w, s_ar_0 (by omega), by omega⟩⟩
          obtain ⟨a, b, d⟩ := h3.1 k W h
          exact ⟨by omega, by omega, fun h9 => by omega, fun _ => ⟨i, w, s_ar_0 (by omega), by omega⟩⟩
    · rw [s_pl_0 h1, s_ar_0 (by omega)]
      refine ⟨fun k W h => ?_, fun h => (by cases h)⟩
      cases h
      exact ⟨Nat.le_refl _, Nat.le_refl _, fun _ => rfl, fun h9 => ⟨i, w, rfl, h9⟩⟩
theorem ms_pl {e k W : Nat} (h : s_pl c e (e - 1) 1 0 = some (k, W)) : s_ms c e 1 = if e ≤ k + 1 ∨ 255 < W then 0 else if c (k + 1) = 86 ∧ k + 2 = e then 4096 + W else if s_ty c e (k + 1) = some e then 4096 + 1024 * pW (c (k + 1)) + W else 0 := by
  obtain ⟨-, -, h1, h2⟩ := (ar_pl (c := c) (e := e) (r := e - 1) (i := 1) (w := 0) (by omega)).1 k W h
  unfold s_ms
  by_cases hw : W ≤ 255
  · rw [h1 hw]
  · obtain ⟨k', w', e1, e2⟩ := h2 (by omega)
    rw [e1]
    show (if e ≤ k' + 1 ∨ 255 < w' then 0 else _) = _
    rw [if_pos (Or.inr e2), if_pos (Or.inr (by omega))]
theorem ms_no {e : Nat} (h : s_pl c e (e - 1) 1 0 = none) : s_ms c e 1 = 0 := by
  unfold s_ms
  rcases (ar_pl (c := c) (e := e) (r := e - 1) (i := 1) (w := 0) (by omega)).2 h with e1 | ⟨k', w', e1, e2⟩
  · rw [e1]
  · rw [e1]
    show (if e ≤ k' + 1 ∨ 255 < w' then 0 else _) = _
    rw [if_pos (Or.inr e2)]
end TEB
section TEC
variable {l : List Nat}
theorem fld_eq : fldN l = if s_ty (fun i => l.getD i 0) l.length 0 = some l.length then 1 else 0 := by
  unfold fldN shN s_sh
  by_cases h0 : l.length = 0
  · rw [if_pos h0, if_neg (by omega), if_neg]
    unfold s_ty
    rw [if_pos (Or.inl (by omega))]
    exact fun h => by cases h
  · rw [if_neg h0]
    by_cases h1 : l.getD 0 0 = 40
    · rw [if_pos h1]
      have h2 : s_ty (fun i => l.getD i 0) l.length 0 = none := by
        have hb : s_br (fun i => l.getD i 0) (l.length - 0) 0 = 0 := by
          rw [br_st (by omega), if_neg (by rw [h1]; decide)]
        exact ty_o hb (by omega) (by rw [h1]; decide) (by rw [h1]; decide)
      rw [h2, if_neg (show ¬ ((none : Option Nat) = some l.length) from fun h => by cases h), if_neg]
      unfold s_ms
      split
      · omega
      · split
        · omega
        · split
          · omega
          · split <;> omega
    · rw [if_neg h1]
      have h3 := pW_le (l.getD 0 0)
      by_cases h2 : s_ty (fun i => l.getD i 0) l.length 0 = some l.length
      · rw [if_pos h2, if_pos h2, if_pos]
        unfold pW
        split <;> omega
      · rw [if_neg h2, if_neg h2, if_neg (by omega)]
theorem mth_sh (h1 : 0 < l.length) (h2 : l.getD 0 0 = 40) : shN l = s_ms (fun i => l.getD i 0) l.length 1 := by
  unfold shN s_sh
  rw [if_neg (by omega), if_pos h2]
theorem mth_no (h : l.length = 0 ∨ ¬ l.getD 0 0 = 40) : mthN l = 0 := by
  unfold mthN shN s_sh
  by_cases h0 : l.length = 0
  · rw [if_pos h0, if_neg (by omega)]
  · rw [if_neg h0, if_neg (show ¬ l.getD 0 0 = 40 by omega)]
    have h3 := pW_le (l.getD 0 0)
    dsimp only
    split
    · rw [if_neg (by omega)]
    · rw [if_neg (by omega)]
theorem mth_pl {k W : Nat} (h1 : 0 < l.length) (h2 : l.getD 0 0 = 40) (h : s_pl (fun i => l.getD i 0) l.length (l.length - 1) 1 0 = some (k, W)) : mthN l = if l.length ≤ k + 1 ∨ 255 < W then 0 else if (l.getD (k + 1) 0 = 86 ∧ k + 2 = l.length) ∨ s_ty (fun i => l.getD i 0) l.length (k + 1) = some l.length then 1 else 0 := by
  unfold mthN
  rw [mth_sh h1 h2, ms_pl h]
  by_cases a : l.length ≤ k + 1 ∨ 255 < W
  · rw [if_pos a, if_pos a, if_neg (by omega)]
  · rw [if_neg a, if_neg a]
    by_cases b : l.getD (k + 1) 0 = 86 ∧ k + 2 = l.length
    · rw [if_pos b, if_pos (by omega), if_pos (Or.inl b)]
    · rw [if_neg b]
      by_cases d : s_ty (fun i => l.getD i 0) l.length (k + 1) = some l.length
      · rw [if_pos d, if_pos (by omega), if_pos (Or.inr d)]
      · rw [if_neg d, if_neg (by omega), if_neg (fun h9 => h9.elim b d)]
theorem mth_nopl (h1 : 0 < l.length) (h2 : l.getD 0 0 = 40) (h : s_pl (fun i => l.getD i 0) l.length (l.length - 1) 1 0 = none) : mthN l = 0 := by
  unfold mthN
  rw [mth_sh h1 h2, ms_no h, if_neg (by omega)]
/-- a method's descriptor: where its arguments end, how many places they take -/
theorem mth_in (h : ¬ mthN l = 0) : 0 < l.length ∧ l.getD 0 0 = 40 ∧ ∃ k W, s_pl (fun i => l.getD i 0) l.length (l.length - 1) 1 0 = some (k, W) ∧ k + 1 < l.length ∧ W ≤ 255 ∧ 1 ≤ k ∧ l.getD k 0 = 41 ∧ argN l = W ∧ nresN l = if l.getD (l.length - 1) 0 = 86 ∧ l.getD (l.length - 2) 0 = 41 then 1 else 0 := by
  by_cases h0 : l.length = 0 ∨ ¬ l.getD 0 0 = 40
  · exact absurd (mth_no h0) h
  · have h1 : 0 < l.length := by omega
    have h2 : l.getD 0 0 = 40 := by omega
    refine ⟨h1, h2, ?_⟩
    cases hp : s_pl (fun i => l.getD i 0) l.length (l.length - 1) 1 0 with
    | none => exact absurd (mth_nopl h1 h2 hp) h
    | some kw =>
      obtain ⟨k, W⟩ := kw
      have h3 := mth_pl h1 h2 hp
      have h4 := ((ar_pl (c := fun i => l.getD i 0) (e := l.length) (r := l.length - 1) (i := 1) (w := 0) (by omega)).1 k W hp)
      by_cases a : l.length ≤ k + 1 ∨ 255 < W
      · rw [if_pos a] at h3
        exact absurd h3 h
      · have hk : l.getD k 0 = 41 := by
          have h5 : ∀ {r i w : Nat}, l.length - i ≤ r → s_pl (fun i => l.getD i 0) l.length r i w = some (k, W) → l.length ≤ k ∨ l.getD k 0 = 41 := by
            intro r
            induction r with
            | zero => intro i w hr hx; cases hx; omega
            | succ r ih =>
              intro i w hr hx
              by_cases b : i < l.length ∧ ¬ l.getD i 0 = 41
              · unfold s_pl at hx
                rw [if_pos b] at hx
                split at hx
                · cases hx
                · rename_i y hy
                  have := s_ty_le hy
                  exact ih (by omega) hx
              · rw [s_pl_0 b] at hx
                cases hx
                omega
          have := h5 (Nat.le_refl _) hp
          omega
        have hs := mth_sh h1 h2
        rw [ms_pl hp, if_neg a] at hs
        rw [if_neg a] at h3
        have hpw := pW_le (l.getD (k + 1) 0)
        refine ⟨k, W, rfl, by omega, by omega, h4.2.1, hk, ?_⟩
        by_cases b : l.getD (k + 1) 0 = 86 ∧ k + 2 = l.length
        · rw [if_pos b] at hs
          refine ⟨by unfold argN; rw [hs, if_pos (by omega)]; omega, ?_⟩
          unfold nresN
          rw [hs, if_pos (by omega), if_pos]
          rw [show l.length - 1 = k + 1 by omega, show l.length - 2 = k by omega]
          exact ⟨b.1, hk⟩
        · rw [if_neg b] at hs
          by_cases d : s_ty (fun i => l.getD i 0) l.length (k + 1) = some l.length
          · rw [if_pos d] at hs
            have hpw1 : 1 ≤ pW (l.getD (k + 1) 0) := by unfold pW; split <;> omega
            refine ⟨by unfold argN; rw [hs, if_pos (by omega)]; omega, ?_⟩
            unfold nresN
            rw [hs, if_neg (by omega), if_neg]
            exact fun h9 => ty_last d h9.1
          · rw [if_neg (fun h9 => h9.elim b d)] at h3
            exact absurd h3 h
end TEC

theorem nmN_le (c : Nat → Nat) (a e : Nat) : nmN c a e < 2 := by unfold nmN; split <;> decide
set_option maxHeartbeats 1000000 in
theorem rd_length {g : xe_G} {m0 : Nat} {q : Nat → Nat} {z : Nat × Nat} {I : rI} {R : rR} {M : mi_H} {tx : List (List Nat)} {cN : Nat} {A : Nat → Nat} {s : Nat} {l : List Nat} (hR : RS g m0 q z I R M)  (hY : SYT tx cN A I R) (hs : s < tx.length ∧ tx.getD s [] = l) : pt (mT g) 221 [.ref m0, .int (nI s)] M (fun v M' => (v = some (.int (nI (l.length))) ∧ M = M')) := by
  refine pt_in (b := mb_221 g) rfl (fun kf => ?_)
  show pl (mT g) kf (mb_221 g).2 (0, [(0, .ref m0), (1, .int (nI s))], [], M) _
  have hln := hY.ln hs
  have hts := hY.1.2.2
  refine ps_st (S' := (1, [(0, .ref m0), (1, .int (nI s))], [.ref m0], M)) rfl rfl rfl ?_
  refine pr_ref (j := 5) (S' := (4, [(0, .ref m0), (1, .int (nI s))], [.ref (q 5)], M)) rfl hR rfl rfl ?_
  refine ps_st (S' := (5, [(0, .ref m0), (1, .int (nI s))], [.int (nI s), .ref (q 5)], M)) rfl rfl rfl ?_
  refine pr_ld (a := 5) (j := s) (y := (nI l.length)) (S' := (6, [(0, .ref m0), (1, .int (nI s))], [.int (nI l.length)], M)) rfl hR rfl (by omega) (fun _ => by rw [← hs.2]; exact (hY.2.1 s hs.1).2.1) rfl (fun i1_5 => ?_)
  exact ps_reti rfl (⟨rfl, rfl⟩)
set_option maxHeartbeats 1000000 in
theorem rd_at {g : xe_G} {m0 : Nat} {q : Nat → Nat} {z : Nat × Nat} {I : rI} {R : rR} {M : mi_H} {tx : List (List Nat)} {cN : Nat} {A : Nat → Nat} {s : Nat} {l : List Nat} {k : Nat} (hR : RS g m0 q z I R M)  (hY : SYT tx cN A I R) (hs : s < tx.length ∧ tx.getD s [] = l) (hk : k < l.length) : pt (mT g) 176 [.ref m0, .int (nI s), .int (nI k)] M (fun v M' => (v = some (.int (nI (l.getD k 0))) ∧ M = M')) := by
  refine pt_in (b := mb_176 g) rfl (fun kf => ?_)
  show pl (mT g) kf (mb_176 g).2 (0, [(0, .ref m0), (1, .int (nI s)), (2, .int (nI k))], [], M) _
  have hln := hY.ln hs
  have hts := hY.1.2.2
  obtain ⟨ha1, ha2, ha3, ha4⟩ := hY.2.1 s hs.1
  rw [hs.2] at ha2 ha3 ha4
  refine ps_st (S' := (1, [(0, .ref m0), (1, .int (nI s)), (2, .int (nI k))], [.ref m0], M)) rfl rfl rfl ?_
  refine pr_ref (j := 1) (S' := (4, [(0, .ref m0), (1, .int (nI s)), (2, .int (nI k))], [.ref (q 1)], M)) rfl hR rfl rfl ?_
  refine ps_st (S' := (5, [(0, .ref m0), (1, .int (nI s)), (2, .int (nI k))], [.ref m0, .ref (q 1)], M)) rfl rfl rfl ?_
  refine pr_ref (j := 4) (S' := (8, [(0, .ref m0), (1, .int (nI s)), (2, .int (nI k))], [.ref (q 4), .ref (q 1)], M)) rfl hR rfl rfl ?_
  refine ps_st (S' := (9, [(0, .ref m0), (1, .int (nI s)), (2, .int (nI k))], [.int (nI s), .ref (q 4), .ref (q 1)], M)) rfl rfl rfl ?_
  refine pr_ld (a := 4) (j := s) (y := (nI (A s))) (S' := (10, [(0, .ref m0), (1, .int (nI s)), (2, .int (nI k))], [.int (nI (A s)), .ref (q 1)], M)) rfl hR rfl (by omega) (fun _ => ha1) rfl (fun i1_9 => ?_)
  refine ps_st (S' := (11, [(0, .ref m0), (1, .int (nI s)), (2, .int (nI k))], [.int (nI k), .int (nI (A s)), .ref (q 1)], M)) rfl rfl rfl ?_
  refine ps_st (S' := (12, [(0, .ref m0), (1, .int (nI s)), (2, .int (nI k))], [.int ((nI (A s)) + (nI k)), .ref (q 1)], M)) rfl rfl rfl ?_
  rw [nI_add1 (p := A s) (k := k) (x := (nI k)) rfl (by omega)]
  show pl _ _ _ (_, [(0, .ref m0), (1, .int (nI s)), (2, .int (nI k))], [.int (nI (A s + k)), .ref (q 1)], M) _
  refine pr_ld (a := 1) (j := A s + k) (y := (nI (l.getD k 0))) (S' := (13, [(0, .ref m0), (1, .int (nI s)), (2, .int (nI k))], [.int (nI (l.getD k 0))], M)) rfl hR rfl (by omega) (fun _ => (ha4 k hk).1) rfl (fun i1_12 => ?_)
  exact ps_reti rfl (⟨rfl, rfl⟩)
set_option maxHeartbeats 1000000 in
theorem rd_is {g : xe_G} {m0 : Nat} {q : Nat → Nat} {z : Nat × Nat} {I : rI} {R : rR} {M : mi_H} {tx : List (List Nat)} {cN : Nat} {A : Nat → Nat} {s : Nat} {l : List Nat} {lk : Nat} (hR : RS g m0 q z I R M)  (hY : SYT tx cN A I R) (hs : s < tx.length ∧ tx.getD s [] = l) (hlk : rlk lk) : pt (mT g) 216 [.ref m0, .int (nI s), .ref (g.2.1 lk)] M (fun v M' => (v = some (.int (nI (eqN l (ltx lk)))) ∧ M = M')) := by
  refine pt_in (b := mb_216 g) rfl (fun kf => ?_)
  show pl (mT g) kf (mb_216 g).2 (0, [(0, .ref m0), (1, .int (nI s)), (2, .ref (g.2.1 lk))], [], M) _
  have hln := hY.ln hs
  have hts := hY.1.2.2
  have hle := lt_len lk hlk
  have hlx := ltx_len lk
  have LL : ∀ (kf : Nat), (∀ (k : Nat), (k ≤ (xe_lt lk).2.2.2.length) → (l.length = (ltx lk).length) → (∀ i, i < k → l.getD i 0 = (ltx lk).getD i 0) →  pl (mT g) kf (mb_216 g).2 (16, [(0, .ref m0), (1, .int (nI s)), (2, .ref (g.2.1 lk)), (3, .int (nI k))], [], M) (fun v M' => (v = some (.int (nI (eqN l (ltx lk)))) ∧ M = M'))) := by
    intro kf
    induction kf with
    | zero => exact (by intros; exact pl_0)
    | succ kf ih =>
      intro k hk hl he
      refine ps_st1 (S' := (17, [(0, .ref m0), (1, .int (nI s)), (2, .ref (g.2.1 lk)), (3, .int (nI k))], [.int (nI k)], M)) rfl rfl rfl ?_
      refine ps_st (S' := (18, [(0, .ref m0), (1, .int (nI s)), (2, .ref (g.2.1 lk)), (3, .int (nI k))], [.ref (g.2.1 lk), .int (nI k)], M)) rfl rfl rfl ?_
      refine pr_slen (lk := lk) (S' := (21, [(0, .ref m0), (1, .int (nI s)), (2, .ref (g.2.1 lk)), (3, .int (nI k))], [.int (nI (xe_lt lk).2.2.2.length), .int (nI k)], M)) rfl hR (hlk) rfl rfl ?_
      refine ps_if2 (S1 := (46, [(0, .ref m0), (1, .int (nI s)), (2, .ref (g.2.1 lk)), (3, .int (nI k))], [], M)) (S2 := (24, [(0, .ref m0), (1, .int (nI s)), (2, .ref (g.2.1 lk)), (3, .int (nI k))], [], M)) rfl rfl rfl (fun c_21 => ?_) (fun c_21 => ?_)
      · have c_21 : (nI (xe_lt lk).2.2.2.length) ≤ (nI k) := of_decide_eq_true c_21
        have n_21 : (xe_lt lk).2.2.2.length ≤ k := (le_nI (p := (xe_lt lk).2.2.2.length) (n := k) (by omega) (by omega)).mp c_21
        refine ps_st (S' := (47, [(0, .ref m0), (1, .int (nI s)), (2, .ref (g.2.1 lk)), (3, .int (nI k))], [.int 1], M)) rfl rfl rfl ?_
        exact ps_ret rfl rfl (⟨congrArg (fun x => some (Value.int (nI x))) (show 1 = eqN l (ltx lk) from by
            unfold eqN
            rw [if_pos (ls_ext hl (fun i hi => he i (by omega)))]), rfl⟩)
      · have c_21 : ¬ ((nI (xe_lt lk).2.2.2.length) ≤ (nI k)) := of_decide_eq_false c_21
        have n_21 : ¬ ((xe_lt lk).2.2.2.length ≤ k) := fun h9 => c_21 ((le_nI (p := (xe_lt lk).2.2.2.length) (n := k) (by omega) (by omega)).mpr h9)
        refine ps_st (S' := (25, [(0, .ref m0), (1, .int (nI s)), (2, .ref (g.2.1 lk)), (3, .int (nI k))], [.ref m0], M)) rfl rfl rfl ?_
        refine ps_st (S' := (26, [(0, .ref m0), (1, .int (nI s)), (2, .ref (g.2.1 lk)), (3, .int (nI k))], [.int (nI s), .ref m0], M)) rfl rfl rfl ?_
        refine ps_st (S' := (27, [(0, .ref m0), (1, .int (nI s)), (2, .ref (g.2.1 lk)), (3, .int (nI k))], [.int (nI k), .int (nI s), .ref m0], M)) rfl rfl rfl ?_
        refine pl_call (a := [.ref m0, .int (nI s), .int (nI k)]) (rest := []) rfl rfl rfl (rd_at (tx := tx) (cN := cN) (A := A) (s := s) (l := l) (k := k) hR hY (hs) (by omega)) (fun v1 M2 q3 => ?_)
        obtain ⟨rfl, rfl⟩ := q3
        show pl _ _ _ (30, [(0, .ref m0), (1, .int (nI s)), (2, .ref (g.2.1 lk)), (3, .int (nI k))], [.int (nI (l.getD k 0))], M) _
        have hc_27 := hY.ch hs (k := k) (by omega)
        refine ps_st (S' := (31, [(0, .ref m0), (1, .int (nI s)), (2, .ref (g.2.1 lk)), (3, .int (nI k))], [.ref (g.2.1 lk), .int (nI (l.getD k 0))], M)) rfl rfl rfl ?_
        refine ps_st (S' := (32, [(0, .ref m0), (1, .int (nI s)), (2, .ref (g.2.1 lk)), (3, .int (nI k))], [.int (nI k), .ref (g.2.1 lk), .int (nI (l.getD k 0))], M)) rfl rfl rfl ?_
        refine pr_schar (lk := lk) (j := k) (S' := (35, [(0, .ref m0), (1, .int (nI s)), (2, .ref (g.2.1 lk)), (3, .int (nI k))], [.int (nI ((ltx lk).getD k 0)), .int (nI (l.getD k 0))], M)) rfl hR (hlk) (by omega) rfl ?_
        have hc9 := ltx_ch7 lk hlk k
        refine ps_if2 (S1 := (40, [(0, .ref m0), (1, .int (nI s)), (2, .ref (g.2.1 lk)), (3, .int (nI k))], [], M)) (S2 := (38, [(0, .ref m0), (1, .int (nI s)), (2, .ref (g.2.1 lk)), (3, .int (nI k))], [], M)) rfl rfl rfl (fun c_35 => ?_) (fun c_35 => ?_)
        · have c_35 : (nI (l.getD k 0)) = (nI ((ltx lk).getD k 0)) := of_decide_eq_true c_35
          have n_35 : l.getD k 0 = (ltx lk).getD k 0 := (eq_nI (p := l.getD k 0) (n := (ltx lk).getD k 0) (by omega) (by omega)).mp c_35
          refine ps_st (S' := (43, [(3, .int ((nI k) + 1)), (0, .ref m0), (1, .int (nI s)), (2, .ref (g.2.1 lk))], [], M)) rfl rfl rfl ?_
          rw [nI_add1 (p := k) (k := 1) (x := 1) rfl (by omega)]
          show pl _ _ _ (_, [(3, .int (nI (k + 1))), (0, .ref m0), (1, .int (nI s)), (2, .ref (g.2.1 lk))], [], M) _
          refine ps_st (S' := (16, [(0, .ref m0), (1, .int (nI s)), (2, .ref (g.2.1 lk)), (3, .int (nI (k + 1)))], [], M)) rfl rfl rfl ?_
          exact ih (k + 1)  (by omega) (hl) (by
              intro i hi
              by_cases e : i = k
              · rw [e]; exact n_35
              · exact he i (by omega))
        · have c_35 : ¬ ((nI (l.getD k 0)) = (nI ((ltx lk).getD k 0))) := of_decide_eq_false c_35
          have n_35 : ¬ (l.getD k 0 = (ltx lk).getD k 0) := fun h9 => c_35 ((eq_nI (p := l.getD k 0) (n := (ltx lk).getD k 0) (by omega) (by omega)).mpr h9)
          refine ps_st (S' := (39, [(0, .ref m0), (1, .int (nI s)), (2, .ref (g.2.1 lk)), (3, .int (nI k))], [.int 0], M)) rfl rfl rfl ?_
          exact ps_ret rfl rfl (⟨congrArg (fun x => some (Value.int (nI x))) (show 0 = eqN l (ltx lk) from by
              unfold eqN
              rw [if_neg (fun h => n_35 (by rw [h]))]), rfl⟩)
  refine ps_st (S' := (1, [(0, .ref m0), (1, .int (nI s)), (2, .ref (g.2.1 lk))], [.ref m0], M)) rfl rfl rfl ?_
  refine ps_st (S' := (2, [(0, .ref m0), (1, .int (nI s)), (2, .ref (g.2.1 lk))], [.int (nI s), .ref m0], M)) rfl rfl rfl ?_
  refine pl_call (a := [.ref m0, .int (nI s)]) (rest := []) rfl rfl rfl (rd_length (tx := tx) (cN := cN) (A := A) (s := s) (l := l) hR hY (hs)) (fun v4 M5 q6 => ?_)
  obtain ⟨rfl, rfl⟩ := q6
  show pl _ _ _ (5, [(0, .ref m0), (1, .int (nI s)), (2, .ref (g.2.1 lk))], [.int (nI (l.length))], M) _
  refine ps_st (S' := (6, [(0, .ref m0), (1, .int (nI s)), (2, .ref (g.2.1 lk))], [.ref (g.2.1 lk), .int (nI (l.length))], M)) rfl rfl rfl ?_
  refine pr_slen (lk := lk) (S' := (9, [(0, .ref m0), (1, .int (nI s)), (2, .ref (g.2.1 lk))], [.int (nI (xe_lt lk).2.2.2.length), .int (nI (l.length))], M)) rfl hR (hlk) rfl rfl ?_
  refine ps_if2 (S1 := (14, [(0, .ref m0), (1, .int (nI s)), (2, .ref (g.2.1 lk))], [], M)) (S2 := (12, [(0, .ref m0), (1, .int (nI s)), (2, .ref (g.2.1 lk))], [], M)) rfl rfl rfl (fun c_9 => ?_) (fun c_9 => ?_)
  · have c_9 : (nI (l.length)) = (nI (xe_lt lk).2.2.2.length) := of_decide_eq_true c_9
    have n_9 : l.length = (xe_lt lk).2.2.2.length := (eq_nI (p := l.length) (n := (xe_lt lk).2.2.2.length) (by omega) (by omega)).mp c_9
    refine ps_st (S' := (15, [(0, .ref m0), (1, .int (nI s)), (2, .ref (g.2.1 lk))], [.int 0], M)) rfl rfl rfl ?_
    refine ps_st (S' := (16, [(0, .ref m0), (1, .int (nI s)), (2, .ref (g.2.1 lk)), (3, .int 0)], [], M)) rfl rfl rfl ?_
    exact (LL kf) (0)  (by omega) (by omega) (fun i hi => by omega)
  · have c_9 : ¬ ((nI (l.length)) = (nI (xe_lt lk).2.2.2.length)) := of_decide_eq_false c_9
    have n_9 : ¬ (l.length = (xe_lt lk).2.2.2.length) := fun h9 => c_9 ((eq_nI (p := l.length) (n := (xe_lt lk).2.2.2.length) (by omega) (by omega)).mpr h9)
    refine ps_st (S' := (13, [(0, .ref m0), (1, .int (nI s)), (2, .ref (g.2.1 lk))], [.int 0], M)) rfl rfl rfl ?_
    exact ps_ret rfl rfl (⟨congrArg (fun x => some (Value.int (nI x))) (show 0 = eqN l (ltx lk) from by
        unfold eqN
        rw [if_neg (fun h => n_9 (by rw [h]; exact hlx))]), rfl⟩)
set_option maxHeartbeats 1000000 in
theorem rd_unq1 {g : xe_G} {m0 : Nat} {q : Nat → Nat} {z : Nat × Nat} {I : rI} {R : rR} {M : mi_H} {tx : List (List Nat)} {cN : Nat} {A : Nat → Nat} {s : Nat} {l : List Nat} (hR : RS g m0 q z I R M)  (hY : SYT tx cN A I R) (hs : s < tx.length ∧ tx.getD s [] = l) : pt (mT g) 252 [.ref m0, .int (nI s), .int 1] M (fun v M' => (v = some (.int (nI (unqN l))) ∧ M = M')) := by
  refine pt_in (b := mb_252 g) rfl (fun kf => ?_)
  show pl (mT g) kf (mb_252 g).2 (0, [(0, .ref m0), (1, .int (nI s)), (2, .int 1)], [], M) _
  have hln := hY.ln hs
  have hts := hY.1.2.2
  have LL : ∀ (kf : Nat), (∀ (k : Nat), (k ≤ l.length) → (∀ i, i < k → ¬ (l.getD i 0 = 46 ∨ l.getD i 0 = 59 ∨ l.getD i 0 = 91 ∨ l.getD i 0 = 47)) →  pl (mT g) kf (mb_252 g).2 (9, [(0, .ref m0), (1, .int (nI s)), (2, .int 1), (3, .int (nI l.length)), (4, .int (nI k))], [], M) (fun v M' => (v = some (.int (nI (unqN l))) ∧ M = M'))) := by
    intro kf
    induction kf with
    | zero => exact (by intros; exact pl_0)
    | succ kf ih =>
      intro k hk he
      refine ps_st1 (S' := (11, [(0, .ref m0), (1, .int (nI s)), (2, .int 1), (3, .int (nI l.length)), (4, .int (nI k))], [.int (nI k)], M)) rfl rfl rfl ?_
      refine ps_st (S' := (12, [(0, .ref m0), (1, .int (nI s)), (2, .int 1), (3, .int (nI l.length)), (4, .int (nI k))], [.int (nI l.length), .int (nI k)], M)) rfl rfl rfl ?_
      refine ps_if2 (S1 := (78, [(0, .ref m0), (1, .int (nI s)), (2, .int 1), (3, .int (nI l.length)), (4, .int (nI k))], [], M)) (S2 := (15, [(0, .ref m0), (1, .int (nI s)), (2, .int 1), (3, .int (nI l.length)), (4, .int (nI k))], [], M)) rfl rfl rfl (fun c_12 => ?_) (fun c_12 => ?_)
      · have c_12 : (nI l.length) ≤ (nI k) := of_decide_eq_true c_12
        have n_12 : l.length ≤ k := (le_nI (p := l.length) (n := k) (by omega) (by omega)).mp c_12
        refine ps_st (S' := (79, [(0, .ref m0), (1, .int (nI s)), (2, .int 1), (3, .int (nI l.length)), (4, .int (nI k))], [.int (nI l.length)], M)) rfl rfl rfl ?_
        refine ps_if (S1 := (86, [(0, .ref m0), (1, .int (nI s)), (2, .int 1), (3, .int (nI l.length)), (4, .int (nI k))], [], M)) (S2 := (82, [(0, .ref m0), (1, .int (nI s)), (2, .int 1), (3, .int (nI l.length)), (4, .int (nI k))], [], M)) rfl rfl rfl (fun c_79 => ?_) (fun c_79 => ?_)
        · have c_79 : (nI l.length) ≤ 0 := of_decide_eq_true c_79
          have n_79 : l.length ≤ 0 := (le_nI (p := l.length) (n := 0) (by omega) (by decide)).mp c_79
          refine ps_st (S' := (87, [], [.int 0], M)) rfl rfl rfl ?_
          exact ps_ret rfl rfl (⟨congrArg (fun x => some (Value.int (nI x))) (show 0 = unqN l from (unq_nil7 (by omega)).symm), rfl⟩)
        · have c_79 : ¬ ((nI l.length) ≤ 0) := of_decide_eq_false c_79
          have n_79 : ¬ (l.length ≤ 0) := fun h9 => c_79 ((le_nI (p := l.length) (n := 0) (by omega) (by decide)).mpr h9)
          refine ps_st (S' := (83, [(0, .ref m0), (1, .int (nI s)), (2, .int 1), (3, .int (nI l.length)), (4, .int (nI k))], [.int 1], M)) rfl rfl rfl ?_
          refine ps_st (S' := (87, [], [.int 1], M)) rfl rfl rfl ?_
          exact ps_ret rfl rfl (⟨congrArg (fun x => some (Value.int (nI x))) (show 1 = unqN l from (unq_ok (by omega) (fun i hi => he i (by omega))).symm), rfl⟩)
      · have c_12 : ¬ ((nI l.length) ≤ (nI k)) := of_decide_eq_false c_12
        have n_12 : ¬ (l.length ≤ k) := fun h9 => c_12 ((le_nI (p := l.length) (n := k) (by omega) (by omega)).mpr h9)
        refine ps_st (S' := (16, [(0, .ref m0), (1, .int (nI s)), (2, .int 1), (3, .int (nI l.length)), (4, .int (nI k))], [.ref m0], M)) rfl rfl rfl ?_
        refine ps_st (S' := (17, [(0, .ref m0), (1, .int (nI s)), (2, .int 1), (3, .int (nI l.length)), (4, .int (nI k))], [.int (nI s), .ref m0], M)) rfl rfl rfl ?_
        refine ps_st (S' := (19, [(0, .ref m0), (1, .int (nI s)), (2, .int 1), (3, .int (nI l.length)), (4, .int (nI k))], [.int (nI k), .int (nI s), .ref m0], M)) rfl rfl rfl ?_
        refine pl_call (a := [.ref m0, .int (nI s), .int (nI k)]) (rest := []) rfl rfl rfl (rd_at (tx := tx) (cN := cN) (A := A) (s := s) (l := l) (k := k) hR hY (hs) (by omega)) (fun v1 M2 q3 => ?_)
        obtain ⟨rfl, rfl⟩ := q3
        show pl _ _ _ (22, [(0, .ref m0), (1, .int (nI s)), (2, .int 1), (3, .int (nI l.length)), (4, .int (nI k))], [.int (nI (l.getD k 0))], M) _
        have hc_19 := hY.ch hs (k := k) (by omega)
        refine ps_st (S' := (24, [(5, .int (nI (l.getD k 0))), (0, .ref m0), (1, .int (nI s)), (2, .int 1), (3, .int (nI l.length)), (4, .int (nI k))], [], M)) rfl rfl rfl ?_
        refine ps_st (S' := (26, [(5, .int (nI (l.getD k 0))), (0, .ref m0), (1, .int (nI s)), (2, .int 1), (3, .int (nI l.length)), (4, .int (nI k))], [.int (nI (l.getD k 0))], M)) rfl rfl rfl ?_
        refine ps_st (S' := (28, [(5, .int (nI (l.getD k 0))), (0, .ref m0), (1, .int (nI s)), (2, .int 1), (3, .int (nI l.length)), (4, .int (nI k))], [.int 46, .int (nI (l.getD k 0))], M)) rfl rfl rfl ?_
        refine ps_if2 (S1 := (70, [], [], M)) (S2 := (31, [(5, .int (nI (l.getD k 0))), (0, .ref m0), (1, .int (nI s)), (2, .int 1), (3, .int (nI l.length)), (4, .int (nI k))], [], M)) rfl rfl rfl (fun c_28 => ?_) (fun c_28 => ?_)
        · have c_28 : (nI (l.getD k 0)) = 46 := of_decide_eq_true c_28
          have n_28 : l.getD k 0 = 46 := (eq_nI (p := l.getD k 0) (n := 46) (by omega) (by decide)).mp c_28
          refine ps_st (S' := (71, [], [.int 0], M)) rfl rfl rfl ?_
          exact ps_ret rfl rfl (⟨congrArg (fun x => some (Value.int (nI x))) (show 0 = unqN l from (unq_no7 (k := k) (by omega) (by omega)).symm), rfl⟩)
        · have c_28 : ¬ ((nI (l.getD k 0)) = 46) := of_decide_eq_false c_28
          have n_28 : ¬ (l.getD k 0 = 46) := fun h9 => c_28 ((eq_nI (p := l.getD k 0) (n := 46) (by omega) (by decide)).mpr h9)
          refine ps_st (S' := (33, [(5, .int (nI (l.getD k 0))), (0, .ref m0), (1, .int (nI s)), (2, .int 1), (3, .int (nI l.length)), (4, .int (nI k))], [.int (nI (l.getD k 0))], M)) rfl rfl rfl ?_
          refine ps_st (S' := (35, [(5, .int (nI (l.getD k 0))), (0, .ref m0), (1, .int (nI s)), (2, .int 1), (3, .int (nI l.length)), (4, .int (nI k))], [.int 59, .int (nI (l.getD k 0))], M)) rfl rfl rfl ?_
          refine ps_if2 (S1 := (70, [], [], M)) (S2 := (38, [(5, .int (nI (l.getD k 0))), (0, .ref m0), (1, .int (nI s)), (2, .int 1), (3, .int (nI l.length)), (4, .int (nI k))], [], M)) rfl rfl rfl (fun c_35 => ?_) (fun c_35 => ?_)
          · have c_35 : (nI (l.getD k 0)) = 59 := of_decide_eq_true c_35
            have n_35 : l.getD k 0 = 59 := (eq_nI (p := l.getD k 0) (n := 59) (by omega) (by decide)).mp c_35
            refine ps_st (S' := (71, [], [.int 0], M)) rfl rfl rfl ?_
            exact ps_ret rfl rfl (⟨congrArg (fun x => some (Value.int (nI x))) (show 0 = unqN l from (unq_no7 (k := k) (by omega) (by omega)).symm), rfl⟩)
          · have c_35 : ¬ ((nI (l.getD k 0)) = 59) := of_decide_eq_false c_35
            have n_35 : ¬ (l.getD k 0 = 59) := fun h9 => c_35 ((eq_nI (p := l.getD k 0) (n := 59) (by omega) (by decide)).mpr h9)
            refine ps_st (S' := (40, [(5, .int (nI (l.getD k 0))), (0, .ref m0), (1, .int (nI s)), (2, .int 1), (3, .int (nI l.length)), (4, .int (nI k))], [.int (nI (l.getD k 0))], M)) rfl rfl rfl ?_
            refine ps_st (S' := (42, [(5, .int (nI (l.getD k 0))), (0, .ref m0), (1, .int (nI s)), (2, .int 1), (3, .int (nI l.length)), (4, .int (nI k))], [.int 91, .int (nI (l.getD k 0))], M)) rfl rfl rfl ?_
            refine ps_if2 (S1 := (70, [], [], M)) (S2 := (45, [(5, .int (nI (l.getD k 0))), (0, .ref m0), (1, .int (nI s)), (2, .int 1), (3, .int (nI l.length)), (4, .int (nI k))], [], M)) rfl rfl rfl (fun c_42 => ?_) (fun c_42 => ?_)
            · have c_42 : (nI (l.getD k 0)) = 91 := of_decide_eq_true c_42
              have n_42 : l.getD k 0 = 91 := (eq_nI (p := l.getD k 0) (n := 91) (by omega) (by decide)).mp c_42
              refine ps_st (S' := (71, [], [.int 0], M)) rfl rfl rfl ?_
              exact ps_ret rfl rfl (⟨congrArg (fun x => some (Value.int (nI x))) (show 0 = unqN l from (unq_no7 (k := k) (by omega) (by omega)).symm), rfl⟩)
            · have c_42 : ¬ ((nI (l.getD k 0)) = 91) := of_decide_eq_false c_42
              have n_42 : ¬ (l.getD k 0 = 91) := fun h9 => c_42 ((eq_nI (p := l.getD k 0) (n := 91) (by omega) (by decide)).mpr h9)
              refine ps_st (S' := (47, [(5, .int (nI (l.getD k 0))), (0, .ref m0), (1, .int (nI s)), (2, .int 1), (3, .int (nI l.length)), (4, .int (nI k))], [.int (nI (l.getD k 0))], M)) rfl rfl rfl ?_
              refine ps_st (S' := (49, [(5, .int (nI (l.getD k 0))), (0, .ref m0), (1, .int (nI s)), (2, .int 1), (3, .int (nI l.length)), (4, .int (nI k))], [.int 47, .int (nI (l.getD k 0))], M)) rfl rfl rfl ?_
              refine ps_if2 (S1 := (70, [], [], M)) (S2 := (52, [(5, .int (nI (l.getD k 0))), (0, .ref m0), (1, .int (nI s)), (2, .int 1), (3, .int (nI l.length)), (4, .int (nI k))], [], M)) rfl rfl rfl (fun c_49 => ?_) (fun c_49 => ?_)
              · have c_49 : (nI (l.getD k 0)) = 47 := of_decide_eq_true c_49
                have n_49 : l.getD k 0 = 47 := (eq_nI (p := l.getD k 0) (n := 47) (by omega) (by decide)).mp c_49
                refine ps_st (S' := (71, [], [.int 0], M)) rfl rfl rfl ?_
                exact ps_ret rfl rfl (⟨congrArg (fun x => some (Value.int (nI x))) (show 0 = unqN l from (unq_no7 (k := k) (by omega) (by omega)).symm), rfl⟩)
              · have c_49 : ¬ ((nI (l.getD k 0)) = 47) := of_decide_eq_false c_49
                have n_49 : ¬ (l.getD k 0 = 47) := fun h9 => c_49 ((eq_nI (p := l.getD k 0) (n := 47) (by omega) (by decide)).mpr h9)
                refine ps_st (S' := (53, [(5, .int (nI (l.getD k 0))), (0, .ref m0), (1, .int (nI s)), (2, .int 1), (3, .int (nI l.length)), (4, .int (nI k))], [.int 1], M)) rfl rfl rfl ?_
                refine ps_if (S1 := (72, [(0, .ref m0), (1, .int (nI s)), (2, .int 1), (3, .int (nI l.length)), (4, .int (nI k))], [], M)) (S2 := (56, [(5, .int (nI (l.getD k 0))), (0, .ref m0), (1, .int (nI s)), (2, .int 1), (3, .int (nI l.length)), (4, .int (nI k))], [], M)) rfl rfl rfl (fun c_53 => ?_) (fun c_53 => ?_)
                rotate_left
                · exact absurd (by decide) (of_decide_eq_false c_53)
                refine ps_st (S' := (75, [(4, .int ((nI k) + 1)), (0, .ref m0), (1, .int (nI s)), (2, .int 1), (3, .int (nI l.length))], [], M)) rfl rfl rfl ?_
                rw [nI_add1 (p := k) (k := 1) (x := 1) rfl (by omega)]
                show pl _ _ _ (_, [(4, .int (nI (k + 1))), (0, .ref m0), (1, .int (nI s)), (2, .int 1), (3, .int (nI l.length))], [], M) _
                refine ps_st (S' := (9, [(0, .ref m0), (1, .int (nI s)), (2, .int 1), (3, .int (nI l.length)), (4, .int (nI (k + 1)))], [], M)) rfl rfl rfl ?_
                exact ih (k + 1)  (by omega) (by
                    intro i hi
                    by_cases e : i = k
                    · rw [e]; omega
                    · exact he i (by omega))
  refine ps_st (S' := (1, [(0, .ref m0), (1, .int (nI s)), (2, .int 1)], [.ref m0], M)) rfl rfl rfl ?_
  refine ps_st (S' := (2, [(0, .ref m0), (1, .int (nI s)), (2, .int 1)], [.int (nI s), .ref m0], M)) rfl rfl rfl ?_
  refine pl_call (a := [.ref m0, .int (nI s)]) (rest := []) rfl rfl rfl (rd_length (tx := tx) (cN := cN) (A := A) (s := s) (l := l) hR hY (hs)) (fun v4 M5 q6 => ?_)
  obtain ⟨rfl, rfl⟩ := q6
  show pl _ _ _ (5, [(0, .ref m0), (1, .int (nI s)), (2, .int 1)], [.int (nI (l.length))], M) _
  refine ps_st (S' := (6, [(3, .int (nI (l.length))), (0, .ref m0), (1, .int (nI s)), (2, .int 1)], [], M)) rfl rfl rfl ?_
  refine ps_st (S' := (7, [(3, .int (nI (l.length))), (0, .ref m0), (1, .int (nI s)), (2, .int 1)], [.int 0], M)) rfl rfl rfl ?_
  refine ps_st (S' := (9, [(0, .ref m0), (1, .int (nI s)), (2, .int 1), (3, .int (nI (l.length))), (4, .int 0)], [], M)) rfl rfl rfl ?_
  exact (LL kf) (0)  (by omega) (fun i hi => by omega)
set_option maxHeartbeats 1000000 in
theorem rd_unq0 {g : xe_G} {m0 : Nat} {q : Nat → Nat} {z : Nat × Nat} {I : rI} {R : rR} {M : mi_H} {tx : List (List Nat)} {cN : Nat} {A : Nat → Nat} {s : Nat} {l : List Nat} (hR : RS g m0 q z I R M)  (hY : SYT tx cN A I R) (hs : s < tx.length ∧ tx.getD s [] = l) : pt (mT g) 252 [.ref m0, .int (nI s), .int 0] M (fun v M' => (v = some (.int (nI (unq0 l))) ∧ M = M')) := by
  refine pt_in (b := mb_252 g) rfl (fun kf => ?_)
  show pl (mT g) kf (mb_252 g).2 (0, [(0, .ref m0), (1, .int (nI s)), (2, .int 0)], [], M) _
  have hln := hY.ln hs
  have hts := hY.1.2.2
  have LL : ∀ (kf : Nat), (∀ (k : Nat), (k ≤ l.length) → (∀ i, i < k → ¬ (l.getD i 0 = 46 ∨ l.getD i 0 = 59 ∨ l.getD i 0 = 91 ∨ l.getD i 0 = 47) ∧ ¬ (l.getD i 0 = 60 ∨ l.getD i 0 = 62)) →  pl (mT g) kf (mb_252 g).2 (9, [(0, .ref m0), (1, .int (nI s)), (2, .int 0), (3, .int (nI l.length)), (4, .int (nI k))], [], M) (fun v M' => (v = some (.int (nI (unq0 l))) ∧ M = M'))) := by
    intro kf
    induction kf with
    | zero => exact (by intros; exact pl_0)
    | succ kf ih =>
      intro k hk he
      refine ps_st1 (S' := (11, [(0, .ref m0), (1, .int (nI s)), (2, .int 0), (3, .int (nI l.length)), (4, .int (nI k))], [.int (nI k)], M)) rfl rfl rfl ?_
      refine ps_st (S' := (12, [(0, .ref m0), (1, .int (nI s)), (2, .int 0), (3, .int (nI l.length)), (4, .int (nI k))], [.int (nI l.length), .int (nI k)], M)) rfl rfl rfl ?_
      refine ps_if2 (S1 := (78, [(0, .ref m0), (1, .int (nI s)), (2, .int 0), (3, .int (nI l.length)), (4, .int (nI k))], [], M)) (S2 := (15, [(0, .ref m0), (1, .int (nI s)), (2, .int 0), (3, .int (nI l.length)), (4, .int (nI k))], [], M)) rfl rfl rfl (fun c_12 => ?_) (fun c_12 => ?_)
      · have c_12 : (nI l.length) ≤ (nI k) := of_decide_eq_true c_12
        have n_12 : l.length ≤ k := (le_nI (p := l.length) (n := k) (by omega) (by omega)).mp c_12
        refine ps_st (S' := (79, [(0, .ref m0), (1, .int (nI s)), (2, .int 0), (3, .int (nI l.length)), (4, .int (nI k))], [.int (nI l.length)], M)) rfl rfl rfl ?_
        refine ps_if (S1 := (86, [(0, .ref m0), (1, .int (nI s)), (2, .int 0), (3, .int (nI l.length)), (4, .int (nI k))], [], M)) (S2 := (82, [(0, .ref m0), (1, .int (nI s)), (2, .int 0), (3, .int (nI l.length)), (4, .int (nI k))], [], M)) rfl rfl rfl (fun c_79 => ?_) (fun c_79 => ?_)
        · have c_79 : (nI l.length) ≤ 0 := of_decide_eq_true c_79
          have n_79 : l.length ≤ 0 := (le_nI (p := l.length) (n := 0) (by omega) (by decide)).mp c_79
          refine ps_st (S' := (87, [], [.int 0], M)) rfl rfl rfl ?_
          exact ps_ret rfl rfl (⟨congrArg (fun x => some (Value.int (nI x))) (show 0 = unq0 l from by
              unfold unq0
              rw [if_neg (fun h => h.1 (unq_nil7 (by omega)))]), rfl⟩)
        · have c_79 : ¬ ((nI l.length) ≤ 0) := of_decide_eq_false c_79
          have n_79 : ¬ (l.length ≤ 0) := fun h9 => c_79 ((le_nI (p := l.length) (n := 0) (by omega) (by decide)).mpr h9)
          refine ps_st (S' := (83, [(0, .ref m0), (1, .int (nI s)), (2, .int 0), (3, .int (nI l.length)), (4, .int (nI k))], [.int 1], M)) rfl rfl rfl ?_
          refine ps_st (S' := (87, [], [.int 1], M)) rfl rfl rfl ?_
          exact ps_ret rfl rfl (⟨congrArg (fun x => some (Value.int (nI x))) (show 1 = unq0 l from by
              unfold unq0
              rw [if_pos ⟨by rw [unq_ok (by omega) (fun i hi => (he i (by omega)).1)]; decide, ang_0 (fun i hi => (he i (by omega)).2)⟩]), rfl⟩)
      · have c_12 : ¬ ((nI l.length) ≤ (nI k)) := of_decide_eq_false c_12
        have n_12 : ¬ (l.length ≤ k) := fun h9 => c_12 ((le_nI (p := l.length) (n := k) (by omega) (by omega)).mpr h9)
        refine ps_st (S' := (16, [(0, .ref m0), (1, .int (nI s)), (2, .int 0), (3, .int (nI l.length)), (4, .int (nI k))], [.ref m0], M)) rfl rfl rfl ?_
        refine ps_st (S' := (17, [(0, .ref m0), (1, .int (nI s)), (2, .int 0), (3, .int (nI l.length)), (4, .int (nI k))], [.int (nI s), .ref m0], M)) rfl rfl rfl ?_
        refine ps_st (S' := (19, [(0, .ref m0), (1, .int (nI s)), (2, .int 0), (3, .int (nI l.length)), (4, .int (nI k))], [.int (nI k), .int (nI s), .ref m0], M)) rfl rfl rfl ?_
        refine pl_call (a := [.ref m0, .int (nI s), .int (nI k)]) (rest := []) rfl rfl rfl (rd_at (tx := tx) (cN := cN) (A := A) (s := s) (l := l) (k := k) hR hY (hs) (by omega)) (fun v1 M2 q3 => ?_)
        obtain ⟨rfl, rfl⟩ := q3
        show pl _ _ _ (22, [(0, .ref m0), (1, .int (nI s)), (2, .int 0), (3, .int (nI l.length)), (4, .int (nI k))], [.int (nI (l.getD k 0))], M) _
        have hc_19 := hY.ch hs (k := k) (by omega)
        refine ps_st (S' := (24, [(5, .int (nI (l.getD k 0))), (0, .ref m0), (1, .int (nI s)), (2, .int 0), (3, .int (nI l.length)), (4, .int (nI k))], [], M)) rfl rfl rfl ?_
        refine ps_st (S' := (26, [(5, .int (nI (l.getD k 0))), (0, .ref m0), (1, .int (nI s)), (2, .int 0), (3, .int (nI l.length)), (4, .int (nI k))], [.int (nI (l.getD k 0))], M)) rfl rfl rfl ?_
        refine ps_st (S' := (28, [(5, .int (nI (l.getD k 0))), (0, .ref m0), (1, .int (nI s)), (2, .int 0), (3, .int (nI l.length)), (4, .int (nI k))], [.int 46, .int (nI (l.getD k 0))], M)) rfl rfl rfl ?_
        refine ps_if2 (S1 := (70, [], [], M)) (S2 := (31, [(5, .int (nI (l.getD k 0))), (0, .ref m0), (1, .int (nI s)), (2, .int 0), (3, .int (nI l.length)), (4, .int (nI k))], [], M)) rfl rfl rfl (fun c_28 => ?_) (fun c_28 => ?_)
        · have c_28 : (nI (l.getD k 0)) = 46 := of_decide_eq_true c_28
          have n_28 : l.getD k 0 = 46 := (eq_nI (p := l.getD k 0) (n := 46) (by omega) (by decide)).mp c_28
          refine ps_st (S' := (71, [], [.int 0], M)) rfl rfl rfl ?_
          exact ps_ret rfl rfl (⟨congrArg (fun x => some (Value.int (nI x))) (show 0 = unq0 l from by
              unfold unq0
              rw [if_neg (fun h => h.1 (unq_no7 (k := k) (by omega) (by omega)))]), rfl⟩)
        · have c_28 : ¬ ((nI (l.getD k 0)) = 46) := of_decide_eq_false c_28
          have n_28 : ¬ (l.getD k 0 = 46) := fun h9 => c_28 ((eq_nI (p := l.getD k 0) (n := 46) (by omega) (by decide)).mpr h9)
          refine ps_st (S' := (33, [(5, .int (nI (l.getD k 0))), (0, .ref m0), (1, .int (nI s)), (2, .int 0), (3, .int (nI l.length)), (4, .int (nI k))], [.int (nI (l.getD k 0))], M)) rfl rfl rfl ?_
          refine ps_st (S' := (35, [(5, .int (nI (l.getD k 0))), (0, .ref m0), (1, .int (nI s)), (2, .int 0), (3, .int (nI l.length)), (4, .int (nI k))], [.int 59, .int (nI (l.getD k 0))], M)) rfl rfl rfl ?_
          refine ps_if2 (S1 := (70, [], [], M)) (S2 := (38, [(5, .int (nI (l.getD k 0))), (0, .ref m0), (1, .int (nI s)), (2, .int 0), (3, .int (nI l.length)), (4, .int (nI k))], [], M)) rfl rfl rfl (fun c_35 => ?_) (fun c_35 => ?_)
          · have c_35 : (nI (l.getD k 0)) = 59 := of_decide_eq_true c_35
            have n_35 : l.getD k 0 = 59 := (eq_nI (p := l.getD k 0) (n := 59) (by omega) (by decide)).mp c_35
            refine ps_st (S' := (71, [], [.int 0], M)) rfl rfl rfl ?_
            exact ps_ret rfl rfl (⟨congrArg (fun x => some (Value.int (nI x))) (show 0 = unq0 l from by
                unfold unq0
                rw [if_neg (fun h => h.1 (unq_no7 (k := k) (by omega) (by omega)))]), rfl⟩)
          · have c_35 : ¬ ((nI (l.getD k 0)) = 59) := of_decide_eq_false c_35
            have n_35 : ¬ (l.getD k 0 = 59) := fun h9 => c_35 ((eq_nI (p := l.getD k 0) (n := 59) (by omega) (by decide)).mpr h9)
            refine ps_st (S' := (40, [(5, .int (nI (l.getD k 0))), (0, .ref m0), (1, .int (nI s)), (2, .int 0), (3, .int (nI l.length)), (4, .int (nI k))], [.int (nI (l.getD k 0))], M)) rfl rfl rfl ?_
            refine ps_st (S' := (42, [(5, .int (nI (l.getD k 0))), (0, .ref m0), (1, .int (nI s)), (2, .int 0), (3, .int (nI l.length)), (4, .int (nI k))], [.int 91, .int (nI (l.getD k 0))], M)) rfl rfl rfl ?_
            refine ps_if2 (S1 := (70, [], [], M)) (S2 := (45, [(5, .int (nI (l.getD k 0))), (0, .ref m0), (1, .int (nI s)), (2, .int 0), (3, .int (nI l.length)), (4, .int (nI k))], [], M)) rfl rfl rfl (fun c_42 => ?_) (fun c_42 => ?_)
            · have c_42 : (nI (l.getD k 0)) = 91 := of_decide_eq_true c_42
              have n_42 : l.getD k 0 = 91 := (eq_nI (p := l.getD k 0) (n := 91) (by omega) (by decide)).mp c_42
              refine ps_st (S' := (71, [], [.int 0], M)) rfl rfl rfl ?_
              exact ps_ret rfl rfl (⟨congrArg (fun x => some (Value.int (nI x))) (show 0 = unq0 l from by
                  unfold unq0
                  rw [if_neg (fun h => h.1 (unq_no7 (k := k) (by omega) (by omega)))]), rfl⟩)
            · have c_42 : ¬ ((nI (l.getD k 0)) = 91) := of_decide_eq_false c_42
              have n_42 : ¬ (l.getD k 0 = 91) := fun h9 => c_42 ((eq_nI (p := l.getD k 0) (n := 91) (by omega) (by decide)).mpr h9)
              refine ps_st (S' := (47, [(5, .int (nI (l.getD k 0))), (0, .ref m0), (1, .int (nI s)), (2, .int 0), (3, .int (nI l.length)), (4, .int (nI k))], [.int (nI (l.getD k 0))], M)) rfl rfl rfl ?_
              refine ps_st (S' := (49, [(5, .int (nI (l.getD k 0))), (0, .ref m0), (1, .int (nI s)), (2, .int 0), (3, .int (nI l.length)), (4, .int (nI k))], [.int 47, .int (nI (l.getD k 0))], M)) rfl rfl rfl ?_
              refine ps_if2 (S1 := (70, [], [], M)) (S2 := (52, [(5, .int (nI (l.getD k 0))), (0, .ref m0), (1, .int (nI s)), (2, .int 0), (3, .int (nI l.length)), (4, .int (nI k))], [], M)) rfl rfl rfl (fun c_49 => ?_) (fun c_49 => ?_)
              · have c_49 : (nI (l.getD k 0)) = 47 := of_decide_eq_true c_49
                have n_49 : l.getD k 0 = 47 := (eq_nI (p := l.getD k 0) (n := 47) (by omega) (by decide)).mp c_49
                refine ps_st (S' := (71, [], [.int 0], M)) rfl rfl rfl ?_
                exact ps_ret rfl rfl (⟨congrArg (fun x => some (Value.int (nI x))) (show 0 = unq0 l from by
                    unfold unq0
                    rw [if_neg (fun h => h.1 (unq_no7 (k := k) (by omega) (by omega)))]), rfl⟩)
              · have c_49 : ¬ ((nI (l.getD k 0)) = 47) := of_decide_eq_false c_49
                have n_49 : ¬ (l.getD k 0 = 47) := fun h9 => c_49 ((eq_nI (p := l.getD k 0) (n := 47) (by omega) (by decide)).mpr h9)
                refine ps_st (S' := (53, [(5, .int (nI (l.getD k 0))), (0, .ref m0), (1, .int (nI s)), (2, .int 0), (3, .int (nI l.length)), (4, .int (nI k))], [.int 0], M)) rfl rfl rfl ?_
                refine ps_if (S1 := (72, [(0, .ref m0), (1, .int (nI s)), (2, .int 0), (3, .int (nI l.length)), (4, .int (nI k))], [], M)) (S2 := (56, [(5, .int (nI (l.getD k 0))), (0, .ref m0), (1, .int (nI s)), (2, .int 0), (3, .int (nI l.length)), (4, .int (nI k))], [], M)) rfl rfl rfl (fun c_53 => ?_) (fun c_53 => ?_)
                · exact absurd (of_decide_eq_true c_53) (by decide)
                refine ps_st (S' := (58, [(5, .int (nI (l.getD k 0))), (0, .ref m0), (1, .int (nI s)), (2, .int 0), (3, .int (nI l.length)), (4, .int (nI k))], [.int (nI (l.getD k 0))], M)) rfl rfl rfl ?_
                refine ps_st (S' := (60, [(5, .int (nI (l.getD k 0))), (0, .ref m0), (1, .int (nI s)), (2, .int 0), (3, .int (nI l.length)), (4, .int (nI k))], [.int 60, .int (nI (l.getD k 0))], M)) rfl rfl rfl ?_
                refine ps_if2 (S1 := (70, [], [], M)) (S2 := (63, [(5, .int (nI (l.getD k 0))), (0, .ref m0), (1, .int (nI s)), (2, .int 0), (3, .int (nI l.length)), (4, .int (nI k))], [], M)) rfl rfl rfl (fun c_60 => ?_) (fun c_60 => ?_)
                · have c_60 : (nI (l.getD k 0)) = 60 := of_decide_eq_true c_60
                  have n_60 : l.getD k 0 = 60 := (eq_nI (p := l.getD k 0) (n := 60) (by omega) (by decide)).mp c_60
                  refine ps_st (S' := (71, [], [.int 0], M)) rfl rfl rfl ?_
                  exact ps_ret rfl rfl (⟨congrArg (fun x => some (Value.int (nI x))) (show 0 = unq0 l from by
                      unfold unq0
                      rw [if_neg (fun h => by rw [ang_1 (k := k) (by omega) (by omega)] at h; exact absurd h.2 (by decide))]), rfl⟩)
                · have c_60 : ¬ ((nI (l.getD k 0)) = 60) := of_decide_eq_false c_60
                  have n_60 : ¬ (l.getD k 0 = 60) := fun h9 => c_60 ((eq_nI (p := l.getD k 0) (n := 60) (by omega) (by decide)).mpr h9)
                  refine ps_st (S' := (65, [(5, .int (nI (l.getD k 0))), (0, .ref m0), (1, .int (nI s)), (2, .int 0), (3, .int (nI l.length)), (4, .int (nI k))], [.int (nI (l.getD k 0))], M)) rfl rfl rfl ?_
                  refine ps_st (S' := (67, [(5, .int (nI (l.getD k 0))), (0, .ref m0), (1, .int (nI s)), (2, .int 0), (3, .int (nI l.length)), (4, .int (nI k))], [.int 62, .int (nI (l.getD k 0))], M)) rfl rfl rfl ?_
                  refine ps_if2 (S1 := (72, [(0, .ref m0), (1, .int (nI s)), (2, .int 0), (3, .int (nI l.length)), (4, .int (nI k))], [], M)) (S2 := (70, [], [], M)) rfl rfl rfl (fun c_67 => ?_) (fun c_67 => ?_)
                  · have c_67 : ¬ (nI (l.getD k 0)) = 62 := of_decide_eq_true c_67
                    have n_67 : ¬ (l.getD k 0 = 62) := fun h9 => c_67 ((eq_nI (p := l.getD k 0) (n := 62) (by omega) (by decide)).mpr h9)
                    refine ps_st (S' := (75, [(4, .int ((nI k) + 1)), (0, .ref m0), (1, .int (nI s)), (2, .int 0), (3, .int (nI l.length))], [], M)) rfl rfl rfl ?_
                    rw [nI_add1 (p := k) (k := 1) (x := 1) rfl (by omega)]
                    show pl _ _ _ (_, [(4, .int (nI (k + 1))), (0, .ref m0), (1, .int (nI s)), (2, .int 0), (3, .int (nI l.length))], [], M) _
                    refine ps_st (S' := (9, [(0, .ref m0), (1, .int (nI s)), (2, .int 0), (3, .int (nI l.length)), (4, .int (nI (k + 1)))], [], M)) rfl rfl rfl ?_
                    exact ih (k + 1)  (by omega) (by
                        intro i hi
                        by_cases e : i = k
                        · rw [e]; omega
                        · exact he i (by omega))
                  · have c_67 : ¬ (¬ (nI (l.getD k 0)) = 62) := of_decide_eq_false c_67
                    have n_67 : l.getD k 0 = 62 := (eq_nI (p := l.getD k 0) (n := 62) (by omega) (by decide)).mp (Decidable.not_not.mp c_67)
                    refine ps_st (S' := (71, [], [.int 0], M)) rfl rfl rfl ?_
                    exact ps_ret rfl rfl (⟨congrArg (fun x => some (Value.int (nI x))) (show 0 = unq0 l from by
                        unfold unq0
                        rw [if_neg (fun h => by rw [ang_1 (k := k) (by omega) (by omega)] at h; exact absurd h.2 (by decide))]), rfl⟩)
  refine ps_st (S' := (1, [(0, .ref m0), (1, .int (nI s)), (2, .int 0)], [.ref m0], M)) rfl rfl rfl ?_
  refine ps_st (S' := (2, [(0, .ref m0), (1, .int (nI s)), (2, .int 0)], [.int (nI s), .ref m0], M)) rfl rfl rfl ?_
  refine pl_call (a := [.ref m0, .int (nI s)]) (rest := []) rfl rfl rfl (rd_length (tx := tx) (cN := cN) (A := A) (s := s) (l := l) hR hY (hs)) (fun v4 M5 q6 => ?_)
  obtain ⟨rfl, rfl⟩ := q6
  show pl _ _ _ (5, [(0, .ref m0), (1, .int (nI s)), (2, .int 0)], [.int (nI (l.length))], M) _
  refine ps_st (S' := (6, [(3, .int (nI (l.length))), (0, .ref m0), (1, .int (nI s)), (2, .int 0)], [], M)) rfl rfl rfl ?_
  refine ps_st (S' := (7, [(3, .int (nI (l.length))), (0, .ref m0), (1, .int (nI s)), (2, .int 0)], [.int 0], M)) rfl rfl rfl ?_
  refine ps_st (S' := (9, [(0, .ref m0), (1, .int (nI s)), (2, .int 0), (3, .int (nI (l.length))), (4, .int 0)], [], M)) rfl rfl rfl ?_
  exact (LL kf) (0)  (by omega) (fun i hi => by omega)
set_option maxHeartbeats 1000000 in
theorem rd_angles {g : xe_G} {m0 : Nat} {q : Nat → Nat} {z : Nat × Nat} {I : rI} {R : rR} {M : mi_H} {tx : List (List Nat)} {cN : Nat} {A : Nat → Nat} {s : Nat} {l : List Nat} (hR : RS g m0 q z I R M)  (hY : SYT tx cN A I R) (hs : s < tx.length ∧ tx.getD s [] = l) : pt (mT g) 175 [.ref m0, .int (nI s)] M (fun v M' => (v = some (.int (nI (angN l))) ∧ M = M')) := by
  refine pt_in (b := mb_175 g) rfl (fun kf => ?_)
  show pl (mT g) kf (mb_175 g).2 (0, [(0, .ref m0), (1, .int (nI s))], [], M) _
  have hln := hY.ln hs
  have hts := hY.1.2.2
  have LL : ∀ (kf : Nat), (∀ (k : Nat), (k ≤ l.length) → (∀ i, i < k → ¬ (l.getD i 0 = 60 ∨ l.getD i 0 = 62)) →  pl (mT g) kf (mb_175 g).2 (2, [(0, .ref m0), (1, .int (nI s)), (2, .int (nI k))], [], M) (fun v M' => (v = some (.int (nI (angN l))) ∧ M = M'))) := by
    intro kf
    induction kf with
    | zero => exact (by intros; exact pl_0)
    | succ kf ih =>
      intro k hk he
      refine ps_st1 (S' := (3, [(0, .ref m0), (1, .int (nI s)), (2, .int (nI k))], [.int (nI k)], M)) rfl rfl rfl ?_
      refine ps_st (S' := (4, [(0, .ref m0), (1, .int (nI s)), (2, .int (nI k))], [.ref m0, .int (nI k)], M)) rfl rfl rfl ?_
      refine ps_st (S' := (5, [(0, .ref m0), (1, .int (nI s)), (2, .int (nI k))], [.int (nI s), .ref m0, .int (nI k)], M)) rfl rfl rfl ?_
      refine pl_call (a := [.ref m0, .int (nI s)]) (rest := [.int (nI k)]) rfl rfl rfl (rd_length (tx := tx) (cN := cN) (A := A) (s := s) (l := l) hR hY (hs)) (fun v1 M2 q3 => ?_)
      obtain ⟨rfl, rfl⟩ := q3
      show pl _ _ _ (8, [(0, .ref m0), (1, .int (nI s)), (2, .int (nI k))], [.int (nI (l.length)), .int (nI k)], M) _
      refine ps_if2 (S1 := (41, [(0, .ref m0), (1, .int (nI s)), (2, .int (nI k))], [], M)) (S2 := (11, [(0, .ref m0), (1, .int (nI s)), (2, .int (nI k))], [], M)) rfl rfl rfl (fun c_8 => ?_) (fun c_8 => ?_)
      · have c_8 : (nI (l.length)) ≤ (nI k) := of_decide_eq_true c_8
        have n_8 : l.length ≤ k := (le_nI (p := l.length) (n := k) (by omega) (by omega)).mp c_8
        refine ps_st (S' := (42, [(0, .ref m0), (1, .int (nI s)), (2, .int (nI k))], [.int 0], M)) rfl rfl rfl ?_
        exact ps_ret rfl rfl (⟨congrArg (fun x => some (Value.int (nI x))) (show 0 = angN l from (ang_0 (fun i hi => he i (by omega))).symm), rfl⟩)
      · have c_8 : ¬ ((nI (l.length)) ≤ (nI k)) := of_decide_eq_false c_8
        have n_8 : ¬ (l.length ≤ k) := fun h9 => c_8 ((le_nI (p := l.length) (n := k) (by omega) (by omega)).mpr h9)
        refine ps_st (S' := (12, [(0, .ref m0), (1, .int (nI s)), (2, .int (nI k))], [.ref m0], M)) rfl rfl rfl ?_
        refine ps_st (S' := (13, [(0, .ref m0), (1, .int (nI s)), (2, .int (nI k))], [.int (nI s), .ref m0], M)) rfl rfl rfl ?_
        refine ps_st (S' := (14, [(0, .ref m0), (1, .int (nI s)), (2, .int (nI k))], [.int (nI k), .int (nI s), .ref m0], M)) rfl rfl rfl ?_
        refine pl_call (a := [.ref m0, .int (nI s), .int (nI k)]) (rest := []) rfl rfl rfl (rd_at (tx := tx) (cN := cN) (A := A) (s := s) (l := l) (k := k) hR hY (hs) (by omega)) (fun v4 M5 q6 => ?_)
        obtain ⟨rfl, rfl⟩ := q6
        show pl _ _ _ (17, [(0, .ref m0), (1, .int (nI s)), (2, .int (nI k))], [.int (nI (l.getD k 0))], M) _
        have hc_14 := hY.ch hs (k := k) (by omega)
        refine ps_st (S' := (19, [(0, .ref m0), (1, .int (nI s)), (2, .int (nI k))], [.int 60, .int (nI (l.getD k 0))], M)) rfl rfl rfl ?_
        refine ps_if2 (S1 := (33, [], [], M)) (S2 := (22, [(0, .ref m0), (1, .int (nI s)), (2, .int (nI k))], [], M)) rfl rfl rfl (fun c_19 => ?_) (fun c_19 => ?_)
        · have c_19 : (nI (l.getD k 0)) = 60 := of_decide_eq_true c_19
          have n_19 : l.getD k 0 = 60 := (eq_nI (p := l.getD k 0) (n := 60) (by omega) (by decide)).mp c_19
          refine ps_st (S' := (34, [], [.int 1], M)) rfl rfl rfl ?_
          exact ps_ret rfl rfl (⟨congrArg (fun x => some (Value.int (nI x))) (show 1 = angN l from (ang_1 (k := k) (by omega) (by omega)).symm), rfl⟩)
        · have c_19 : ¬ ((nI (l.getD k 0)) = 60) := of_decide_eq_false c_19
          have n_19 : ¬ (l.getD k 0 = 60) := fun h9 => c_19 ((eq_nI (p := l.getD k 0) (n := 60) (by omega) (by decide)).mpr h9)
          refine ps_st (S' := (23, [(0, .ref m0), (1, .int (nI s)), (2, .int (nI k))], [.ref m0], M)) rfl rfl rfl ?_
          refine ps_st (S' := (24, [(0, .ref m0), (1, .int (nI s)), (2, .int (nI k))], [.int (nI s), .ref m0], M)) rfl rfl rfl ?_
          refine ps_st (S' := (25, [(0, .ref m0), (1, .int (nI s)), (2, .int (nI k))], [.int (nI k), .int (nI s), .ref m0], M)) rfl rfl rfl ?_
          refine pl_call (a := [.ref m0, .int (nI s), .int (nI k)]) (rest := []) rfl rfl rfl (rd_at (tx := tx) (cN := cN) (A := A) (s := s) (l := l) (k := k) hR hY (hs) (by omega)) (fun v7 M8 q9 => ?_)
          obtain ⟨rfl, rfl⟩ := q9
          show pl _ _ _ (28, [(0, .ref m0), (1, .int (nI s)), (2, .int (nI k))], [.int (nI (l.getD k 0))], M) _
          have hc_25 := hY.ch hs (k := k) (by omega)
          refine ps_st (S' := (30, [(0, .ref m0), (1, .int (nI s)), (2, .int (nI k))], [.int 62, .int (nI (l.getD k 0))], M)) rfl rfl rfl ?_
          refine ps_if2 (S1 := (35, [(0, .ref m0), (1, .int (nI s)), (2, .int (nI k))], [], M)) (S2 := (33, [], [], M)) rfl rfl rfl (fun c_30 => ?_) (fun c_30 => ?_)
          · have c_30 : ¬ (nI (l.getD k 0)) = 62 := of_decide_eq_true c_30
            have n_30 : ¬ (l.getD k 0 = 62) := fun h9 => c_30 ((eq_nI (p := l.getD k 0) (n := 62) (by omega) (by decide)).mpr h9)
            refine ps_st (S' := (38, [(2, .int ((nI k) + 1)), (0, .ref m0), (1, .int (nI s))], [], M)) rfl rfl rfl ?_
            rw [nI_add1 (p := k) (k := 1) (x := 1) rfl (by omega)]
            show pl _ _ _ (_, [(2, .int (nI (k + 1))), (0, .ref m0), (1, .int (nI s))], [], M) _
            refine ps_st (S' := (2, [(0, .ref m0), (1, .int (nI s)), (2, .int (nI (k + 1)))], [], M)) rfl rfl rfl ?_
            exact ih (k + 1)  (by omega) (by
                intro i hi
                by_cases e : i = k
                · rw [e]; omega
                · exact he i (by omega))
          · have c_30 : ¬ (¬ (nI (l.getD k 0)) = 62) := of_decide_eq_false c_30
            have n_30 : l.getD k 0 = 62 := (eq_nI (p := l.getD k 0) (n := 62) (by omega) (by decide)).mp (Decidable.not_not.mp c_30)
            refine ps_st (S' := (34, [], [.int 1], M)) rfl rfl rfl ?_
            exact ps_ret rfl rfl (⟨congrArg (fun x => some (Value.int (nI x))) (show 1 = angN l from (ang_1 (k := k) (by omega) (by omega)).symm), rfl⟩)
  refine ps_st (S' := (1, [(0, .ref m0), (1, .int (nI s))], [.int 0], M)) rfl rfl rfl ?_
  refine ps_st (S' := (2, [(0, .ref m0), (1, .int (nI s)), (2, .int 0)], [], M)) rfl rfl rfl ?_
  exact (LL kf) (0)  (by omega) (fun i hi => by omega)
set_option maxHeartbeats 1000000 in
theorem rd_nameText {g : xe_G} {m0 : Nat} {q : Nat → Nat} {z : Nat × Nat} {I : rI} {R : rR} {M : mi_H} {tx : List (List Nat)} {cN : Nat} {A : Nat → Nat} {s : Nat} {l : List Nat} {a e : Nat} (hR : RS g m0 q z I R M)  (hY : SYT tx cN A I R) (hs : s < tx.length ∧ tx.getD s [] = l) (hae : a ≤ e ∧ e ≤ l.length) : pt (mT g) 226 [.ref m0, .int (nI s), .int (nI a), .int (nI e)] M (fun v M' => (v = some (.int (nI (nmN (fun i => l.getD i 0) a e))) ∧ M = M')) := by
  refine pt_in (b := mb_226 g) rfl (fun kf => ?_)
  show pl (mT g) kf (mb_226 g).2 (0, [(0, .ref m0), (1, .int (nI s)), (2, .int (nI a)), (3, .int (nI e))], [], M) _
  have hln := hY.ln hs
  have hts := hY.1.2.2
  have LL : ∀ (kf : Nat), (∀ (k p : Nat) (la : Int32), (a ≤ k ∧ k ≤ e + 1 ∧ p ≤ k) → (la + 1 = nI p) → (k ≤ e → (s_nm (fun i => l.getD i 0) (e - k) k p = some e ↔ s_nm (fun i => l.getD i 0) (e - a) a a = some e)) → (k = e + 1 → s_nm (fun i => l.getD i 0) (e - a) a a = some e) →  pl (mT g) kf (mb_226 g).2 (8, [(0, .ref m0), (1, .int (nI s)), (3, .int (nI e)), (4, .int la), (5, .int (nI k))], [], M) (fun v M' => (v = some (.int (nI (nmN (fun i => l.getD i 0) a e))) ∧ M = M'))) := by
    intro kf
    induction kf with
    | zero => exact (by intros; exact pl_0)
    | succ kf ih =>
      intro k p la hk hla hm hz
      refine ps_st1 (S' := (10, [(0, .ref m0), (1, .int (nI s)), (3, .int (nI e)), (4, .int la), (5, .int (nI k))], [.int (nI k)], M)) rfl rfl rfl ?_
      refine ps_st (S' := (11, [(0, .ref m0), (1, .int (nI s)), (3, .int (nI e)), (4, .int la), (5, .int (nI k))], [.int (nI e), .int (nI k)], M)) rfl rfl rfl ?_
      refine ps_if2 (S1 := (85, [(0, .ref m0), (1, .int (nI s)), (3, .int (nI e)), (4, .int la), (5, .int (nI k))], [], M)) (S2 := (14, [(0, .ref m0), (1, .int (nI s)), (3, .int (nI e)), (4, .int la), (5, .int (nI k))], [], M)) rfl rfl rfl (fun c_11 => ?_) (fun c_11 => ?_)
      · have c_11 : (nI e) < (nI k) := of_decide_eq_true c_11
        have n_11 : e < k := (lt_nI (p := e) (n := k) (by omega) (by omega)).mp c_11
        refine ps_st (S' := (86, [(0, .ref m0), (1, .int (nI s)), (3, .int (nI e)), (4, .int la), (5, .int (nI k))], [.int 1], M)) rfl rfl rfl ?_
        exact ps_ret rfl rfl (⟨congrArg (fun x => some (Value.int (nI x))) (show 1 = nmN (fun i => l.getD i 0) a e from by
            unfold nmN
            rw [if_pos (hz (by omega))]), rfl⟩)
      · have c_11 : ¬ ((nI e) < (nI k)) := of_decide_eq_false c_11
        have n_11 : ¬ (e < k) := fun h9 => c_11 ((lt_nI (p := e) (n := k) (by omega) (by omega)).mpr h9)
        refine ps_st (S' := (16, [(0, .ref m0), (1, .int (nI s)), (3, .int (nI e)), (4, .int la), (5, .int (nI k))], [.int (nI k)], M)) rfl rfl rfl ?_
        refine ps_st (S' := (17, [(0, .ref m0), (1, .int (nI s)), (3, .int (nI e)), (4, .int la), (5, .int (nI k))], [.int (nI e), .int (nI k)], M)) rfl rfl rfl ?_
        refine ps_if2 (S1 := (30, [(0, .ref m0), (1, .int (nI s)), (3, .int (nI e)), (4, .int la), (5, .int (nI k))], [], M)) (S2 := (20, [(0, .ref m0), (1, .int (nI s)), (3, .int (nI e)), (4, .int la), (5, .int (nI k))], [], M)) rfl rfl rfl (fun c_17 => ?_) (fun c_17 => ?_)
        · have c_17 : (nI e) ≤ (nI k) := of_decide_eq_true c_17
          have n_17 : e ≤ k := (le_nI (p := e) (n := k) (by omega) (by omega)).mp c_17
          refine ps_st (S' := (32, [(0, .ref m0), (1, .int (nI s)), (3, .int (nI e)), (4, .int la), (5, .int (nI k))], [.int 47], M)) rfl rfl rfl ?_
          refine ps_st (S' := (34, [(6, .int 47), (0, .ref m0), (1, .int (nI s)), (3, .int (nI e)), (4, .int la), (5, .int (nI k))], [], M)) rfl rfl rfl ?_
          refine ps_st (S' := (36, [(6, .int 47), (0, .ref m0), (1, .int (nI s)), (3, .int (nI e)), (4, .int la), (5, .int (nI k))], [.int 47], M)) rfl rfl rfl ?_
          refine ps_st (S' := (38, [(6, .int 47), (0, .ref m0), (1, .int (nI s)), (3, .int (nI e)), (4, .int la), (5, .int (nI k))], [.int 46, .int 47], M)) rfl rfl rfl ?_
          refine ps_if2 (S1 := (55, [], [], M)) (S2 := (41, [(6, .int 47), (0, .ref m0), (1, .int (nI s)), (3, .int (nI e)), (4, .int la), (5, .int (nI k))], [], M)) rfl rfl rfl (fun c_38 => ?_) (fun c_38 => ?_)
          · exact absurd (of_decide_eq_true c_38) (by decide)
          refine ps_st (S' := (43, [(6, .int 47), (0, .ref m0), (1, .int (nI s)), (3, .int (nI e)), (4, .int la), (5, .int (nI k))], [.int 47], M)) rfl rfl rfl ?_
          refine ps_st (S' := (45, [(6, .int 47), (0, .ref m0), (1, .int (nI s)), (3, .int (nI e)), (4, .int la), (5, .int (nI k))], [.int 59, .int 47], M)) rfl rfl rfl ?_
          refine ps_if2 (S1 := (55, [], [], M)) (S2 := (48, [(6, .int 47), (0, .ref m0), (1, .int (nI s)), (3, .int (nI e)), (4, .int la), (5, .int (nI k))], [], M)) rfl rfl rfl (fun c_45 => ?_) (fun c_45 => ?_)
          · exact absurd (of_decide_eq_true c_45) (by decide)
          refine ps_st (S' := (50, [(6, .int 47), (0, .ref m0), (1, .int (nI s)), (3, .int (nI e)), (4, .int la), (5, .int (nI k))], [.int 47], M)) rfl rfl rfl ?_
          refine ps_st (S' := (52, [(6, .int 47), (0, .ref m0), (1, .int (nI s)), (3, .int (nI e)), (4, .int la), (5, .int (nI k))], [.int 91, .int 47], M)) rfl rfl rfl ?_
          refine ps_if2 (S1 := (57, [(6, .int 47), (0, .ref m0), (1, .int (nI s)), (3, .int (nI e)), (4, .int la), (5, .int (nI k))], [], M)) (S2 := (55, [], [], M)) rfl rfl rfl (fun c_52 => ?_) (fun c_52 => ?_)
          rotate_left
          · exact absurd (by decide) (of_decide_eq_false c_52)
          refine ps_st (S' := (59, [(6, .int 47), (0, .ref m0), (1, .int (nI s)), (3, .int (nI e)), (4, .int la), (5, .int (nI k))], [.int 47], M)) rfl rfl rfl ?_
          refine ps_st (S' := (61, [(6, .int 47), (0, .ref m0), (1, .int (nI s)), (3, .int (nI e)), (4, .int la), (5, .int (nI k))], [.int 47, .int 47], M)) rfl rfl rfl ?_
          refine ps_if2 (S1 := (79, [(0, .ref m0), (1, .int (nI s)), (3, .int (nI e)), (4, .int la), (5, .int (nI k))], [], M)) (S2 := (64, [(6, .int 47), (0, .ref m0), (1, .int (nI s)), (3, .int (nI e)), (4, .int la), (5, .int (nI k))], [], M)) rfl rfl rfl (fun c_61 => ?_) (fun c_61 => ?_)
          · exact absurd (of_decide_eq_true c_61) (by decide)
          refine ps_st (S' := (66, [(6, .int 47), (0, .ref m0), (1, .int (nI s)), (3, .int (nI e)), (4, .int la), (5, .int (nI k))], [.int (nI k)], M)) rfl rfl rfl ?_
          refine ps_st (S' := (68, [(6, .int 47), (0, .ref m0), (1, .int (nI s)), (3, .int (nI e)), (4, .int la), (5, .int (nI k))], [.int la, .int (nI k)], M)) rfl rfl rfl ?_
          refine ps_st (S' := (69, [(6, .int 47), (0, .ref m0), (1, .int (nI s)), (3, .int (nI e)), (4, .int la), (5, .int (nI k))], [.int 1, .int la, .int (nI k)], M)) rfl rfl rfl ?_
          refine ps_st (S' := (70, [(6, .int 47), (0, .ref m0), (1, .int (nI s)), (3, .int (nI e)), (4, .int la), (5, .int (nI k))], [.int (la + 1), .int (nI k)], M)) rfl rfl rfl ?_
          refine pl_top (x := (la + 1)) (y := (nI p)) (hla) ?_
          refine ps_if2 (S1 := (75, [(6, .int 47), (0, .ref m0), (1, .int (nI s)), (3, .int (nI e)), (4, .int la), (5, .int (nI k))], [], M)) (S2 := (73, [(6, .int 47), (0, .ref m0), (1, .int (nI s)), (3, .int (nI e)), (4, .int la), (5, .int (nI k))], [], M)) rfl rfl rfl (fun c_70 => ?_) (fun c_70 => ?_)
          · have c_70 : ¬ (nI k) = (nI p) := of_decide_eq_true c_70
            have n_70 : ¬ (k = p) := fun h9 => c_70 ((eq_nI (p := k) (n := p) (by omega) (by omega)).mpr h9)
            refine ps_st (S' := (77, [(6, .int 47), (0, .ref m0), (1, .int (nI s)), (3, .int (nI e)), (4, .int la), (5, .int (nI k))], [.int (nI k)], M)) rfl rfl rfl ?_
            refine ps_st (S' := (79, [(0, .ref m0), (1, .int (nI s)), (3, .int (nI e)), (4, .int (nI k)), (5, .int (nI k))], [], M)) rfl rfl rfl ?_
            refine ps_st (S' := (82, [(5, .int ((nI k) + 1)), (0, .ref m0), (1, .int (nI s)), (3, .int (nI e)), (4, .int (nI k))], [], M)) rfl rfl rfl ?_
            rw [nI_add1 (p := k) (k := 1) (x := 1) rfl (by omega)]
            show pl _ _ _ (_, [(5, .int (nI (k + 1))), (0, .ref m0), (1, .int (nI s)), (3, .int (nI e)), (4, .int (nI k))], [], M) _
            refine ps_st (S' := (8, [(0, .ref m0), (1, .int (nI s)), (3, .int (nI e)), (4, .int (nI k)), (5, .int (nI (k + 1)))], [], M)) rfl rfl rfl ?_
            exact ih (k + 1) (k + 1) ((nI k))  (by omega) (nI_add1 rfl (by omega)) (fun h => by omega) (by
                intro _
                have ek : k = e := by omega
                refine (hm (by omega)).mp ?_
                rw [ek, nm_end, if_pos (by omega)])
          · have c_70 : ¬ (¬ (nI k) = (nI p)) := of_decide_eq_false c_70
            have n_70 : k = p := (eq_nI (p := k) (n := p) (by omega) (by omega)).mp (Decidable.not_not.mp c_70)
            refine ps_st (S' := (74, [(6, .int 47), (0, .ref m0), (1, .int (nI s)), (3, .int (nI e)), (4, .int la), (5, .int (nI k))], [.int 0], M)) rfl rfl rfl ?_
            exact ps_ret rfl rfl (⟨congrArg (fun x => some (Value.int (nI x))) (show 0 = nmN (fun i => l.getD i 0) a e from by
                unfold nmN
                have ek : k = e := by omega
                rw [if_neg (fun h => by have h9 := (hm (by omega)).mpr h; rw [ek, nm_end, if_neg (by omega)] at h9; cases h9)]), rfl⟩)
        · have c_17 : ¬ ((nI e) ≤ (nI k)) := of_decide_eq_false c_17
          have n_17 : ¬ (e ≤ k) := fun h9 => c_17 ((le_nI (p := e) (n := k) (by omega) (by omega)).mpr h9)
          refine ps_st (S' := (21, [(0, .ref m0), (1, .int (nI s)), (3, .int (nI e)), (4, .int la), (5, .int (nI k))], [.ref m0], M)) rfl rfl rfl ?_
          refine ps_st (S' := (22, [(0, .ref m0), (1, .int (nI s)), (3, .int (nI e)), (4, .int la), (5, .int (nI k))], [.int (nI s), .ref m0], M)) rfl rfl rfl ?_
          refine ps_st (S' := (24, [(0, .ref m0), (1, .int (nI s)), (3, .int (nI e)), (4, .int la), (5, .int (nI k))], [.int (nI k), .int (nI s), .ref m0], M)) rfl rfl rfl ?_
          refine pl_call (a := [.ref m0, .int (nI s), .int (nI k)]) (rest := []) rfl rfl rfl (rd_at (tx := tx) (cN := cN) (A := A) (s := s) (l := l) (k := k) hR hY (hs) (by omega)) (fun v1 M2 q3 => ?_)
          obtain ⟨rfl, rfl⟩ := q3
          show pl _ _ _ (27, [(0, .ref m0), (1, .int (nI s)), (3, .int (nI e)), (4, .int la), (5, .int (nI k))], [.int (nI (l.getD k 0))], M) _
          have hc_24 := hY.ch hs (k := k) (by omega)
          refine ps_st (S' := (32, [(0, .ref m0), (1, .int (nI s)), (3, .int (nI e)), (4, .int la), (5, .int (nI k))], [.int (nI (l.getD k 0))], M)) rfl rfl rfl ?_
          refine ps_st (S' := (34, [(6, .int (nI (l.getD k 0))), (0, .ref m0), (1, .int (nI s)), (3, .int (nI e)), (4, .int la), (5, .int (nI k))], [], M)) rfl rfl rfl ?_
          refine ps_st (S' := (36, [(6, .int (nI (l.getD k 0))), (0, .ref m0), (1, .int (nI s)), (3, .int (nI e)), (4, .int la), (5, .int (nI k))], [.int (nI (l.getD k 0))], M)) rfl rfl rfl ?_
          refine ps_st (S' := (38, [(6, .int (nI (l.getD k 0))), (0, .ref m0), (1, .int (nI s)), (3, .int (nI e)), (4, .int la), (5, .int (nI k))], [.int 46, .int (nI (l.getD k 0))], M)) rfl rfl rfl ?_
          refine ps_if2 (S1 := (55, [], [], M)) (S2 := (41, [(6, .int (nI (l.getD k 0))), (0, .ref m0), (1, .int (nI s)), (3, .int (nI e)), (4, .int la), (5, .int (nI k))], [], M)) rfl rfl rfl (fun c_38 => ?_) (fun c_38 => ?_)
          · have c_38 : (nI (l.getD k 0)) = 46 := of_decide_eq_true c_38
            have n_38 : l.getD k 0 = 46 := (eq_nI (p := l.getD k 0) (n := 46) (by omega) (by decide)).mp c_38
            refine ps_st (S' := (56, [], [.int 0], M)) rfl rfl rfl ?_
            exact ps_ret rfl rfl (⟨congrArg (fun x => some (Value.int (nI x))) (show 0 = nmN (fun i => l.getD i 0) a e from by
                unfold nmN
                rw [if_neg (fun h => nm_bad (by omega) (by omega) ((hm (by omega)).mpr h))]), rfl⟩)
          · have c_38 : ¬ ((nI (l.getD k 0)) = 46) := of_decide_eq_false c_38
            have n_38 : ¬ (l.getD k 0 = 46) := fun h9 => c_38 ((eq_nI (p := l.getD k 0) (n := 46) (by omega) (by decide)).mpr h9)
            refine ps_st (S' := (43, [(6, .int (nI (l.getD k 0))), (0, .ref m0), (1, .int (nI s)), (3, .int (nI e)), (4, .int la), (5, .int (nI k))], [.int (nI (l.getD k 0))], M)) rfl rfl rfl ?_
            refine ps_st (S' := (45, [(6, .int (nI (l.getD k 0))), (0, .ref m0), (1, .int (nI s)), (3, .int (nI e)), (4, .int la), (5, .int (nI k))], [.int 59, .int (nI (l.getD k 0))], M)) rfl rfl rfl ?_
            refine ps_if2 (S1 := (55, [], [], M)) (S2 := (48, [(6, .int (nI (l.getD k 0))), (0, .ref m0), (1, .int (nI s)), (3, .int (nI e)), (4, .int la), (5, .int (nI k))], [], M)) rfl rfl rfl (fun c_45 => ?_) (fun c_45 => ?_)
            · have c_45 : (nI (l.getD k 0)) = 59 := of_decide_eq_true c_45
              have n_45 : l.getD k 0 = 59 := (eq_nI (p := l.getD k 0) (n := 59) (by omega) (by decide)).mp c_45
              refine ps_st (S' := (56, [], [.int 0], M)) rfl rfl rfl ?_
              exact ps_ret rfl rfl (⟨congrArg (fun x => some (Value.int (nI x))) (show 0 = nmN (fun i => l.getD i 0) a e from by
                  unfold nmN
                  rw [if_neg (fun h => nm_bad (by omega) (by omega) ((hm (by omega)).mpr h))]), rfl⟩)
            · have c_45 : ¬ ((nI (l.getD k 0)) = 59) := of_decide_eq_false c_45
              have n_45 : ¬ (l.getD k 0 = 59) := fun h9 => c_45 ((eq_nI (p := l.getD k 0) (n := 59) (by omega) (by decide)).mpr h9)
              refine ps_st (S' := (50, [(6, .int (nI (l.getD k 0))), (0, .ref m0), (1, .int (nI s)), (3, .int (nI e)), (4, .int la), (5, .int (nI k))], [.int (nI (l.getD k 0))], M)) rfl rfl rfl ?_
              refine ps_st (S' := (52, [(6, .int (nI (l.getD k 0))), (0, .ref m0), (1, .int (nI s)), (3, .int (nI e)), (4, .int la), (5, .int (nI k))], [.int 91, .int (nI (l.getD k 0))], M)) rfl rfl rfl ?_
              refine ps_if2 (S1 := (57, [(6, .int (nI (l.getD k 0))), (0, .ref m0), (1, .int (nI s)), (3, .int (nI e)), (4, .int la), (5, .int (nI k))], [], M)) (S2 := (55, [], [], M)) rfl rfl rfl (fun c_52 => ?_) (fun c_52 => ?_)
              · have c_52 : ¬ (nI (l.getD k 0)) = 91 := of_decide_eq_true c_52
                have n_52 : ¬ (l.getD k 0 = 91) := fun h9 => c_52 ((eq_nI (p := l.getD k 0) (n := 91) (by omega) (by decide)).mpr h9)
                refine ps_st (S' := (59, [(6, .int (nI (l.getD k 0))), (0, .ref m0), (1, .int (nI s)), (3, .int (nI e)), (4, .int la), (5, .int (nI k))], [.int (nI (l.getD k 0))], M)) rfl rfl rfl ?_
                refine ps_st (S' := (61, [(6, .int (nI (l.getD k 0))), (0, .ref m0), (1, .int (nI s)), (3, .int (nI e)), (4, .int la), (5, .int (nI k))], [.int 47, .int (nI (l.getD k 0))], M)) rfl rfl rfl ?_
                refine ps_if2 (S1 := (79, [(0, .ref m0), (1, .int (nI s)), (3, .int (nI e)), (4, .int la), (5, .int (nI k))], [], M)) (S2 := (64, [(6, .int (nI (l.getD k 0))), (0, .ref m0), (1, .int (nI s)), (3, .int (nI e)), (4, .int la), (5, .int (nI k))], [], M)) rfl rfl rfl (fun c_61 => ?_) (fun c_61 => ?_)
                · have c_61 : ¬ (nI (l.getD k 0)) = 47 := of_decide_eq_true c_61
                  have n_61 : ¬ (l.getD k 0 = 47) := fun h9 => c_61 ((eq_nI (p := l.getD k 0) (n := 47) (by omega) (by decide)).mpr h9)
                  refine ps_st (S' := (82, [(5, .int ((nI k) + 1)), (0, .ref m0), (1, .int (nI s)), (3, .int (nI e)), (4, .int la)], [], M)) rfl rfl rfl ?_
                  rw [nI_add1 (p := k) (k := 1) (x := 1) rfl (by omega)]
                  show pl _ _ _ (_, [(5, .int (nI (k + 1))), (0, .ref m0), (1, .int (nI s)), (3, .int (nI e)), (4, .int la)], [], M) _
                  refine ps_st (S' := (8, [(0, .ref m0), (1, .int (nI s)), (3, .int (nI e)), (4, .int la), (5, .int (nI (k + 1)))], [], M)) rfl rfl rfl ?_
                  exact ih (k + 1) (p) (la)  (by omega) (hla) (by
                      intro _
                      rw [← hm (by omega), nm_go (k := k) (p := p) (by omega) (by omega), if_neg (by omega)]) (fun h => by omega)
                · have c_61 : ¬ (¬ (nI (l.getD k 0)) = 47) := of_decide_eq_false c_61
                  have n_61 : l.getD k 0 = 47 := (eq_nI (p := l.getD k 0) (n := 47) (by omega) (by decide)).mp (Decidable.not_not.mp c_61)
                  refine ps_st (S' := (66, [(6, .int (nI (l.getD k 0))), (0, .ref m0), (1, .int (nI s)), (3, .int (nI e)), (4, .int la), (5, .int (nI k))], [.int (nI k)], M)) rfl rfl rfl ?_
                  refine ps_st (S' := (68, [(6, .int (nI (l.getD k 0))), (0, .ref m0), (1, .int (nI s)), (3, .int (nI e)), (4, .int la), (5, .int (nI k))], [.int la, .int (nI k)], M)) rfl rfl rfl ?_
                  refine ps_st (S' := (69, [(6, .int (nI (l.getD k 0))), (0, .ref m0), (1, .int (nI s)), (3, .int (nI e)), (4, .int la), (5, .int (nI k))], [.int 1, .int la, .int (nI k)], M)) rfl rfl rfl ?_
                  refine ps_st (S' := (70, [(6, .int (nI (l.getD k 0))), (0, .ref m0), (1, .int (nI s)), (3, .int (nI e)), (4, .int la), (5, .int (nI k))], [.int (la + 1), .int (nI k)], M)) rfl rfl rfl ?_
                  refine pl_top (x := (la + 1)) (y := (nI p)) (hla) ?_
                  refine ps_if2 (S1 := (75, [(6, .int (nI (l.getD k 0))), (0, .ref m0), (1, .int (nI s)), (3, .int (nI e)), (4, .int la), (5, .int (nI k))], [], M)) (S2 := (73, [(6, .int (nI (l.getD k 0))), (0, .ref m0), (1, .int (nI s)), (3, .int (nI e)), (4, .int la), (5, .int (nI k))], [], M)) rfl rfl rfl (fun c_70 => ?_) (fun c_70 => ?_)
                  · have c_70 : ¬ (nI k) = (nI p) := of_decide_eq_true c_70
                    have n_70 : ¬ (k = p) := fun h9 => c_70 ((eq_nI (p := k) (n := p) (by omega) (by omega)).mpr h9)
                    refine ps_st (S' := (77, [(6, .int (nI (l.getD k 0))), (0, .ref m0), (1, .int (nI s)), (3, .int (nI e)), (4, .int la), (5, .int (nI k))], [.int (nI k)], M)) rfl rfl rfl ?_
                    refine ps_st (S' := (79, [(0, .ref m0), (1, .int (nI s)), (3, .int (nI e)), (4, .int (nI k)), (5, .int (nI k))], [], M)) rfl rfl rfl ?_
                    refine ps_st (S' := (82, [(5, .int ((nI k) + 1)), (0, .ref m0), (1, .int (nI s)), (3, .int (nI e)), (4, .int (nI k))], [], M)) rfl rfl rfl ?_
                    rw [nI_add1 (p := k) (k := 1) (x := 1) rfl (by omega)]
                    show pl _ _ _ (_, [(5, .int (nI (k + 1))), (0, .ref m0), (1, .int (nI s)), (3, .int (nI e)), (4, .int (nI k))], [], M) _
                    refine ps_st (S' := (8, [(0, .ref m0), (1, .int (nI s)), (3, .int (nI e)), (4, .int (nI k)), (5, .int (nI (k + 1)))], [], M)) rfl rfl rfl ?_
                    exact ih (k + 1) (k + 1) ((nI k))  (by omega) (nI_add1 rfl (by omega)) (by
                        intro _
                        rw [← hm (by omega), nm_go (k := k) (p := p) (by omega) (by omega), if_pos (by omega)]) (fun h => by omega)
                  · have c_70 : ¬ (¬ (nI k) = (nI p)) := of_decide_eq_false c_70
                    have n_70 : k = p := (eq_nI (p := k) (n := p) (by omega) (by omega)).mp (Decidable.not_not.mp c_70)
                    refine ps_st (S' := (74, [(6, .int (nI (l.getD k 0))), (0, .ref m0), (1, .int (nI s)), (3, .int (nI e)), (4, .int la), (5, .int (nI k))], [.int 0], M)) rfl rfl rfl ?_
                    exact ps_ret rfl rfl (⟨congrArg (fun x => some (Value.int (nI x))) (show 0 = nmN (fun i => l.getD i 0) a e from by
                        unfold nmN
                        rw [if_neg (fun h => nm_bad (by omega) (by omega) ((hm (by omega)).mpr h))]), rfl⟩)
              · have c_52 : ¬ (¬ (nI (l.getD k 0)) = 91) := of_decide_eq_false c_52
                have n_52 : l.getD k 0 = 91 := (eq_nI (p := l.getD k 0) (n := 91) (by omega) (by decide)).mp (Decidable.not_not.mp c_52)
                refine ps_st (S' := (56, [], [.int 0], M)) rfl rfl rfl ?_
                exact ps_ret rfl rfl (⟨congrArg (fun x => some (Value.int (nI x))) (show 0 = nmN (fun i => l.getD i 0) a e from by
                    unfold nmN
                    rw [if_neg (fun h => nm_bad (by omega) (by omega) ((hm (by omega)).mpr h))]), rfl⟩)
  refine ps_st (S' := (1, [(0, .ref m0), (1, .int (nI s)), (2, .int (nI a)), (3, .int (nI e))], [.int (nI a)], M)) rfl rfl rfl ?_
  refine ps_st (S' := (2, [(0, .ref m0), (1, .int (nI s)), (2, .int (nI a)), (3, .int (nI e))], [.int 1, .int (nI a)], M)) rfl rfl rfl ?_
  refine ps_st (S' := (3, [(0, .ref m0), (1, .int (nI s)), (2, .int (nI a)), (3, .int (nI e))], [.int ((nI a) - 1)], M)) rfl rfl rfl ?_
  refine ps_st (S' := (5, [(4, .int ((nI a) - 1)), (0, .ref m0), (1, .int (nI s)), (2, .int (nI a)), (3, .int (nI e))], [], M)) rfl rfl rfl ?_
  refine ps_st (S' := (6, [(4, .int ((nI a) - 1)), (0, .ref m0), (1, .int (nI s)), (2, .int (nI a)), (3, .int (nI e))], [.int (nI a)], M)) rfl rfl rfl ?_
  refine ps_st (S' := (8, [(0, .ref m0), (1, .int (nI s)), (3, .int (nI e)), (4, .int ((nI a) - 1)), (5, .int (nI a))], [], M)) rfl rfl rfl ?_
  exact (LL kf) (a) (a) (((nI a) - 1))  (by omega) (by rw [Int32.sub_add_cancel]) (fun _ => Iff.rfl) (fun h => by omega)
set_option maxHeartbeats 1000000 in
theorem rd_fieldText {g : xe_G} {m0 : Nat} {q : Nat → Nat} {z : Nat × Nat} {I : rI} {R : rR} {M : mi_H} {tx : List (List Nat)} {cN : Nat} {A : Nat → Nat} {s : Nat} {l : List Nat} {a : Nat} (hR : RS g m0 q z I R M)  (hY : SYT tx cN A I R) (hs : s < tx.length ∧ tx.getD s [] = l) (ha : a ≤ l.length) : pt (mT g) 206 [.ref m0, .int (nI s), .int (nI a)] M (fun v M' => ((s_ty (fun i => l.getD i 0) l.length a = none) ∧ v = some (.int (-1)) ∧ M = M') ∨ (∃ (x : Nat), (s_ty (fun i => l.getD i 0) l.length a = some x) ∧ (a < x ∧ x ≤ l.length) ∧ v = some (.int (nI x)) ∧ M = M')) := by
  refine pt_in (b := mb_206 g) rfl (fun kf => ?_)
  show pl (mT g) kf (mb_206 g).2 (0, [(0, .ref m0), (1, .int (nI s)), (2, .int (nI a))], [], M) _
  have hln := hY.ln hs
  have hts := hY.1.2.2
  have LL : ∀ (kf : Nat), (∀ (k : Nat), (a ≤ k ∧ k ≤ l.length) → (s_br (fun i => l.getD i 0) (l.length - k) k = s_br (fun i => l.getD i 0) (l.length - a) a) →  pl (mT g) kf (mb_206 g).2 (9, [(0, .ref m0), (1, .int (nI s)), (2, .int (nI a)), (3, .int (nI l.length)), (4, .int (nI k))], [], M) (fun v M' => ((s_ty (fun i => l.getD i 0) l.length a = none) ∧ v = some (.int (-1)) ∧ M = M') ∨ (∃ (x : Nat), (s_ty (fun i => l.getD i 0) l.length a = some x) ∧ (a < x ∧ x ≤ l.length) ∧ v = some (.int (nI x)) ∧ M = M'))) ∧ (∀ (k e : Nat), (a ≤ k) → (s_br (fun i => l.getD i 0) (l.length - a) a = k) → (¬ (l.length ≤ k ∨ 255 < k - a)) → (l.getD k 0 = 76) → (k + 1 ≤ e ∧ e ≤ l.length) → (∀ j, k + 1 ≤ j → j < e → ¬ l.getD j 0 = 59) →  pl (mT g) kf (mb_206 g).2 (136, [(0, .ref m0), (1, .int (nI s)), (3, .int (nI l.length)), (4, .int (nI k)), (6, .int (nI e))], [], M) (fun v M' => ((s_ty (fun i => l.getD i 0) l.length a = none) ∧ v = some (.int (-1)) ∧ M = M') ∨ (∃ (x : Nat), (s_ty (fun i => l.getD i 0) l.length a = some x) ∧ (a < x ∧ x ≤ l.length) ∧ v = some (.int (nI x)) ∧ M = M'))) := by
    intro kf
    induction kf with
    | zero => exact ⟨by intros; exact pl_0, by intros; exact pl_0⟩
    | succ kf ih =>
      refine ⟨?_, ?_⟩
      · skip
        intro k hk hb
        refine ps_st1 (S' := (11, [(0, .ref m0), (1, .int (nI s)), (2, .int (nI a)), (3, .int (nI l.length)), (4, .int (nI k))], [.int (nI k)], M)) rfl rfl rfl ?_
        refine ps_st (S' := (12, [(0, .ref m0), (1, .int (nI s)), (2, .int (nI a)), (3, .int (nI l.length)), (4, .int (nI k))], [.int (nI l.length), .int (nI k)], M)) rfl rfl rfl ?_
        refine ps_if2 (S1 := (33, [(0, .ref m0), (1, .int (nI s)), (2, .int (nI a)), (3, .int (nI l.length)), (4, .int (nI k))], [], M)) (S2 := (15, [(0, .ref m0), (1, .int (nI s)), (2, .int (nI a)), (3, .int (nI l.length)), (4, .int (nI k))], [], M)) rfl rfl rfl (fun c_12 => ?_) (fun c_12 => ?_)
        · have c_12 : (nI l.length) ≤ (nI k) := of_decide_eq_true c_12
          have n_12 : l.length ≤ k := (le_nI (p := l.length) (n := k) (by omega) (by omega)).mp c_12
          have hbr : s_br (fun i => l.getD i 0) (l.length - a) a = k := by
            rw [← hb, br_end (by omega)]
          refine ps_st (S' := (35, [(0, .ref m0), (1, .int (nI s)), (2, .int (nI a)), (3, .int (nI l.length)), (4, .int (nI k))], [.int (nI k)], M)) rfl rfl rfl ?_
          refine ps_st (S' := (36, [(0, .ref m0), (1, .int (nI s)), (2, .int (nI a)), (3, .int (nI l.length)), (4, .int (nI k))], [.int (nI a), .int (nI k)], M)) rfl rfl rfl ?_
          refine ps_st (S' := (37, [(0, .ref m0), (1, .int (nI s)), (2, .int (nI a)), (3, .int (nI l.length)), (4, .int (nI k))], [.int ((nI k) - (nI a))], M)) rfl rfl rfl ?_
          refine ps_st (S' := (40, [(0, .ref m0), (1, .int (nI s)), (2, .int (nI a)), (3, .int (nI l.length)), (4, .int (nI k))], [.int 255, .int ((nI k) - (nI a))], M)) rfl rfl rfl ?_
          refine ps_if2 (S1 := (49, [], [], M)) (S2 := (43, [(0, .ref m0), (1, .int (nI s)), (2, .int (nI a)), (3, .int (nI l.length)), (4, .int (nI k))], [], M)) rfl rfl rfl (fun c_40 => ?_) (fun c_40 => ?_)
          · have c_40 : 255 < ((nI k) - (nI a)) := of_decide_eq_true c_40
            have n_40 : 255 + a < k := (lt_sub1 (e := k) (p := a) (k := 255) (by omega) (by omega) (by omega)).mp c_40
            refine ps_st (S' := (50, [], [.int (-1)], M)) rfl rfl rfl ?_
            exact ps_ret rfl rfl (Or.inl ⟨ty_1 hbr (by omega), rfl, rfl⟩)
          · have c_40 : ¬ (255 < ((nI k) - (nI a))) := of_decide_eq_false c_40
            have n_40 : ¬ (255 + a < k) := fun h8 => c_40 ((lt_sub1 (e := k) (p := a) (k := 255) (by omega) (by omega) (by omega)).mpr h8)
            refine ps_st (S' := (45, [(0, .ref m0), (1, .int (nI s)), (2, .int (nI a)), (3, .int (nI l.length)), (4, .int (nI k))], [.int (nI k)], M)) rfl rfl rfl ?_
            refine ps_st (S' := (46, [(0, .ref m0), (1, .int (nI s)), (2, .int (nI a)), (3, .int (nI l.length)), (4, .int (nI k))], [.int (nI l.length), .int (nI k)], M)) rfl rfl rfl ?_
            refine ps_if2 (S1 := (51, [(0, .ref m0), (1, .int (nI s)), (2, .int (nI a)), (3, .int (nI l.length)), (4, .int (nI k))], [], M)) (S2 := (49, [], [], M)) rfl rfl rfl (fun c_46 => ?_) (fun c_46 => ?_)
            · have c_46 : (nI k) < (nI l.length) := of_decide_eq_true c_46
              have n_46 : k < l.length := (lt_nI (p := k) (n := l.length) (by omega) (by omega)).mp c_46
              refine ps_st (S' := (52, [(0, .ref m0), (1, .int (nI s)), (2, .int (nI a)), (3, .int (nI l.length)), (4, .int (nI k))], [.ref m0], M)) rfl rfl rfl ?_
              refine ps_st (S' := (53, [(0, .ref m0), (1, .int (nI s)), (2, .int (nI a)), (3, .int (nI l.length)), (4, .int (nI k))], [.int (nI s), .ref m0], M)) rfl rfl rfl ?_
              refine ps_st (S' := (55, [(0, .ref m0), (1, .int (nI s)), (2, .int (nI a)), (3, .int (nI l.length)), (4, .int (nI k))], [.int (nI k), .int (nI s), .ref m0], M)) rfl rfl rfl ?_
              refine pl_call (a := [.ref m0, .int (nI s), .int (nI k)]) (rest := []) rfl rfl rfl (rd_at (tx := tx) (cN := cN) (A := A) (s := s) (l := l) (k := k) hR hY (hs) (by omega)) (fun v1 M2 q3 => ?_)
              obtain ⟨rfl, rfl⟩ := q3
              show pl _ _ _ (58, [(0, .ref m0), (1, .int (nI s)), (2, .int (nI a)), (3, .int (nI l.length)), (4, .int (nI k))], [.int (nI (l.getD k 0))], M) _
              have hc_55 := hY.ch hs (k := k) (by omega)
              refine ps_st (S' := (60, [(5, .int (nI (l.getD k 0))), (0, .ref m0), (1, .int (nI s)), (2, .int (nI a)), (3, .int (nI l.length)), (4, .int (nI k))], [], M)) rfl rfl rfl ?_
              refine ps_st (S' := (62, [(5, .int (nI (l.getD k 0))), (0, .ref m0), (1, .int (nI s)), (2, .int (nI a)), (3, .int (nI l.length)), (4, .int (nI k))], [.int (nI (l.getD k 0))], M)) rfl rfl rfl ?_
              refine ps_st (S' := (64, [(5, .int (nI (l.getD k 0))), (0, .ref m0), (1, .int (nI s)), (2, .int (nI a)), (3, .int (nI l.length)), (4, .int (nI k))], [.int 66, .int (nI (l.getD k 0))], M)) rfl rfl rfl ?_
              refine ps_if2 (S1 := (116, [(4, .int (nI k))], [], M)) (S2 := (67, [(5, .int (nI (l.getD k 0))), (0, .ref m0), (1, .int (nI s)), (2, .int (nI a)), (3, .int (nI l.length)), (4, .int (nI k))], [], M)) rfl rfl rfl (fun c_64 => ?_) (fun c_64 => ?_)
              · have c_64 : (nI (l.getD k 0)) = 66 := of_decide_eq_true c_64
                have n_64 : l.getD k 0 = 66 := (eq_nI (p := l.getD k 0) (n := 66) (by omega) (by decide)).mp c_64
                refine ps_st (S' := (118, [(4, .int (nI k))], [.int (nI k)], M)) rfl rfl rfl ?_
                refine ps_st (S' := (119, [(4, .int (nI k))], [.int 1, .int (nI k)], M)) rfl rfl rfl ?_
                refine ps_st (S' := (120, [(4, .int (nI k))], [.int ((nI k) + 1)], M)) rfl rfl rfl ?_
                rw [nI_add1 (p := k) (k := 1) (x := 1) rfl (by omega)]
                show pl _ _ _ (_, [(4, .int (nI k))], [.int (nI (k + 1))], M) _
                exact ps_reti rfl (Or.inr ⟨k + 1, ty_p hbr (by omega) (by omega), by omega, rfl, rfl⟩)
              · have c_64 : ¬ ((nI (l.getD k 0)) = 66) := of_decide_eq_false c_64
                have n_64 : ¬ (l.getD k 0 = 66) := fun h9 => c_64 ((eq_nI (p := l.getD k 0) (n := 66) (by omega) (by decide)).mpr h9)
                refine ps_st (S' := (69, [(5, .int (nI (l.getD k 0))), (0, .ref m0), (1, .int (nI s)), (2, .int (nI a)), (3, .int (nI l.length)), (4, .int (nI k))], [.int (nI (l.getD k 0))], M)) rfl rfl rfl ?_
                refine ps_st (S' := (71, [(5, .int (nI (l.getD k 0))), (0, .ref m0), (1, .int (nI s)), (2, .int (nI a)), (3, .int (nI l.length)), (4, .int (nI k))], [.int 67, .int (nI (l.getD k 0))], M)) rfl rfl rfl ?_
                refine ps_if2 (S1 := (116, [(4, .int (nI k))], [], M)) (S2 := (74, [(5, .int (nI (l.getD k 0))), (0, .ref m0), (1, .int (nI s)), (2, .int (nI a)), (3, .int (nI l.length)), (4, .int (nI k))], [], M)) rfl rfl rfl (fun c_71 => ?_) (fun c_71 => ?_)
                · have c_71 : (nI (l.getD k 0)) = 67 := of_decide_eq_true c_71
                  have n_71 : l.getD k 0 = 67 := (eq_nI (p := l.getD k 0) (n := 67) (by omega) (by decide)).mp c_71
                  refine ps_st (S' := (118, [(4, .int (nI k))], [.int (nI k)], M)) rfl rfl rfl ?_
                  refine ps_st (S' := (119, [(4, .int (nI k))], [.int 1, .int (nI k)], M)) rfl rfl rfl ?_
                  refine ps_st (S' := (120, [(4, .int (nI k))], [.int ((nI k) + 1)], M)) rfl rfl rfl ?_
                  rw [nI_add1 (p := k) (k := 1) (x := 1) rfl (by omega)]
                  show pl _ _ _ (_, [(4, .int (nI k))], [.int (nI (k + 1))], M) _
                  exact ps_reti rfl (Or.inr ⟨k + 1, ty_p hbr (by omega) (by omega), by omega, rfl, rfl⟩)
                · have c_71 : ¬ ((nI (l.getD k 0)) = 67) := of_decide_eq_false c_71
                  have n_71 : ¬ (l.getD k 0 = 67) := fun h9 => c_71 ((eq_nI (p := l.getD k 0) (n := 67) (by omega) (by decide)).mpr h9)
                  refine ps_st (S' := (76, [(5, .int (nI (l.getD k 0))), (0, .ref m0), (1, .int (nI s)), (2, .int (nI a)), (3, .int (nI l.length)), (4, .int (nI k))], [.int (nI (l.getD k 0))], M)) rfl rfl rfl ?_
                  refine ps_st (S' := (78, [(5, .int (nI (l.getD k 0))), (0, .ref m0), (1, .int (nI s)), (2, .int (nI a)), (3, .int (nI l.length)), (4, .int (nI k))], [.int 68, .int (nI (l.getD k 0))], M)) rfl rfl rfl ?_
                  refine ps_if2 (S1 := (116, [(4, .int (nI k))], [], M)) (S2 := (81, [(5, .int (nI (l.getD k 0))), (0, .ref m0), (1, .int (nI s)), (2, .int (nI a)), (3, .int (nI l.length)), (4, .int (nI k))], [], M)) rfl rfl rfl (fun c_78 => ?_) (fun c_78 => ?_)
                  · have c_78 : (nI (l.getD k 0)) = 68 := of_decide_eq_true c_78
                    have n_78 : l.getD k 0 = 68 := (eq_nI (p := l.getD k 0) (n := 68) (by omega) (by decide)).mp c_78
                    refine ps_st (S' := (118, [(4, .int (nI k))], [.int (nI k)], M)) rfl rfl rfl ?_
                    refine ps_st (S' := (119, [(4, .int (nI k))], [.int 1, .int (nI k)], M)) rfl rfl rfl ?_
                    refine ps_st (S' := (120, [(4, .int (nI k))], [.int ((nI k) + 1)], M)) rfl rfl rfl ?_
                    rw [nI_add1 (p := k) (k := 1) (x := 1) rfl (by omega)]
                    show pl _ _ _ (_, [(4, .int (nI k))], [.int (nI (k + 1))], M) _
                    exact ps_reti rfl (Or.inr ⟨k + 1, ty_p hbr (by omega) (by omega), by omega, rfl, rfl⟩)
                  · have c_78 : ¬ ((nI (l.getD k 0)) = 68) := of_decide_eq_false c_78
                    have n_78 : ¬ (l.getD k 0 = 68) := fun h9 => c_78 ((eq_nI (p := l.getD k 0) (n := 68) (by omega) (by decide)).mpr h9)
                    refine ps_st (S' := (83, [(5, .int (nI (l.getD k 0))), (0, .ref m0), (1, .int (nI s)), (2, .int (nI a)), (3, .int (nI l.length)), (4, .int (nI k))], [.int (nI (l.getD k 0))], M)) rfl rfl rfl ?_
                    refine ps_st (S' := (85, [(5, .int (nI (l.getD k 0))), (0, .ref m0), (1, .int (nI s)), (2, .int (nI a)), (3, .int (nI l.length)), (4, .int (nI k))], [.int 70, .int (nI (l.getD k 0))], M)) rfl rfl rfl ?_
                    refine ps_if2 (S1 := (116, [(4, .int (nI k))], [], M)) (S2 := (88, [(5, .int (nI (l.getD k 0))), (0, .ref m0), (1, .int (nI s)), (2, .int (nI a)), (3, .int (nI l.length)), (4, .int (nI k))], [], M)) rfl rfl rfl (fun c_85 => ?_) (fun c_85 => ?_)
                    · have c_85 : (nI (l.getD k 0)) = 70 := of_decide_eq_true c_85
                      have n_85 : l.getD k 0 = 70 := (eq_nI (p := l.getD k 0) (n := 70) (by omega) (by decide)).mp c_85
                      refine ps_st (S' := (118, [(4, .int (nI k))], [.int (nI k)], M)) rfl rfl rfl ?_
                      refine ps_st (S' := (119, [(4, .int (nI k))], [.int 1, .int (nI k)], M)) rfl rfl rfl ?_
                      refine ps_st (S' := (120, [(4, .int (nI k))], [.int ((nI k) + 1)], M)) rfl rfl rfl ?_
                      rw [nI_add1 (p := k) (k := 1) (x := 1) rfl (by omega)]
                      show pl _ _ _ (_, [(4, .int (nI k))], [.int (nI (k + 1))], M) _
                      exact ps_reti rfl (Or.inr ⟨k + 1, ty_p hbr (by omega) (by omega), by omega, rfl, rfl⟩)
                    · have c_85 : ¬ ((nI (l.getD k 0)) = 70) := of_decide_eq_false c_85
                      have n_85 : ¬ (l.getD k 0 = 70) := fun h9 => c_85 ((eq_nI (p := l.getD k 0) (n := 70) (by omega) (by decide)).mpr h9)
                      refine ps_st (S' := (90, [(5, .int (nI (l.getD k 0))), (0, .ref m0), (1, .int (nI s)), (2, .int (nI a)), (3, .int (nI l.length)), (4, .int (nI k))], [.int (nI (l.getD k 0))], M)) rfl rfl rfl ?_
                      refine ps_st (S' := (92, [(5, .int (nI (l.getD k 0))), (0, .ref m0), (1, .int (nI s)), (2, .int (nI a)), (3, .int (nI l.length)), (4, .int (nI k))], [.int 73, .int (nI (l.getD k 0))], M)) rfl rfl rfl ?_
                      refine ps_if2 (S1 := (116, [(4, .int (nI k))], [], M)) (S2 := (95, [(5, .int (nI (l.getD k 0))), (0, .ref m0), (1, .int (nI s)), (2, .int (nI a)), (3, .int (nI l.length)), (4, .int (nI k))], [], M)) rfl rfl rfl (fun c_92 => ?_) (fun c_92 => ?_)
                      · have c_92 : (nI (l.getD k 0)) = 73 := of_decide_eq_true c_92
                        have n_92 : l.getD k 0 = 73 := (eq_nI (p := l.getD k 0) (n := 73) (by omega) (by decide)).mp c_92
                        refine ps_st (S' := (118, [(4, .int (nI k))], [.int (nI k)], M)) rfl rfl rfl ?_
                        refine ps_st (S' := (119, [(4, .int (nI k))], [.int 1, .int (nI k)], M)) rfl rfl rfl ?_
                        refine ps_st (S' := (120, [(4, .int (nI k))], [.int ((nI k) + 1)], M)) rfl rfl rfl ?_
                        rw [nI_add1 (p := k) (k := 1) (x := 1) rfl (by omega)]
                        show pl _ _ _ (_, [(4, .int (nI k))], [.int (nI (k + 1))], M) _
                        exact ps_reti rfl (Or.inr ⟨k + 1, ty_p hbr (by omega) (by omega), by omega, rfl, rfl⟩)
                      · have c_92 : ¬ ((nI (l.getD k 0)) = 73) := of_decide_eq_false c_92
                        have n_92 : ¬ (l.getD k 0 = 73) := fun h9 => c_92 ((eq_nI (p := l.getD k 0) (n := 73) (by omega) (by decide)).mpr h9)
                        refine ps_st (S' := (97, [(5, .int (nI (l.getD k 0))), (0, .ref m0), (1, .int (nI s)), (2, .int (nI a)), (3, .int (nI l.length)), (4, .int (nI k))], [.int (nI (l.getD k 0))], M)) rfl rfl rfl ?_
                        refine ps_st (S' := (99, [(5, .int (nI (l.getD k 0))), (0, .ref m0), (1, .int (nI s)), (2, .int (nI a)), (3, .int (nI l.length)), (4, .int (nI k))], [.int 74, .int (nI (l.getD k 0))], M)) rfl rfl rfl ?_
                        refine ps_if2 (S1 := (116, [(4, .int (nI k))], [], M)) (S2 := (102, [(5, .int (nI (l.getD k 0))), (0, .ref m0), (1, .int (nI s)), (2, .int (nI a)), (3, .int (nI l.length)), (4, .int (nI k))], [], M)) rfl rfl rfl (fun c_99 => ?_) (fun c_99 => ?_)
                        · have c_99 : (nI (l.getD k 0)) = 74 := of_decide_eq_true c_99
                          have n_99 : l.getD k 0 = 74 := (eq_nI (p := l.getD k 0) (n := 74) (by omega) (by decide)).mp c_99
                          refine ps_st (S' := (118, [(4, .int (nI k))], [.int (nI k)], M)) rfl rfl rfl ?_
                          refine ps_st (S' := (119, [(4, .int (nI k))], [.int 1, .int (nI k)], M)) rfl rfl rfl ?_
                          refine ps_st (S' := (120, [(4, .int (nI k))], [.int ((nI k) + 1)], M)) rfl rfl rfl ?_
                          rw [nI_add1 (p := k) (k := 1) (x := 1) rfl (by omega)]
                          show pl _ _ _ (_, [(4, .int (nI k))], [.int (nI (k + 1))], M) _
                          exact ps_reti rfl (Or.inr ⟨k + 1, ty_p hbr (by omega) (by omega), by omega, rfl, rfl⟩)
                        · have c_99 : ¬ ((nI (l.getD k 0)) = 74) := of_decide_eq_false c_99
                          have n_99 : ¬ (l.getD k 0 = 74) := fun h9 => c_99 ((eq_nI (p := l.getD k 0) (n := 74) (by omega) (by decide)).mpr h9)
                          refine ps_st (S' := (104, [(5, .int (nI (l.getD k 0))), (0, .ref m0), (1, .int (nI s)), (2, .int (nI a)), (3, .int (nI l.length)), (4, .int (nI k))], [.int (nI (l.getD k 0))], M)) rfl rfl rfl ?_
                          refine ps_st (S' := (106, [(5, .int (nI (l.getD k 0))), (0, .ref m0), (1, .int (nI s)), (2, .int (nI a)), (3, .int (nI l.length)), (4, .int (nI k))], [.int 83, .int (nI (l.getD k 0))], M)) rfl rfl rfl ?_
                          refine ps_if2 (S1 := (116, [(4, .int (nI k))], [], M)) (S2 := (109, [(5, .int (nI (l.getD k 0))), (0, .ref m0), (1, .int (nI s)), (2, .int (nI a)), (3, .int (nI l.length)), (4, .int (nI k))], [], M)) rfl rfl rfl (fun c_106 => ?_) (fun c_106 => ?_)
                          · have c_106 : (nI (l.getD k 0)) = 83 := of_decide_eq_true c_106
                            have n_106 : l.getD k 0 = 83 := (eq_nI (p := l.getD k 0) (n := 83) (by omega) (by decide)).mp c_106
                            refine ps_st (S' := (118, [(4, .int (nI k))], [.int (nI k)], M)) rfl rfl rfl ?_
                            refine ps_st (S' := (119, [(4, .int (nI k))], [.int 1, .int (nI k)], M)) rfl rfl rfl ?_
                            refine ps_st (S' := (120, [(4, .int (nI k))], [.int ((nI k) + 1)], M)) rfl rfl rfl ?_
                            rw [nI_add1 (p := k) (k := 1) (x := 1) rfl (by omega)]
                            show pl _ _ _ (_, [(4, .int (nI k))], [.int (nI (k + 1))], M) _
                            exact ps_reti rfl (Or.inr ⟨k + 1, ty_p hbr (by omega) (by omega), by omega, rfl, rfl⟩)
                          · have c_106 : ¬ ((nI (l.getD k 0)) = 83) := of_decide_eq_false c_106
                            have n_106 : ¬ (l.getD k 0 = 83) := fun h9 => c_106 ((eq_nI (p := l.getD k 0) (n := 83) (by omega) (by decide)).mpr h9)
                            refine ps_st (S' := (111, [(5, .int (nI (l.getD k 0))), (0, .ref m0), (1, .int (nI s)), (2, .int (nI a)), (3, .int (nI l.length)), (4, .int (nI k))], [.int (nI (l.getD k 0))], M)) rfl rfl rfl ?_
                            refine ps_st (S' := (113, [(5, .int (nI (l.getD k 0))), (0, .ref m0), (1, .int (nI s)), (2, .int (nI a)), (3, .int (nI l.length)), (4, .int (nI k))], [.int 90, .int (nI (l.getD k 0))], M)) rfl rfl rfl ?_
                            refine ps_if2 (S1 := (121, [(5, .int (nI (l.getD k 0))), (0, .ref m0), (1, .int (nI s)), (2, .int (nI a)), (3, .int (nI l.length)), (4, .int (nI k))], [], M)) (S2 := (116, [(4, .int (nI k))], [], M)) rfl rfl rfl (fun c_113 => ?_) (fun c_113 => ?_)
                            · have c_113 : ¬ (nI (l.getD k 0)) = 90 := of_decide_eq_true c_113
                              have n_113 : ¬ (l.getD k 0 = 90) := fun h9 => c_113 ((eq_nI (p := l.getD k 0) (n := 90) (by omega) (by decide)).mpr h9)
                              refine ps_st (S' := (123, [(5, .int (nI (l.getD k 0))), (0, .ref m0), (1, .int (nI s)), (2, .int (nI a)), (3, .int (nI l.length)), (4, .int (nI k))], [.int (nI (l.getD k 0))], M)) rfl rfl rfl ?_
                              refine ps_st (S' := (125, [(5, .int (nI (l.getD k 0))), (0, .ref m0), (1, .int (nI s)), (2, .int (nI a)), (3, .int (nI l.length)), (4, .int (nI k))], [.int 76, .int (nI (l.getD k 0))], M)) rfl rfl rfl ?_
                              refine ps_if2 (S1 := (130, [(5, .int (nI (l.getD k 0))), (0, .ref m0), (1, .int (nI s)), (2, .int (nI a)), (3, .int (nI l.length)), (4, .int (nI k))], [], M)) (S2 := (128, [(5, .int (nI (l.getD k 0))), (0, .ref m0), (1, .int (nI s)), (2, .int (nI a)), (3, .int (nI l.length)), (4, .int (nI k))], [], M)) rfl rfl rfl (fun c_125 => ?_) (fun c_125 => ?_)
                              · have c_125 : (nI (l.getD k 0)) = 76 := of_decide_eq_true c_125
                                have n_125 : l.getD k 0 = 76 := (eq_nI (p := l.getD k 0) (n := 76) (by omega) (by decide)).mp c_125
                                refine ps_st (S' := (132, [(5, .int (nI (l.getD k 0))), (0, .ref m0), (1, .int (nI s)), (2, .int (nI a)), (3, .int (nI l.length)), (4, .int (nI k))], [.int (nI k)], M)) rfl rfl rfl ?_
                                refine ps_st (S' := (133, [(5, .int (nI (l.getD k 0))), (0, .ref m0), (1, .int (nI s)), (2, .int (nI a)), (3, .int (nI l.length)), (4, .int (nI k))], [.int 1, .int (nI k)], M)) rfl rfl rfl ?_
                                refine ps_st (S' := (134, [(5, .int (nI (l.getD k 0))), (0, .ref m0), (1, .int (nI s)), (2, .int (nI a)), (3, .int (nI l.length)), (4, .int (nI k))], [.int ((nI k) + 1)], M)) rfl rfl rfl ?_
                                rw [nI_add1 (p := k) (k := 1) (x := 1) rfl (by omega)]
                                show pl _ _ _ (_, [(5, .int (nI (l.getD k 0))), (0, .ref m0), (1, .int (nI s)), (2, .int (nI a)), (3, .int (nI l.length)), (4, .int (nI k))], [.int (nI (k + 1))], M) _
                                refine ps_st (S' := (136, [(0, .ref m0), (1, .int (nI s)), (3, .int (nI l.length)), (4, .int (nI k)), (6, .int (nI (k + 1)))], [], M)) rfl rfl rfl ?_
                                exact ih.2 (k) (k + 1)  (by omega) (hbr) (by omega) (by omega) (by omega) (fun j a b => by omega)
                              · have c_125 : ¬ ((nI (l.getD k 0)) = 76) := of_decide_eq_false c_125
                                have n_125 : ¬ (l.getD k 0 = 76) := fun h9 => c_125 ((eq_nI (p := l.getD k 0) (n := 76) (by omega) (by decide)).mpr h9)
                                refine ps_st (S' := (129, [(5, .int (nI (l.getD k 0))), (0, .ref m0), (1, .int (nI s)), (2, .int (nI a)), (3, .int (nI l.length)), (4, .int (nI k))], [.int (-1)], M)) rfl rfl rfl ?_
                                exact ps_ret rfl rfl (Or.inl ⟨ty_o hbr (by omega) (by omega) (by omega), rfl, rfl⟩)
                            · have c_113 : ¬ (¬ (nI (l.getD k 0)) = 90) := of_decide_eq_false c_113
                              have n_113 : l.getD k 0 = 90 := (eq_nI (p := l.getD k 0) (n := 90) (by omega) (by decide)).mp (Decidable.not_not.mp c_113)
                              refine ps_st (S' := (118, [(4, .int (nI k))], [.int (nI k)], M)) rfl rfl rfl ?_
                              refine ps_st (S' := (119, [(4, .int (nI k))], [.int 1, .int (nI k)], M)) rfl rfl rfl ?_
                              refine ps_st (S' := (120, [(4, .int (nI k))], [.int ((nI k) + 1)], M)) rfl rfl rfl ?_
                              rw [nI_add1 (p := k) (k := 1) (x := 1) rfl (by omega)]
                              show pl _ _ _ (_, [(4, .int (nI k))], [.int (nI (k + 1))], M) _
                              exact ps_reti rfl (Or.inr ⟨k + 1, ty_p hbr (by omega) (by omega), by omega, rfl, rfl⟩)
            · have c_46 : ¬ ((nI k) < (nI l.length)) := of_decide_eq_false c_46
              have n_46 : ¬ (k < l.length) := fun h9 => c_46 ((lt_nI (p := k) (n := l.length) (by omega) (by omega)).mpr h9)
              refine ps_st (S' := (50, [], [.int (-1)], M)) rfl rfl rfl ?_
              exact ps_ret rfl rfl (Or.inl ⟨ty_1 hbr (by omega), rfl, rfl⟩)
        · have c_12 : ¬ ((nI l.length) ≤ (nI k)) := of_decide_eq_false c_12
          have n_12 : ¬ (l.length ≤ k) := fun h9 => c_12 ((le_nI (p := l.length) (n := k) (by omega) (by omega)).mpr h9)
          refine ps_st (S' := (16, [(0, .ref m0), (1, .int (nI s)), (2, .int (nI a)), (3, .int (nI l.length)), (4, .int (nI k))], [.ref m0], M)) rfl rfl rfl ?_
          refine ps_st (S' := (17, [(0, .ref m0), (1, .int (nI s)), (2, .int (nI a)), (3, .int (nI l.length)), (4, .int (nI k))], [.int (nI s), .ref m0], M)) rfl rfl rfl ?_
          refine ps_st (S' := (19, [(0, .ref m0), (1, .int (nI s)), (2, .int (nI a)), (3, .int (nI l.length)), (4, .int (nI k))], [.int (nI k), .int (nI s), .ref m0], M)) rfl rfl rfl ?_
          refine pl_call (a := [.ref m0, .int (nI s), .int (nI k)]) (rest := []) rfl rfl rfl (rd_at (tx := tx) (cN := cN) (A := A) (s := s) (l := l) (k := k) hR hY (hs) (by omega)) (fun v4 M5 q6 => ?_)
          obtain ⟨rfl, rfl⟩ := q6
          show pl _ _ _ (22, [(0, .ref m0), (1, .int (nI s)), (2, .int (nI a)), (3, .int (nI l.length)), (4, .int (nI k))], [.int (nI (l.getD k 0))], M) _
          have hc_19 := hY.ch hs (k := k) (by omega)
          refine ps_st (S' := (24, [(0, .ref m0), (1, .int (nI s)), (2, .int (nI a)), (3, .int (nI l.length)), (4, .int (nI k))], [.int 91, .int (nI (l.getD k 0))], M)) rfl rfl rfl ?_
          refine ps_if2 (S1 := (33, [(0, .ref m0), (1, .int (nI s)), (2, .int (nI a)), (3, .int (nI l.length)), (4, .int (nI k))], [], M)) (S2 := (27, [(0, .ref m0), (1, .int (nI s)), (2, .int (nI a)), (3, .int (nI l.length)), (4, .int (nI k))], [], M)) rfl rfl rfl (fun c_24 => ?_) (fun c_24 => ?_)
          · have c_24 : ¬ (nI (l.getD k 0)) = 91 := of_decide_eq_true c_24
            have n_24 : ¬ (l.getD k 0 = 91) := fun h9 => c_24 ((eq_nI (p := l.getD k 0) (n := 91) (by omega) (by decide)).mpr h9)
            have hbr : s_br (fun i => l.getD i 0) (l.length - a) a = k := by
              rw [← hb, br_st (k := k) (by omega), if_neg (by omega)]
            refine ps_st (S' := (35, [(0, .ref m0), (1, .int (nI s)), (2, .int (nI a)), (3, .int (nI l.length)), (4, .int (nI k))], [.int (nI k)], M)) rfl rfl rfl ?_
            refine ps_st (S' := (36, [(0, .ref m0), (1, .int (nI s)), (2, .int (nI a)), (3, .int (nI l.length)), (4, .int (nI k))], [.int (nI a), .int (nI k)], M)) rfl rfl rfl ?_
            refine ps_st (S' := (37, [(0, .ref m0), (1, .int (nI s)), (2, .int (nI a)), (3, .int (nI l.length)), (4, .int (nI k))], [.int ((nI k) - (nI a))], M)) rfl rfl rfl ?_
            refine ps_st (S' := (40, [(0, .ref m0), (1, .int (nI s)), (2, .int (nI a)), (3, .int (nI l.length)), (4, .int (nI k))], [.int 255, .int ((nI k) - (nI a))], M)) rfl rfl rfl ?_
            refine ps_if2 (S1 := (49, [], [], M)) (S2 := (43, [(0, .ref m0), (1, .int (nI s)), (2, .int (nI a)), (3, .int (nI l.length)), (4, .int (nI k))], [], M)) rfl rfl rfl (fun c_40 => ?_) (fun c_40 => ?_)
            · have c_40 : 255 < ((nI k) - (nI a)) := of_decide_eq_true c_40
              have n_40 : 255 + a < k := (lt_sub1 (e := k) (p := a) (k := 255) (by omega) (by omega) (by omega)).mp c_40
              refine ps_st (S' := (50, [], [.int (-1)], M)) rfl rfl rfl ?_
              exact ps_ret rfl rfl (Or.inl ⟨ty_1 hbr (by omega), rfl, rfl⟩)
            · have c_40 : ¬ (255 < ((nI k) - (nI a))) := of_decide_eq_false c_40
              have n_40 : ¬ (255 + a < k) := fun h8 => c_40 ((lt_sub1 (e := k) (p := a) (k := 255) (by omega) (by omega) (by omega)).mpr h8)
              refine ps_st (S' := (45, [(0, .ref m0), (1, .int (nI s)), (2, .int (nI a)), (3, .int (nI l.length)), (4, .int (nI k))], [.int (nI k)], M)) rfl rfl rfl ?_
              refine ps_st (S' := (46, [(0, .ref m0), (1, .int (nI s)), (2, .int (nI a)), (3, .int (nI l.length)), (4, .int (nI k))], [.int (nI l.length), .int (nI k)], M)) rfl rfl rfl ?_
              refine ps_if2 (S1 := (51, [(0, .ref m0), (1, .int (nI s)), (2, .int (nI a)), (3, .int (nI l.length)), (4, .int (nI k))], [], M)) (S2 := (49, [], [], M)) rfl rfl rfl (fun c_46 => ?_) (fun c_46 => ?_)
              · have c_46 : (nI k) < (nI l.length) := of_decide_eq_true c_46
                have n_46 : k < l.length := (lt_nI (p := k) (n := l.length) (by omega) (by omega)).mp c_46
                refine ps_st (S' := (52, [(0, .ref m0), (1, .int (nI s)), (2, .int (nI a)), (3, .int (nI l.length)), (4, .int (nI k))], [.ref m0], M)) rfl rfl rfl ?_
                refine ps_st (S' := (53, [(0, .ref m0), (1, .int (nI s)), (2, .int (nI a)), (3, .int (nI l.length)), (4, .int (nI k))], [.int (nI s), .ref m0], M)) rfl rfl rfl ?_
                refine ps_st (S' := (55, [(0, .ref m0), (1, .int (nI s)), (2, .int (nI a)), (3, .int (nI l.length)), (4, .int (nI k))], [.int (nI k), .int (nI s), .ref m0], M)) rfl rfl rfl ?_
                refine pl_call (a := [.ref m0, .int (nI s), .int (nI k)]) (rest := []) rfl rfl rfl (rd_at (tx := tx) (cN := cN) (A := A) (s := s) (l := l) (k := k) hR hY (hs) (by omega)) (fun v7 M8 q9 => ?_)
                obtain ⟨rfl, rfl⟩ := q9
                show pl _ _ _ (58, [(0, .ref m0), (1, .int (nI s)), (2, .int (nI a)), (3, .int (nI l.length)), (4, .int (nI k))], [.int (nI (l.getD k 0))], M) _
                have hc_55 := hY.ch hs (k := k) (by omega)
                refine ps_st (S' := (60, [(5, .int (nI (l.getD k 0))), (0, .ref m0), (1, .int (nI s)), (2, .int (nI a)), (3, .int (nI l.length)), (4, .int (nI k))], [], M)) rfl rfl rfl ?_
                refine ps_st (S' := (62, [(5, .int (nI (l.getD k 0))), (0, .ref m0), (1, .int (nI s)), (2, .int (nI a)), (3, .int (nI l.length)), (4, .int (nI k))], [.int (nI (l.getD k 0))], M)) rfl rfl rfl ?_
                refine ps_st (S' := (64, [(5, .int (nI (l.getD k 0))), (0, .ref m0), (1, .int (nI s)), (2, .int (nI a)), (3, .int (nI l.length)), (4, .int (nI k))], [.int 66, .int (nI (l.getD k 0))], M)) rfl rfl rfl ?_
                refine ps_if2 (S1 := (116, [(4, .int (nI k))], [], M)) (S2 := (67, [(5, .int (nI (l.getD k 0))), (0, .ref m0), (1, .int (nI s)), (2, .int (nI a)), (3, .int (nI l.length)), (4, .int (nI k))], [], M)) rfl rfl rfl (fun c_64 => ?_) (fun c_64 => ?_)
                · have c_64 : (nI (l.getD k 0)) = 66 := of_decide_eq_true c_64
                  have n_64 : l.getD k 0 = 66 := (eq_nI (p := l.getD k 0) (n := 66) (by omega) (by decide)).mp c_64
                  refine ps_st (S' := (118, [(4, .int (nI k))], [.int (nI k)], M)) rfl rfl rfl ?_
                  refine ps_st (S' := (119, [(4, .int (nI k))], [.int 1, .int (nI k)], M)) rfl rfl rfl ?_
                  refine ps_st (S' := (120, [(4, .int (nI k))], [.int ((nI k) + 1)], M)) rfl rfl rfl ?_
                  rw [nI_add1 (p := k) (k := 1) (x := 1) rfl (by omega)]
                  show pl _ _ _ (_, [(4, .int (nI k))], [.int (nI (k + 1))], M) _
                  exact ps_reti rfl (Or.inr ⟨k + 1, ty_p hbr (by omega) (by omega), by omega, rfl, rfl⟩)
                · have c_64 : ¬ ((nI (l.getD k 0)) = 66) := of_decide_eq_false c_64
                  have n_64 : ¬ (l.getD k 0 = 66) := fun h9 => c_64 ((eq_nI (p := l.getD k 0) (n := 66) (by omega) (by decide)).mpr h9)
                  refine ps_st (S' := (69, [(5, .int (nI (l.getD k 0))), (0, .ref m0), (1, .int (nI s)), (2, .int (nI a)), (3, .int (nI l.length)), (4, .int (nI k))], [.int (nI (l.getD k 0))], M)) rfl rfl rfl ?_
                  refine ps_st (S' := (71, [(5, .int (nI (l.getD k 0))), (0, .ref m0), (1, .int (nI s)), (2, .int (nI a)), (3, .int (nI l.length)), (4, .int (nI k))], [.int 67, .int (nI (l.getD k 0))], M)) rfl rfl rfl ?_
                  refine ps_if2 (S1 := (116, [(4, .int (nI k))], [], M)) (S2 := (74, [(5, .int (nI (l.getD k 0))), (0, .ref m0), (1, .int (nI s)), (2, .int (nI a)), (3, .int (nI l.length)), (4, .int (nI k))], [], M)) rfl rfl rfl (fun c_71 => ?_) (fun c_71 => ?_)
                  · have c_71 : (nI (l.getD k 0)) = 67 := of_decide_eq_true c_71
                    have n_71 : l.getD k 0 = 67 := (eq_nI (p := l.getD k 0) (n := 67) (by omega) (by decide)).mp c_71
                    refine ps_st (S' := (118, [(4, .int (nI k))], [.int (nI k)], M)) rfl rfl rfl ?_
                    refine ps_st (S' := (119, [(4, .int (nI k))], [.int 1, .int (nI k)], M)) rfl rfl rfl ?_
                    refine ps_st (S' := (120, [(4, .int (nI k))], [.int ((nI k) + 1)], M)) rfl rfl rfl ?_
                    rw [nI_add1 (p := k) (k := 1) (x := 1) rfl (by omega)]
                    show pl _ _ _ (_, [(4, .int (nI k))], [.int (nI (k + 1))], M) _
                    exact ps_reti rfl (Or.inr ⟨k + 1, ty_p hbr (by omega) (by omega), by omega, rfl, rfl⟩)
                  · have c_71 : ¬ ((nI (l.getD k 0)) = 67) := of_decide_eq_false c_71
                    have n_71 : ¬ (l.getD k 0 = 67) := fun h9 => c_71 ((eq_nI (p := l.getD k 0) (n := 67) (by omega) (by decide)).mpr h9)
                    refine ps_st (S' := (76, [(5, .int (nI (l.getD k 0))), (0, .ref m0), (1, .int (nI s)), (2, .int (nI a)), (3, .int (nI l.length)), (4, .int (nI k))], [.int (nI (l.getD k 0))], M)) rfl rfl rfl ?_
                    refine ps_st (S' := (78, [(5, .int (nI (l.getD k 0))), (0, .ref m0), (1, .int (nI s)), (2, .int (nI a)), (3, .int (nI l.length)), (4, .int (nI k))], [.int 68, .int (nI (l.getD k 0))], M)) rfl rfl rfl ?_
                    refine ps_if2 (S1 := (116, [(4, .int (nI k))], [], M)) (S2 := (81, [(5, .int (nI (l.getD k 0))), (0, .ref m0), (1, .int (nI s)), (2, .int (nI a)), (3, .int (nI l.length)), (4, .int (nI k))], [], M)) rfl rfl rfl (fun c_78 => ?_) (fun c_78 => ?_)
                    · have c_78 : (nI (l.getD k 0)) = 68 := of_decide_eq_true c_78
                      have n_78 : l.getD k 0 = 68 := (eq_nI (p := l.getD k 0) (n := 68) (by omega) (by decide)).mp c_78
                      refine ps_st (S' := (118, [(4, .int (nI k))], [.int (nI k)], M)) rfl rfl rfl ?_
                      refine ps_st (S' := (119, [(4, .int (nI k))], [.int 1, .int (nI k)], M)) rfl rfl rfl ?_
                      refine ps_st (S' := (120, [(4, .int (nI k))], [.int ((nI k) + 1)], M)) rfl rfl rfl ?_
                      rw [nI_add1 (p := k) (k := 1) (x := 1) rfl (by omega)]
                      show pl _ _ _ (_, [(4, .int (nI k))], [.int (nI (k + 1))], M) _
                      exact ps_reti rfl (Or.inr ⟨k + 1, ty_p hbr (by omega) (by omega), by omega, rfl, rfl⟩)
                    · have c_78 : ¬ ((nI (l.getD k 0)) = 68) := of_decide_eq_false c_78
                      have n_78 : ¬ (l.getD k 0 = 68) := fun h9 => c_78 ((eq_nI (p := l.getD k 0) (n := 68) (by omega) (by decide)).mpr h9)
                      refine ps_st (S' := (83, [(5, .int (nI (l.getD k 0))), (0, .ref m0), (1, .int (nI s)), (2, .int (nI a)), (3, .int (nI l.length)), (4, .int (nI k))], [.int (nI (l.getD k 0))], M)) rfl rfl rfl ?_
                      refine ps_st (S' := (85, [(5, .int (nI (l.getD k 0))), (0, .ref m0), (1, .int (nI s)), (2, .int (nI a)), (3, .int (nI l.length)), (4, .int (nI k))], [.int 70, .int (nI (l.getD k 0))], M)) rfl rfl rfl ?_
                      refine ps_if2 (S1 := (116, [(4, .int (nI k))], [], M)) (S2 := (88, [(5, .int (nI (l.getD k 0))), (0, .ref m0), (1, .int (nI s)), (2, .int (nI a)), (3, .int (nI l.length)), (4, .int (nI k))], [], M)) rfl rfl rfl (fun c_85 => ?_) (fun c_85 => ?_)
                      · have c_85 : (nI (l.getD k 0)) = 70 := of_decide_eq_true c_85
                        have n_85 : l.getD k 0 = 70 := (eq_nI (p := l.getD k 0) (n := 70) (by omega) (by decide)).mp c_85
                        refine ps_st (S' := (118, [(4, .int (nI k))], [.int (nI k)], M)) rfl rfl rfl ?_
                        refine ps_st (S' := (119, [(4, .int (nI k))], [.int 1, .int (nI k)], M)) rfl rfl rfl ?_
                        refine ps_st (S' := (120, [(4, .int (nI k))], [.int ((nI k) + 1)], M)) rfl rfl rfl ?_
                        rw [nI_add1 (p := k) (k := 1) (x := 1) rfl (by omega)]
                        show pl _ _ _ (_, [(4, .int (nI k))], [.int (nI (k + 1))], M) _
                        exact ps_reti rfl (Or.inr ⟨k + 1, ty_p hbr (by omega) (by omega), by omega, rfl, rfl⟩)
                      · have c_85 : ¬ ((nI (l.getD k 0)) = 70) := of_decide_eq_false c_85
                        have n_85 : ¬ (l.getD k 0 = 70) := fun h9 => c_85 ((eq_nI (p := l.getD k 0) (n := 70) (by omega) (by decide)).mpr h9)
                        refine ps_st (S' := (90, [(5, .int (nI (l.getD k 0))), (0, .ref m0), (1, .int (nI s)), (2, .int (nI a)), (3, .int (nI l.length)), (4, .int (nI k))], [.int (nI (l.getD k 0))], M)) rfl rfl rfl ?_
                        refine ps_st (S' := (92, [(5, .int (nI (l.getD k 0))), (0, .ref m0), (1, .int (nI s)), (2, .int (nI a)), (3, .int (nI l.length)), (4, .int (nI k))], [.int 73, .int (nI (l.getD k 0))], M)) rfl rfl rfl ?_
                        refine ps_if2 (S1 := (116, [(4, .int (nI k))], [], M)) (S2 := (95, [(5, .int (nI (l.getD k 0))), (0, .ref m0), (1, .int (nI s)), (2, .int (nI a)), (3, .int (nI l.length)), (4, .int (nI k))], [], M)) rfl rfl rfl (fun c_92 => ?_) (fun c_92 => ?_)
                        · have c_92 : (nI (l.getD k 0)) = 73 := of_decide_eq_true c_92
                          have n_92 : l.getD k 0 = 73 := (eq_nI (p := l.getD k 0) (n := 73) (by omega) (by decide)).mp c_92
                          refine ps_st (S' := (118, [(4, .int (nI k))], [.int (nI k)], M)) rfl rfl rfl ?_
                          refine ps_st (S' := (119, [(4, .int (nI k))], [.int 1, .int (nI k)], M)) rfl rfl rfl ?_
                          refine ps_st (S' := (120, [(4, .int (nI k))], [.int ((nI k) + 1)], M)) rfl rfl rfl ?_
                          rw [nI_add1 (p := k) (k := 1) (x := 1) rfl (by omega)]
                          show pl _ _ _ (_, [(4, .int (nI k))], [.int (nI (k + 1))], M) _
                          exact ps_reti rfl (Or.inr ⟨k + 1, ty_p hbr (by omega) (by omega), by omega, rfl, rfl⟩)
                        · have c_92 : ¬ ((nI (l.getD k 0)) = 73) := of_decide_eq_false c_92
                          have n_92 : ¬ (l.getD k 0 = 73) := fun h9 => c_92 ((eq_nI (p := l.getD k 0) (n := 73) (by omega) (by decide)).mpr h9)
                          refine ps_st (S' := (97, [(5, .int (nI (l.getD k 0))), (0, .ref m0), (1, .int (nI s)), (2, .int (nI a)), (3, .int (nI l.length)), (4, .int (nI k))], [.int (nI (l.getD k 0))], M)) rfl rfl rfl ?_
                          refine ps_st (S' := (99, [(5, .int (nI (l.getD k 0))), (0, .ref m0), (1, .int (nI s)), (2, .int (nI a)), (3, .int (nI l.length)), (4, .int (nI k))], [.int 74, .int (nI (l.getD k 0))], M)) rfl rfl rfl ?_
                          refine ps_if2 (S1 := (116, [(4, .int (nI k))], [], M)) (S2 := (102, [(5, .int (nI (l.getD k 0))), (0, .ref m0), (1, .int (nI s)), (2, .int (nI a)), (3, .int (nI l.length)), (4, .int (nI k))], [], M)) rfl rfl rfl (fun c_99 => ?_) (fun c_99 => ?_)
                          · have c_99 : (nI (l.getD k 0)) = 74 := of_decide_eq_true c_99
                            have n_99 : l.getD k 0 = 74 := (eq_nI (p := l.getD k 0) (n := 74) (by omega) (by decide)).mp c_99
                            refine ps_st (S' := (118, [(4, .int (nI k))], [.int (nI k)], M)) rfl rfl rfl ?_
                            refine ps_st (S' := (119, [(4, .int (nI k))], [.int 1, .int (nI k)], M)) rfl rfl rfl ?_
                            refine ps_st (S' := (120, [(4, .int (nI k))], [.int ((nI k) + 1)], M)) rfl rfl rfl ?_
                            rw [nI_add1 (p := k) (k := 1) (x := 1) rfl (by omega)]
                            show pl _ _ _ (_, [(4, .int (nI k))], [.int (nI (k + 1))], M) _
                            exact ps_reti rfl (Or.inr ⟨k + 1, ty_p hbr (by omega) (by omega), by omega, rfl, rfl⟩)
                          · have c_99 : ¬ ((nI (l.getD k 0)) = 74) := of_decide_eq_false c_99
                            have n_99 : ¬ (l.getD k 0 = 74) := fun h9 => c_99 ((eq_nI (p := l.getD k 0) (n := 74) (by omega) (by decide)).mpr h9)
                            refine ps_st (S' := (104, [(5, .int (nI (l.getD k 0))), (0, .ref m0), (1, .int (nI s)), (2, .int (nI a)), (3, .int (nI l.length)), (4, .int (nI k))], [.int (nI (l.getD k 0))], M)) rfl rfl rfl ?_
                            refine ps_st (S' := (106, [(5, .int (nI (l.getD k 0))), (0, .ref m0), (1, .int (nI s)), (2, .int (nI a)), (3, .int (nI l.length)), (4, .int (nI k))], [.int 83, .int (nI (l.getD k 0))], M)) rfl rfl rfl ?_
                            refine ps_if2 (S1 := (116, [(4, .int (nI k))], [], M)) (S2 := (109, [(5, .int (nI (l.getD k 0))), (0, .ref m0), (1, .int (nI s)), (2, .int (nI a)), (3, .int (nI l.length)), (4, .int (nI k))], [], M)) rfl rfl rfl (fun c_106 => ?_) (fun c_106 => ?_)
                            · have c_106 : (nI (l.getD k 0)) = 83 := of_decide_eq_true c_106
                              have n_106 : l.getD k 0 = 83 := (eq_nI (p := l.getD k 0) (n := 83) (by omega) (by decide)).mp c_106
                              refine ps_st (S' := (118, [(4, .int (nI k))], [.int (nI k)], M)) rfl rfl rfl ?_
                              refine ps_st (S' := (119, [(4, .int (nI k))], [.int 1, .int (nI k)], M)) rfl rfl rfl ?_
                              refine ps_st (S' := (120, [(4, .int (nI k))], [.int ((nI k) + 1)], M)) rfl rfl rfl ?_
                              rw [nI_add1 (p := k) (k := 1) (x := 1) rfl (by omega)]
                              show pl _ _ _ (_, [(4, .int (nI k))], [.int (nI (k + 1))], M) _
                              exact ps_reti rfl (Or.inr ⟨k + 1, ty_p hbr (by omega) (by omega), by omega, rfl, rfl⟩)
                            · have c_106 : ¬ ((nI (l.getD k 0)) = 83) := of_decide_eq_false c_106
                              have n_106 : ¬ (l.getD k 0 = 83) := fun h9 => c_106 ((eq_nI (p := l.getD k 0) (n := 83) (by omega) (by decide)).mpr h9)
                              refine ps_st (S' := (111, [(5, .int (nI (l.getD k 0))), (0, .ref m0), (1, .int (nI s)), (2, .int (nI a)), (3, .int (nI l.length)), (4, .int (nI k))], [.int (nI (l.getD k 0))], M)) rfl rfl rfl ?_
                              refine ps_st (S' := (113, [(5, .int (nI (l.getD k 0))), (0, .ref m0), (1, .int (nI s)), (2, .int (nI a)), (3, .int (nI l.length)), (4, .int (nI k))], [.int 90, .int (nI (l.getD k 0))], M)) rfl rfl rfl ?_
                              refine ps_if2 (S1 := (121, [(5, .int (nI (l.getD k 0))), (0, .ref m0), (1, .int (nI s)), (2, .int (nI a)), (3, .int (nI l.length)), (4, .int (nI k))], [], M)) (S2 := (116, [(4, .int (nI k))], [], M)) rfl rfl rfl (fun c_113 => ?_) (fun c_113 => ?_)
                              · have c_113 : ¬ (nI (l.getD k 0)) = 90 := of_decide_eq_true c_113
                                have n_113 : ¬ (l.getD k 0 = 90) := fun h9 => c_113 ((eq_nI (p := l.getD k 0) (n := 90) (by omega) (by decide)).mpr h9)
                                refine ps_st (S' := (123, [(5, .int (nI (l.getD k 0))), (0, .ref m0), (1, .int (nI s)), (2, .int (nI a)), (3, .int (nI l.length)), (4, .int (nI k))], [.int (nI (l.getD k 0))], M)) rfl rfl rfl ?_
                                refine ps_st (S' := (125, [(5, .int (nI (l.getD k 0))), (0, .ref m0), (1, .int (nI s)), (2, .int (nI a)), (3, .int (nI l.length)), (4, .int (nI k))], [.int 76, .int (nI (l.getD k 0))], M)) rfl rfl rfl ?_
                                refine ps_if2 (S1 := (130, [(5, .int (nI (l.getD k 0))), (0, .ref m0), (1, .int (nI s)), (2, .int (nI a)), (3, .int (nI l.length)), (4, .int (nI k))], [], M)) (S2 := (128, [(5, .int (nI (l.getD k 0))), (0, .ref m0), (1, .int (nI s)), (2, .int (nI a)), (3, .int (nI l.length)), (4, .int (nI k))], [], M)) rfl rfl rfl (fun c_125 => ?_) (fun c_125 => ?_)
                                · have c_125 : (nI (l.getD k 0)) = 76 := of_decide_eq_true c_125
                                  have n_125 : l.getD k 0 = 76 := (eq_nI (p := l.getD k 0) (n := 76) (by omega) (by decide)).mp c_125
                                  refine ps_st (S' := (132, [(5, .int (nI (l.getD k 0))), (0, .ref m0), (1, .int (nI s)), (2, .int (nI a)), (3, .int (nI l.length)), (4, .int (nI k))], [.int (nI k)], M)) rfl rfl rfl ?_
                                  refine ps_st (S' := (133, [(5, .int (nI (l.getD k 0))), (0, .ref m0), (1, .int (nI s)), (2, .int (nI a)), (3, .int (nI l.length)), (4, .int (nI k))], [.int 1, .int (nI k)], M)) rfl rfl rfl ?_
                                  refine ps_st (S' := (134, [(5, .int (nI (l.getD k 0))), (0, .ref m0), (1, .int (nI s)), (2, .int (nI a)), (3, .int (nI l.length)), (4, .int (nI k))], [.int ((nI k) + 1)], M)) rfl rfl rfl ?_
                                  rw [nI_add1 (p := k) (k := 1) (x := 1) rfl (by omega)]
                                  show pl _ _ _ (_, [(5, .int (nI (l.getD k 0))), (0, .ref m0), (1, .int (nI s)), (2, .int (nI a)), (3, .int (nI l.length)), (4, .int (nI k))], [.int (nI (k + 1))], M) _
                                  refine ps_st (S' := (136, [(0, .ref m0), (1, .int (nI s)), (3, .int (nI l.length)), (4, .int (nI k)), (6, .int (nI (k + 1)))], [], M)) rfl rfl rfl ?_
                                  exact ih.2 (k) (k + 1)  (by omega) (hbr) (by omega) (by omega) (by omega) (fun j a b => by omega)
                                · have c_125 : ¬ ((nI (l.getD k 0)) = 76) := of_decide_eq_false c_125
                                  have n_125 : ¬ (l.getD k 0 = 76) := fun h9 => c_125 ((eq_nI (p := l.getD k 0) (n := 76) (by omega) (by decide)).mpr h9)
                                  refine ps_st (S' := (129, [(5, .int (nI (l.getD k 0))), (0, .ref m0), (1, .int (nI s)), (2, .int (nI a)), (3, .int (nI l.length)), (4, .int (nI k))], [.int (-1)], M)) rfl rfl rfl ?_
                                  exact ps_ret rfl rfl (Or.inl ⟨ty_o hbr (by omega) (by omega) (by omega), rfl, rfl⟩)
                              · have c_113 : ¬ (¬ (nI (l.getD k 0)) = 90) := of_decide_eq_false c_113
                                have n_113 : l.getD k 0 = 90 := (eq_nI (p := l.getD k 0) (n := 90) (by omega) (by decide)).mp (Decidable.not_not.mp c_113)
                                refine ps_st (S' := (118, [(4, .int (nI k))], [.int (nI k)], M)) rfl rfl rfl ?_
                                refine ps_st (S' := (119, [(4, .int (nI k))], [.int 1, .int (nI k)], M)) rfl rfl rfl ?_
                                refine ps_st (S' := (120, [(4, .int (nI k))], [.int ((nI k) + 1)], M)) rfl rfl rfl ?_
                                rw [nI_add1 (p := k) (k := 1) (x := 1) rfl (by omega)]
                                show pl _ _ _ (_, [(4, .int (nI k))], [.int (nI (k + 1))], M) _
                                exact ps_reti rfl (Or.inr ⟨k + 1, ty_p hbr (by omega) (by omega), by omega, rfl, rfl⟩)
              · have c_46 : ¬ ((nI k) < (nI l.length)) := of_decide_eq_false c_46
                have n_46 : ¬ (k < l.length) := fun h9 => c_46 ((lt_nI (p := k) (n := l.length) (by omega) (by omega)).mpr h9)
                refine ps_st (S' := (50, [], [.int (-1)], M)) rfl rfl rfl ?_
                exact ps_ret rfl rfl (Or.inl ⟨ty_1 hbr (by omega), rfl, rfl⟩)
          · have c_24 : ¬ (¬ (nI (l.getD k 0)) = 91) := of_decide_eq_false c_24
            have n_24 : l.getD k 0 = 91 := (eq_nI (p := l.getD k 0) (n := 91) (by omega) (by decide)).mp (Decidable.not_not.mp c_24)
            refine ps_st (S' := (30, [(4, .int ((nI k) + 1)), (0, .ref m0), (1, .int (nI s)), (2, .int (nI a)), (3, .int (nI l.length))], [], M)) rfl rfl rfl ?_
            rw [nI_add1 (p := k) (k := 1) (x := 1) rfl (by omega)]
            show pl _ _ _ (_, [(4, .int (nI (k + 1))), (0, .ref m0), (1, .int (nI s)), (2, .int (nI a)), (3, .int (nI l.length))], [], M) _
            refine ps_st (S' := (9, [(0, .ref m0), (1, .int (nI s)), (2, .int (nI a)), (3, .int (nI l.length)), (4, .int (nI (k + 1)))], [], M)) rfl rfl rfl ?_
            exact ih.1 (k + 1)  (by omega) (by
                rw [← hb, br_st (k := k) (by omega), if_pos (by omega)])
      · skip
        intro k e hak hbr hnb hL hke hno
        refine ps_st1 (S' := (138, [(0, .ref m0), (1, .int (nI s)), (3, .int (nI l.length)), (4, .int (nI k)), (6, .int (nI e))], [.int (nI e)], M)) rfl rfl rfl ?_
        refine ps_st (S' := (139, [(0, .ref m0), (1, .int (nI s)), (3, .int (nI l.length)), (4, .int (nI k)), (6, .int (nI e))], [.int (nI l.length), .int (nI e)], M)) rfl rfl rfl ?_
        refine ps_if2 (S1 := (160, [(0, .ref m0), (1, .int (nI s)), (3, .int (nI l.length)), (4, .int (nI k)), (6, .int (nI e))], [], M)) (S2 := (142, [(0, .ref m0), (1, .int (nI s)), (3, .int (nI l.length)), (4, .int (nI k)), (6, .int (nI e))], [], M)) rfl rfl rfl (fun c_139 => ?_) (fun c_139 => ?_)
        · have c_139 : (nI l.length) ≤ (nI e) := of_decide_eq_true c_139
          have n_139 : l.length ≤ e := (le_nI (p := l.length) (n := e) (by omega) (by omega)).mp c_139
          refine ps_st (S' := (162, [(0, .ref m0), (1, .int (nI s)), (3, .int (nI l.length)), (4, .int (nI k)), (6, .int (nI e))], [.int (nI e)], M)) rfl rfl rfl ?_
          refine ps_st (S' := (163, [(0, .ref m0), (1, .int (nI s)), (3, .int (nI l.length)), (4, .int (nI k)), (6, .int (nI e))], [.int (nI l.length), .int (nI e)], M)) rfl rfl rfl ?_
          refine ps_if2 (S1 := (187, [], [], M)) (S2 := (166, [(0, .ref m0), (1, .int (nI s)), (3, .int (nI l.length)), (4, .int (nI k)), (6, .int (nI e))], [], M)) rfl rfl rfl (fun c_163 => ?_) (fun c_163 => ?_)
          · have c_163 : (nI l.length) ≤ (nI e) := of_decide_eq_true c_163
            have n_163 : l.length ≤ e := (le_nI (p := l.length) (n := e) (by omega) (by omega)).mp c_163
            refine ps_st (S' := (188, [], [.int (-1)], M)) rfl rfl rfl ?_
            exact ps_ret rfl rfl (Or.inl ⟨ty_Ln hbr hnb hL (fun j h1 h2 => hno j h1 (by omega)), rfl, rfl⟩)
          · have c_163 : ¬ ((nI l.length) ≤ (nI e)) := of_decide_eq_false c_163
            have n_163 : ¬ (l.length ≤ e) := fun h9 => c_163 ((le_nI (p := l.length) (n := e) (by omega) (by omega)).mpr h9)
            refine ps_st (S' := (167, [(0, .ref m0), (1, .int (nI s)), (3, .int (nI l.length)), (4, .int (nI k)), (6, .int (nI e))], [.ref m0], M)) rfl rfl rfl ?_
            refine ps_st (S' := (168, [(0, .ref m0), (1, .int (nI s)), (3, .int (nI l.length)), (4, .int (nI k)), (6, .int (nI e))], [.int (nI s), .ref m0], M)) rfl rfl rfl ?_
            refine ps_st (S' := (170, [(0, .ref m0), (1, .int (nI s)), (3, .int (nI l.length)), (4, .int (nI k)), (6, .int (nI e))], [.int (nI k), .int (nI s), .ref m0], M)) rfl rfl rfl ?_
            refine ps_st (S' := (171, [(0, .ref m0), (1, .int (nI s)), (3, .int (nI l.length)), (4, .int (nI k)), (6, .int (nI e))], [.int 1, .int (nI k), .int (nI s), .ref m0], M)) rfl rfl rfl ?_
            refine ps_st (S' := (172, [(0, .ref m0), (1, .int (nI s)), (3, .int (nI l.length)), (4, .int (nI k)), (6, .int (nI e))], [.int ((nI k) + 1), .int (nI s), .ref m0], M)) rfl rfl rfl ?_
            rw [nI_add1 (p := k) (k := 1) (x := 1) rfl (by omega)]
            show pl _ _ _ (_, [(0, .ref m0), (1, .int (nI s)), (3, .int (nI l.length)), (4, .int (nI k)), (6, .int (nI e))], [.int (nI (k + 1)), .int (nI s), .ref m0], M) _
            refine ps_st (S' := (174, [(0, .ref m0), (1, .int (nI s)), (3, .int (nI l.length)), (4, .int (nI k)), (6, .int (nI e))], [.int (nI e), .int (nI (k + 1)), .int (nI s), .ref m0], M)) rfl rfl rfl ?_
            refine pl_call (a := [.ref m0, .int (nI s), .int (nI (k + 1)), .int (nI e)]) (rest := []) rfl rfl rfl (rd_nameText (tx := tx) (cN := cN) (A := A) (s := s) (l := l) (a := (k + 1)) (e := e) hR hY (hs) (by omega)) (fun v10 M11 q12 => ?_)
            obtain ⟨rfl, rfl⟩ := q12
            show pl _ _ _ (177, [(0, .ref m0), (1, .int (nI s)), (3, .int (nI l.length)), (4, .int (nI k)), (6, .int (nI e))], [.int (nI (nmN (fun i => l.getD i 0) (k + 1) e))], M) _
            have hnb_174 := nmN_le (fun i => l.getD i 0) (k + 1) e
            refine ps_if (S1 := (187, [], [], M)) (S2 := (180, [(0, .ref m0), (1, .int (nI s)), (3, .int (nI l.length)), (4, .int (nI k)), (6, .int (nI e))], [], M)) rfl rfl rfl (fun c_177 => ?_) (fun c_177 => ?_)
            · have c_177 : (nI (nmN (fun i => l.getD i 0) (k + 1) e)) = 0 := of_decide_eq_true c_177
              have n_177 : nmN (fun i => l.getD i 0) (k + 1) e = 0 := (eq_nI (p := nmN (fun i => l.getD i 0) (k + 1) e) (n := 0) (by omega) (by decide)).mp c_177
              refine ps_st (S' := (188, [], [.int (-1)], M)) rfl rfl rfl ?_
              exact ps_ret rfl rfl (Or.inl ⟨by
                  rw [ty_Ls (e := e) hbr hnb hL (by omega) (by omega) (by omega) hno, if_pos (by omega)], rfl, rfl⟩)
            · have c_177 : ¬ ((nI (nmN (fun i => l.getD i 0) (k + 1) e)) = 0) := of_decide_eq_false c_177
              have n_177 : ¬ (nmN (fun i => l.getD i 0) (k + 1) e = 0) := fun h9 => c_177 ((eq_nI (p := nmN (fun i => l.getD i 0) (k + 1) e) (n := 0) (by omega) (by decide)).mpr h9)
              refine ps_st (S' := (182, [(0, .ref m0), (1, .int (nI s)), (3, .int (nI l.length)), (4, .int (nI k)), (6, .int (nI e))], [.int (nI e)], M)) rfl rfl rfl ?_
              refine ps_st (S' := (183, [(0, .ref m0), (1, .int (nI s)), (3, .int (nI l.length)), (4, .int (nI k)), (6, .int (nI e))], [.int 1, .int (nI e)], M)) rfl rfl rfl ?_
              refine ps_st (S' := (184, [(0, .ref m0), (1, .int (nI s)), (3, .int (nI l.length)), (4, .int (nI k)), (6, .int (nI e))], [.int ((nI e) + 1)], M)) rfl rfl rfl ?_
              rw [nI_add1 (p := e) (k := 1) (x := 1) rfl (by omega)]
              show pl _ _ _ (_, [(0, .ref m0), (1, .int (nI s)), (3, .int (nI l.length)), (4, .int (nI k)), (6, .int (nI e))], [.int (nI (e + 1))], M) _
              refine ps_st (S' := (188, [], [.int (nI (e + 1))], M)) rfl rfl rfl ?_
              exact ps_reti rfl (Or.inr ⟨e + 1, by
                  rw [ty_Ls (e := e) hbr hnb hL (by omega) (by omega) (by omega) hno, if_neg (by omega)], by omega, rfl, rfl⟩)
        · have c_139 : ¬ ((nI l.length) ≤ (nI e)) := of_decide_eq_false c_139
          have n_139 : ¬ (l.length ≤ e) := fun h9 => c_139 ((le_nI (p := l.length) (n := e) (by omega) (by omega)).mpr h9)
          refine ps_st (S' := (143, [(0, .ref m0), (1, .int (nI s)), (3, .int (nI l.length)), (4, .int (nI k)), (6, .int (nI e))], [.ref m0], M)) rfl rfl rfl ?_
          refine ps_st (S' := (144, [(0, .ref m0), (1, .int (nI s)), (3, .int (nI l.length)), (4, .int (nI k)), (6, .int (nI e))], [.int (nI s), .ref m0], M)) rfl rfl rfl ?_
          refine ps_st (S' := (146, [(0, .ref m0), (1, .int (nI s)), (3, .int (nI l.length)), (4, .int (nI k)), (6, .int (nI e))], [.int (nI e), .int (nI s), .ref m0], M)) rfl rfl rfl ?_
          refine pl_call (a := [.ref m0, .int (nI s), .int (nI e)]) (rest := []) rfl rfl rfl (rd_at (tx := tx) (cN := cN) (A := A) (s := s) (l := l) (k := e) hR hY (hs) (by omega)) (fun v13 M14 q15 => ?_)
          obtain ⟨rfl, rfl⟩ := q15
          show pl _ _ _ (149, [(0, .ref m0), (1, .int (nI s)), (3, .int (nI l.length)), (4, .int (nI k)), (6, .int (nI e))], [.int (nI (l.getD e 0))], M) _
          have hc_146 := hY.ch hs (k := e) (by omega)
          refine ps_st (S' := (151, [(0, .ref m0), (1, .int (nI s)), (3, .int (nI l.length)), (4, .int (nI k)), (6, .int (nI e))], [.int 59, .int (nI (l.getD e 0))], M)) rfl rfl rfl ?_
          refine ps_if2 (S1 := (160, [(0, .ref m0), (1, .int (nI s)), (3, .int (nI l.length)), (4, .int (nI k)), (6, .int (nI e))], [], M)) (S2 := (154, [(0, .ref m0), (1, .int (nI s)), (3, .int (nI l.length)), (4, .int (nI k)), (6, .int (nI e))], [], M)) rfl rfl rfl (fun c_151 => ?_) (fun c_151 => ?_)
          · have c_151 : (nI (l.getD e 0)) = 59 := of_decide_eq_true c_151
            have n_151 : l.getD e 0 = 59 := (eq_nI (p := l.getD e 0) (n := 59) (by omega) (by decide)).mp c_151
            refine ps_st (S' := (162, [(0, .ref m0), (1, .int (nI s)), (3, .int (nI l.length)), (4, .int (nI k)), (6, .int (nI e))], [.int (nI e)], M)) rfl rfl rfl ?_
            refine ps_st (S' := (163, [(0, .ref m0), (1, .int (nI s)), (3, .int (nI l.length)), (4, .int (nI k)), (6, .int (nI e))], [.int (nI l.length), .int (nI e)], M)) rfl rfl rfl ?_
            refine ps_if2 (S1 := (187, [], [], M)) (S2 := (166, [(0, .ref m0), (1, .int (nI s)), (3, .int (nI l.length)), (4, .int (nI k)), (6, .int (nI e))], [], M)) rfl rfl rfl (fun c_163 => ?_) (fun c_163 => ?_)
            · have c_163 : (nI l.length) ≤ (nI e) := of_decide_eq_true c_163
              have n_163 : l.length ≤ e := (le_nI (p := l.length) (n := e) (by omega) (by omega)).mp c_163
              refine ps_st (S' := (188, [], [.int (-1)], M)) rfl rfl rfl ?_
              exact ps_ret rfl rfl (Or.inl ⟨ty_Ln hbr hnb hL (fun j h1 h2 => hno j h1 (by omega)), rfl, rfl⟩)
            · have c_163 : ¬ ((nI l.length) ≤ (nI e)) := of_decide_eq_false c_163
              have n_163 : ¬ (l.length ≤ e) := fun h9 => c_163 ((le_nI (p := l.length) (n := e) (by omega) (by omega)).mpr h9)
              refine ps_st (S' := (167, [(0, .ref m0), (1, .int (nI s)), (3, .int (nI l.length)), (4, .int (nI k)), (6, .int (nI e))], [.ref m0], M)) rfl rfl rfl ?_
              refine ps_st (S' := (168, [(0, .ref m0), (1, .int (nI s)), (3, .int (nI l.length)), (4, .int (nI k)), (6, .int (nI e))], [.int (nI s), .ref m0], M)) rfl rfl rfl ?_
              refine ps_st (S' := (170, [(0, .ref m0), (1, .int (nI s)), (3, .int (nI l.length)), (4, .int (nI k)), (6, .int (nI e))], [.int (nI k), .int (nI s), .ref m0], M)) rfl rfl rfl ?_
              refine ps_st (S' := (171, [(0, .ref m0), (1, .int (nI s)), (3, .int (nI l.length)), (4, .int (nI k)), (6, .int (nI e))], [.int 1, .int (nI k), .int (nI s), .ref m0], M)) rfl rfl rfl ?_
              refine ps_st (S' := (172, [(0, .ref m0), (1, .int (nI s)), (3, .int (nI l.length)), (4, .int (nI k)), (6, .int (nI e))], [.int ((nI k) + 1), .int (nI s), .ref m0], M)) rfl rfl rfl ?_
              rw [nI_add1 (p := k) (k := 1) (x := 1) rfl (by omega)]
              show pl _ _ _ (_, [(0, .ref m0), (1, .int (nI s)), (3, .int (nI l.length)), (4, .int (nI k)), (6, .int (nI e))], [.int (nI (k + 1)), .int (nI s), .ref m0], M) _
              refine ps_st (S' := (174, [(0, .ref m0), (1, .int (nI s)), (3, .int (nI l.length)), (4, .int (nI k)), (6, .int (nI e))], [.int (nI e), .int (nI (k + 1)), .int (nI s), .ref m0], M)) rfl rfl rfl ?_
              refine pl_call (a := [.ref m0, .int (nI s), .int (nI (k + 1)), .int (nI e)]) (rest := []) rfl rfl rfl (rd_nameText (tx := tx) (cN := cN) (A := A) (s := s) (l := l) (a := (k + 1)) (e := e) hR hY (hs) (by omega)) (fun v16 M17 q18 => ?_)
              obtain ⟨rfl, rfl⟩ := q18
              show pl _ _ _ (177, [(0, .ref m0), (1, .int (nI s)), (3, .int (nI l.length)), (4, .int (nI k)), (6, .int (nI e))], [.int (nI (nmN (fun i => l.getD i 0) (k + 1) e))], M) _
              have hnb_174 := nmN_le (fun i => l.getD i 0) (k + 1) e
              refine ps_if (S1 := (187, [], [], M)) (S2 := (180, [(0, .ref m0), (1, .int (nI s)), (3, .int (nI l.length)), (4, .int (nI k)), (6, .int (nI e))], [], M)) rfl rfl rfl (fun c_177 => ?_) (fun c_177 => ?_)
              · have c_177 : (nI (nmN (fun i => l.getD i 0) (k + 1) e)) = 0 := of_decide_eq_true c_177
                have n_177 : nmN (fun i => l.getD i 0) (k + 1) e = 0 := (eq_nI (p := nmN (fun i => l.getD i 0) (k + 1) e) (n := 0) (by omega) (by decide)).mp c_177
                refine ps_st (S' := (188, [], [.int (-1)], M)) rfl rfl rfl ?_
                exact ps_ret rfl rfl (Or.inl ⟨by
                    rw [ty_Ls (e := e) hbr hnb hL (by omega) (by omega) (by omega) hno, if_pos (by omega)], rfl, rfl⟩)
              · have c_177 : ¬ ((nI (nmN (fun i => l.getD i 0) (k + 1) e)) = 0) := of_decide_eq_false c_177
                have n_177 : ¬ (nmN (fun i => l.getD i 0) (k + 1) e = 0) := fun h9 => c_177 ((eq_nI (p := nmN (fun i => l.getD i 0) (k + 1) e) (n := 0) (by omega) (by decide)).mpr h9)
                refine ps_st (S' := (182, [(0, .ref m0), (1, .int (nI s)), (3, .int (nI l.length)), (4, .int (nI k)), (6, .int (nI e))], [.int (nI e)], M)) rfl rfl rfl ?_
                refine ps_st (S' := (183, [(0, .ref m0), (1, .int (nI s)), (3, .int (nI l.length)), (4, .int (nI k)), (6, .int (nI e))], [.int 1, .int (nI e)], M)) rfl rfl rfl ?_
                refine ps_st (S' := (184, [(0, .ref m0), (1, .int (nI s)), (3, .int (nI l.length)), (4, .int (nI k)), (6, .int (nI e))], [.int ((nI e) + 1)], M)) rfl rfl rfl ?_
                rw [nI_add1 (p := e) (k := 1) (x := 1) rfl (by omega)]
                show pl _ _ _ (_, [(0, .ref m0), (1, .int (nI s)), (3, .int (nI l.length)), (4, .int (nI k)), (6, .int (nI e))], [.int (nI (e + 1))], M) _
                refine ps_st (S' := (188, [], [.int (nI (e + 1))], M)) rfl rfl rfl ?_
                exact ps_reti rfl (Or.inr ⟨e + 1, by
                    rw [ty_Ls (e := e) hbr hnb hL (by omega) (by omega) (by omega) hno, if_neg (by omega)], by omega, rfl, rfl⟩)
          · have c_151 : ¬ ((nI (l.getD e 0)) = 59) := of_decide_eq_false c_151
            have n_151 : ¬ (l.getD e 0 = 59) := fun h9 => c_151 ((eq_nI (p := l.getD e 0) (n := 59) (by omega) (by decide)).mpr h9)
            refine ps_st (S' := (157, [(6, .int ((nI e) + 1)), (0, .ref m0), (1, .int (nI s)), (3, .int (nI l.length)), (4, .int (nI k))], [], M)) rfl rfl rfl ?_
            rw [nI_add1 (p := e) (k := 1) (x := 1) rfl (by omega)]
            show pl _ _ _ (_, [(6, .int (nI (e + 1))), (0, .ref m0), (1, .int (nI s)), (3, .int (nI l.length)), (4, .int (nI k))], [], M) _
            refine ps_st (S' := (136, [(0, .ref m0), (1, .int (nI s)), (3, .int (nI l.length)), (4, .int (nI k)), (6, .int (nI (e + 1)))], [], M)) rfl rfl rfl ?_
            exact ih.2 (k) (e + 1)  (hak) (hbr) (hnb) (hL) (by omega) (by
                intro j h1 h2
                by_cases e9 : j = e
                · rw [e9]; exact n_151
                · exact hno j h1 (by omega))
  refine ps_st (S' := (1, [(0, .ref m0), (1, .int (nI s)), (2, .int (nI a))], [.ref m0], M)) rfl rfl rfl ?_
  refine ps_st (S' := (2, [(0, .ref m0), (1, .int (nI s)), (2, .int (nI a))], [.int (nI s), .ref m0], M)) rfl rfl rfl ?_
  refine pl_call (a := [.ref m0, .int (nI s)]) (rest := []) rfl rfl rfl (rd_length (tx := tx) (cN := cN) (A := A) (s := s) (l := l) hR hY (hs)) (fun v19 M20 q21 => ?_)
  obtain ⟨rfl, rfl⟩ := q21
  show pl _ _ _ (5, [(0, .ref m0), (1, .int (nI s)), (2, .int (nI a))], [.int (nI (l.length))], M) _
  refine ps_st (S' := (6, [(3, .int (nI (l.length))), (0, .ref m0), (1, .int (nI s)), (2, .int (nI a))], [], M)) rfl rfl rfl ?_
  refine ps_st (S' := (7, [(3, .int (nI (l.length))), (0, .ref m0), (1, .int (nI s)), (2, .int (nI a))], [.int (nI a)], M)) rfl rfl rfl ?_
  refine ps_st (S' := (9, [(0, .ref m0), (1, .int (nI s)), (2, .int (nI a)), (3, .int (nI (l.length))), (4, .int (nI a))], [], M)) rfl rfl rfl ?_
  exact (LL kf).1 (a)  (by omega) (rfl)
set_option maxHeartbeats 1000000 in
theorem rd_isField {g : xe_G} {m0 : Nat} {q : Nat → Nat} {z : Nat × Nat} {I : rI} {R : rR} {M : mi_H} {tx : List (List Nat)} {cN : Nat} {A : Nat → Nat} {s : Nat} {l : List Nat} (hR : RS g m0 q z I R M)  (hY : SYT tx cN A I R) (hs : s < tx.length ∧ tx.getD s [] = l) : pt (mT g) 217 [.ref m0, .int (nI s)] M (fun v M' => (v = some (.int (nI (fldN l))) ∧ M = M')) := by
  refine pt_in (b := mb_217 g) rfl (fun kf => ?_)
  show pl (mT g) kf (mb_217 g).2 (0, [(0, .ref m0), (1, .int (nI s))], [], M) _
  have hln := hY.ln hs
  have hts := hY.1.2.2
  refine ps_st (S' := (1, [(0, .ref m0), (1, .int (nI s))], [.ref m0], M)) rfl rfl rfl ?_
  refine ps_st (S' := (2, [(0, .ref m0), (1, .int (nI s))], [.int (nI s), .ref m0], M)) rfl rfl rfl ?_
  refine ps_st (S' := (3, [(0, .ref m0), (1, .int (nI s))], [.int 0, .int (nI s), .ref m0], M)) rfl rfl rfl ?_
  refine pl_call (a := [.ref m0, .int (nI s), .int 0]) (rest := []) rfl rfl rfl (rd_fieldText (tx := tx) (cN := cN) (A := A) (s := s) (l := l) (a := 0) hR hY (hs) (by omega)) (fun v1 M2 q3 => ?_)
  rcases q3 with q3 | q3
  · skip
    obtain ⟨q3_s, rfl, rfl⟩ := q3
    show pl _ _ _ (6, [(0, .ref m0), (1, .int (nI s))], [.int (-1)], M) _
    refine ps_st (S' := (7, [(0, .ref m0), (1, .int (nI s))], [.ref m0, .int (-1)], M)) rfl rfl rfl ?_
    refine ps_st (S' := (8, [(0, .ref m0), (1, .int (nI s))], [.int (nI s), .ref m0, .int (-1)], M)) rfl rfl rfl ?_
    refine pl_call (a := [.ref m0, .int (nI s)]) (rest := [.int (-1)]) rfl rfl rfl (rd_length (tx := tx) (cN := cN) (A := A) (s := s) (l := l) hR hY (hs)) (fun v4 M5 q6 => ?_)
    obtain ⟨rfl, rfl⟩ := q6
    show pl _ _ _ (11, [(0, .ref m0), (1, .int (nI s))], [.int (nI (l.length)), .int (-1)], M) _
    refine ps_if2 (S1 := (18, [(0, .ref m0), (1, .int (nI s))], [], M)) (S2 := (14, [(0, .ref m0), (1, .int (nI s))], [], M)) rfl rfl rfl (fun c_11 => ?_) (fun c_11 => ?_)
    rotate_left
    · exact absurd (m1_ne (by omega)) (of_decide_eq_false c_11)
    refine ps_st (S' := (19, [], [.int 0], M)) rfl rfl rfl ?_
    exact ps_ret rfl rfl (⟨congrArg (fun x => some (Value.int (nI x))) (show 0 = fldN l from by
        rw [fld_eq, if_neg (by rw [q3_s]; exact fun h => by cases h)]), rfl⟩)
  · skip
    obtain ⟨x7, q3_s, q3_l, rfl, rfl⟩ := q3
    show pl _ _ _ (6, [(0, .ref m0), (1, .int (nI s))], [.int (nI x7)], M) _
    refine ps_st (S' := (7, [(0, .ref m0), (1, .int (nI s))], [.ref m0, .int (nI x7)], M)) rfl rfl rfl ?_
    refine ps_st (S' := (8, [(0, .ref m0), (1, .int (nI s))], [.int (nI s), .ref m0, .int (nI x7)], M)) rfl rfl rfl ?_
    refine pl_call (a := [.ref m0, .int (nI s)]) (rest := [.int (nI x7)]) rfl rfl rfl (rd_length (tx := tx) (cN := cN) (A := A) (s := s) (l := l) hR hY (hs)) (fun v8 M9 q10 => ?_)
    obtain ⟨rfl, rfl⟩ := q10
    show pl _ _ _ (11, [(0, .ref m0), (1, .int (nI s))], [.int (nI (l.length)), .int (nI x7)], M) _
    refine ps_if2 (S1 := (18, [(0, .ref m0), (1, .int (nI s))], [], M)) (S2 := (14, [(0, .ref m0), (1, .int (nI s))], [], M)) rfl rfl rfl (fun c_11 => ?_) (fun c_11 => ?_)
    · have c_11 : ¬ (nI x7) = (nI (l.length)) := of_decide_eq_true c_11
      have n_11 : ¬ (x7 = l.length) := fun h9 => c_11 ((eq_nI (p := x7) (n := l.length) (by omega) (by omega)).mpr h9)
      refine ps_st (S' := (19, [], [.int 0], M)) rfl rfl rfl ?_
      exact ps_ret rfl rfl (⟨congrArg (fun x => some (Value.int (nI x))) (show 0 = fldN l from by
          rw [fld_eq, if_neg (by rw [q3_s]; exact fun h => n_11 (Option.some.inj h))]), rfl⟩)
    · have c_11 : ¬ (¬ (nI x7) = (nI (l.length))) := of_decide_eq_false c_11
      have n_11 : x7 = l.length := (eq_nI (p := x7) (n := l.length) (by omega) (by omega)).mp (Decidable.not_not.mp c_11)
      refine ps_st (S' := (15, [(0, .ref m0), (1, .int (nI s))], [.int 1], M)) rfl rfl rfl ?_
      refine ps_st (S' := (19, [], [.int 1], M)) rfl rfl rfl ?_
      exact ps_ret rfl rfl (⟨congrArg (fun x => some (Value.int (nI x))) (show 1 = fldN l from by
          rw [fld_eq, if_pos (by rw [q3_s, n_11])]), rfl⟩)
set_option maxHeartbeats 1000000 in
theorem rd_classText {g : xe_G} {m0 : Nat} {q : Nat → Nat} {z : Nat × Nat} {I : rI} {R : rR} {M : mi_H} {tx : List (List Nat)} {cN : Nat} {A : Nat → Nat} {s : Nat} {l : List Nat} (hR : RS g m0 q z I R M)  (hY : SYT tx cN A I R) (hs : s < tx.length ∧ tx.getD s [] = l) : pt (mT g) 194 [.ref m0, .int (nI s)] M (fun v M' => (v = some (.int (nI (clsN l))) ∧ M = M')) := by
  refine pt_in (b := mb_194 g) rfl (fun kf => ?_)
  show pl (mT g) kf (mb_194 g).2 (0, [(0, .ref m0), (1, .int (nI s))], [], M) _
  have hln := hY.ln hs
  have hts := hY.1.2.2
  refine ps_st (S' := (1, [(0, .ref m0), (1, .int (nI s))], [.ref m0], M)) rfl rfl rfl ?_
  refine ps_st (S' := (2, [(0, .ref m0), (1, .int (nI s))], [.int (nI s), .ref m0], M)) rfl rfl rfl ?_
  refine pl_call (a := [.ref m0, .int (nI s)]) (rest := []) rfl rfl rfl (rd_length (tx := tx) (cN := cN) (A := A) (s := s) (l := l) hR hY (hs)) (fun v1 M2 q3 => ?_)
  obtain ⟨rfl, rfl⟩ := q3
  show pl _ _ _ (5, [(0, .ref m0), (1, .int (nI s))], [.int (nI (l.length))], M) _
  refine ps_if (S1 := (41, [(0, .ref m0), (1, .int (nI s))], [], M)) (S2 := (8, [(0, .ref m0), (1, .int (nI s))], [], M)) rfl rfl rfl (fun c_5 => ?_) (fun c_5 => ?_)
  · have c_5 : (nI (l.length)) ≤ 0 := of_decide_eq_true c_5
    have n_5 : l.length ≤ 0 := (le_nI (p := l.length) (n := 0) (by omega) (by decide)).mp c_5
    refine ps_st (S' := (42, [(0, .ref m0), (1, .int (nI s))], [.ref m0], M)) rfl rfl rfl ?_
    refine ps_st (S' := (43, [(0, .ref m0), (1, .int (nI s))], [.int (nI s), .ref m0], M)) rfl rfl rfl ?_
    refine ps_st (S' := (44, [(0, .ref m0), (1, .int (nI s))], [.int 0, .int (nI s), .ref m0], M)) rfl rfl rfl ?_
    refine ps_st (S' := (45, [(0, .ref m0), (1, .int (nI s))], [.ref m0, .int 0, .int (nI s), .ref m0], M)) rfl rfl rfl ?_
    refine ps_st (S' := (46, [(0, .ref m0), (1, .int (nI s))], [.int (nI s), .ref m0, .int 0, .int (nI s), .ref m0], M)) rfl rfl rfl ?_
    refine pl_call (a := [.ref m0, .int (nI s)]) (rest := [.int 0, .int (nI s), .ref m0]) rfl rfl rfl (rd_length (tx := tx) (cN := cN) (A := A) (s := s) (l := l) hR hY (hs)) (fun v4 M5 q6 => ?_)
    obtain ⟨rfl, rfl⟩ := q6
    show pl _ _ _ (49, [(0, .ref m0), (1, .int (nI s))], [.int (nI (l.length)), .int 0, .int (nI s), .ref m0], M) _
    refine pl_call (a := [.ref m0, .int (nI s), .int 0, .int (nI (l.length))]) (rest := []) rfl rfl rfl (rd_nameText (tx := tx) (cN := cN) (A := A) (s := s) (l := l) (a := 0) (e := (l.length)) hR hY (hs) (by omega)) (fun v7 M8 q9 => ?_)
    obtain ⟨rfl, rfl⟩ := q9
    show pl _ _ _ (52, [], [.int (nI (nmN (fun i => l.getD i 0) 0 (l.length)))], M) _
    have hnb_49 := nmN_le (fun i => l.getD i 0) 0 (l.length)
    exact ps_reti rfl (⟨congrArg (fun x => some (Value.int (nI x))) (show nmN (fun i => l.getD i 0) 0 (l.length) = clsN l from by
        unfold clsN nmN
        rw [if_neg (show ¬ l.getD 0 0 = 91 by rw [List.getD_eq_getElem?_getD, List.getElem?_eq_none (by omega)]; decide)]
        rfl), rfl⟩)
  · have c_5 : ¬ ((nI (l.length)) ≤ 0) := of_decide_eq_false c_5
    have n_5 : ¬ (l.length ≤ 0) := fun h9 => c_5 ((le_nI (p := l.length) (n := 0) (by omega) (by decide)).mpr h9)
    refine ps_st (S' := (9, [(0, .ref m0), (1, .int (nI s))], [.ref m0], M)) rfl rfl rfl ?_
    refine ps_st (S' := (10, [(0, .ref m0), (1, .int (nI s))], [.int (nI s), .ref m0], M)) rfl rfl rfl ?_
    refine ps_st (S' := (11, [(0, .ref m0), (1, .int (nI s))], [.int 0, .int (nI s), .ref m0], M)) rfl rfl rfl ?_
    refine pl_call (a := [.ref m0, .int (nI s), .int 0]) (rest := []) rfl rfl rfl (rd_at (tx := tx) (cN := cN) (A := A) (s := s) (l := l) (k := 0) hR hY (hs) (by omega)) (fun v10 M11 q12 => ?_)
    obtain ⟨rfl, rfl⟩ := q12
    show pl _ _ _ (14, [(0, .ref m0), (1, .int (nI s))], [.int (nI (l.getD 0 0))], M) _
    have hc_11 := hY.ch hs (k := 0) (by omega)
    refine ps_st (S' := (16, [(0, .ref m0), (1, .int (nI s))], [.int 91, .int (nI (l.getD 0 0))], M)) rfl rfl rfl ?_
    refine ps_if2 (S1 := (41, [(0, .ref m0), (1, .int (nI s))], [], M)) (S2 := (19, [(0, .ref m0), (1, .int (nI s))], [], M)) rfl rfl rfl (fun c_16 => ?_) (fun c_16 => ?_)
    · have c_16 : ¬ (nI (l.getD 0 0)) = 91 := of_decide_eq_true c_16
      have n_16 : ¬ (l.getD 0 0 = 91) := fun h9 => c_16 ((eq_nI (p := l.getD 0 0) (n := 91) (by omega) (by decide)).mpr h9)
      refine ps_st (S' := (42, [(0, .ref m0), (1, .int (nI s))], [.ref m0], M)) rfl rfl rfl ?_
      refine ps_st (S' := (43, [(0, .ref m0), (1, .int (nI s))], [.int (nI s), .ref m0], M)) rfl rfl rfl ?_
      refine ps_st (S' := (44, [(0, .ref m0), (1, .int (nI s))], [.int 0, .int (nI s), .ref m0], M)) rfl rfl rfl ?_
      refine ps_st (S' := (45, [(0, .ref m0), (1, .int (nI s))], [.ref m0, .int 0, .int (nI s), .ref m0], M)) rfl rfl rfl ?_
      refine ps_st (S' := (46, [(0, .ref m0), (1, .int (nI s))], [.int (nI s), .ref m0, .int 0, .int (nI s), .ref m0], M)) rfl rfl rfl ?_
      refine pl_call (a := [.ref m0, .int (nI s)]) (rest := [.int 0, .int (nI s), .ref m0]) rfl rfl rfl (rd_length (tx := tx) (cN := cN) (A := A) (s := s) (l := l) hR hY (hs)) (fun v13 M14 q15 => ?_)
      obtain ⟨rfl, rfl⟩ := q15
      show pl _ _ _ (49, [(0, .ref m0), (1, .int (nI s))], [.int (nI (l.length)), .int 0, .int (nI s), .ref m0], M) _
      refine pl_call (a := [.ref m0, .int (nI s), .int 0, .int (nI (l.length))]) (rest := []) rfl rfl rfl (rd_nameText (tx := tx) (cN := cN) (A := A) (s := s) (l := l) (a := 0) (e := (l.length)) hR hY (hs) (by omega)) (fun v16 M17 q18 => ?_)
      obtain ⟨rfl, rfl⟩ := q18
      show pl _ _ _ (52, [], [.int (nI (nmN (fun i => l.getD i 0) 0 (l.length)))], M) _
      have hnb_49 := nmN_le (fun i => l.getD i 0) 0 (l.length)
      exact ps_reti rfl (⟨congrArg (fun x => some (Value.int (nI x))) (show nmN (fun i => l.getD i 0) 0 (l.length) = clsN l from by
          unfold clsN nmN
          rw [if_neg (show ¬ l.getD 0 0 = 91 by omega)]
          rfl), rfl⟩)
    · have c_16 : ¬ (¬ (nI (l.getD 0 0)) = 91) := of_decide_eq_false c_16
      have n_16 : l.getD 0 0 = 91 := (eq_nI (p := l.getD 0 0) (n := 91) (by omega) (by decide)).mp (Decidable.not_not.mp c_16)
      refine ps_st (S' := (20, [(0, .ref m0), (1, .int (nI s))], [.ref m0], M)) rfl rfl rfl ?_
      refine ps_st (S' := (21, [(0, .ref m0), (1, .int (nI s))], [.int (nI s), .ref m0], M)) rfl rfl rfl ?_
      refine ps_st (S' := (22, [(0, .ref m0), (1, .int (nI s))], [.int 0, .int (nI s), .ref m0], M)) rfl rfl rfl ?_
      refine pl_call (a := [.ref m0, .int (nI s), .int 0]) (rest := []) rfl rfl rfl (rd_fieldText (tx := tx) (cN := cN) (A := A) (s := s) (l := l) (a := 0) hR hY (hs) (by omega)) (fun v19 M20 q21 => ?_)
      rcases q21 with q21 | q21
      · skip
        obtain ⟨q22_s, rfl, rfl⟩ := q21
        show pl _ _ _ (25, [(0, .ref m0), (1, .int (nI s))], [.int (-1)], M) _
        refine ps_st (S' := (26, [(0, .ref m0), (1, .int (nI s))], [.ref m0, .int (-1)], M)) rfl rfl rfl ?_
        refine ps_st (S' := (27, [(0, .ref m0), (1, .int (nI s))], [.int (nI s), .ref m0, .int (-1)], M)) rfl rfl rfl ?_
        refine pl_call (a := [.ref m0, .int (nI s)]) (rest := [.int (-1)]) rfl rfl rfl (rd_length (tx := tx) (cN := cN) (A := A) (s := s) (l := l) hR hY (hs)) (fun v22 M23 q24 => ?_)
        obtain ⟨rfl, rfl⟩ := q24
        show pl _ _ _ (30, [(0, .ref m0), (1, .int (nI s))], [.int (nI (l.length)), .int (-1)], M) _
        refine ps_if2 (S1 := (37, [(0, .ref m0), (1, .int (nI s))], [], M)) (S2 := (33, [(0, .ref m0), (1, .int (nI s))], [], M)) rfl rfl rfl (fun c_30 => ?_) (fun c_30 => ?_)
        rotate_left
        · exact absurd (m1_ne (by omega)) (of_decide_eq_false c_30)
        refine ps_st (S' := (38, [(0, .ref m0), (1, .int (nI s))], [.int 0], M)) rfl rfl rfl ?_
        refine ps_st (S' := (52, [], [.int 0], M)) rfl rfl rfl ?_
        exact ps_ret rfl rfl (⟨congrArg (fun x => some (Value.int (nI x))) (show 0 = clsN l from by
            unfold clsN
            rw [if_pos (by omega), show (if 0 < shN l ∧ shN l < 4096 then 1 else 0) = fldN l from rfl, fld_eq, if_neg (by rw [q22_s]; exact fun h => by cases h)]), rfl⟩)
      · skip
        obtain ⟨x25, q22_s, q22_l, rfl, rfl⟩ := q21
        show pl _ _ _ (25, [(0, .ref m0), (1, .int (nI s))], [.int (nI x25)], M) _
        refine ps_st (S' := (26, [(0, .ref m0), (1, .int (nI s))], [.ref m0, .int (nI x25)], M)) rfl rfl rfl ?_
        refine ps_st (S' := (27, [(0, .ref m0), (1, .int (nI s))], [.int (nI s), .ref m0, .int (nI x25)], M)) rfl rfl rfl ?_
        refine pl_call (a := [.ref m0, .int (nI s)]) (rest := [.int (nI x25)]) rfl rfl rfl (rd_length (tx := tx) (cN := cN) (A := A) (s := s) (l := l) hR hY (hs)) (fun v26 M27 q28 => ?_)
        obtain ⟨rfl, rfl⟩ := q28
        show pl _ _ _ (30, [(0, .ref m0), (1, .int (nI s))], [.int (nI (l.length)), .int (nI x25)], M) _
        refine ps_if2 (S1 := (37, [(0, .ref m0), (1, .int (nI s))], [], M)) (S2 := (33, [(0, .ref m0), (1, .int (nI s))], [], M)) rfl rfl rfl (fun c_30 => ?_) (fun c_30 => ?_)
        · have c_30 : ¬ (nI x25) = (nI (l.length)) := of_decide_eq_true c_30
          have n_30 : ¬ (x25 = l.length) := fun h9 => c_30 ((eq_nI (p := x25) (n := l.length) (by omega) (by omega)).mpr h9)
          refine ps_st (S' := (38, [(0, .ref m0), (1, .int (nI s))], [.int 0], M)) rfl rfl rfl ?_
          refine ps_st (S' := (52, [], [.int 0], M)) rfl rfl rfl ?_
          exact ps_ret rfl rfl (⟨congrArg (fun x => some (Value.int (nI x))) (show 0 = clsN l from by
              unfold clsN
              rw [if_pos (by omega), show (if 0 < shN l ∧ shN l < 4096 then 1 else 0) = fldN l from rfl, fld_eq, if_neg (by rw [q22_s]; exact fun h => n_30 (Option.some.inj h))]), rfl⟩)
        · have c_30 : ¬ (¬ (nI x25) = (nI (l.length))) := of_decide_eq_false c_30
          have n_30 : x25 = l.length := (eq_nI (p := x25) (n := l.length) (by omega) (by omega)).mp (Decidable.not_not.mp c_30)
          refine ps_st (S' := (34, [(0, .ref m0), (1, .int (nI s))], [.int 1], M)) rfl rfl rfl ?_
          refine ps_st (S' := (52, [], [.int 1], M)) rfl rfl rfl ?_
          exact ps_ret rfl rfl (⟨congrArg (fun x => some (Value.int (nI x))) (show 1 = clsN l from by
              unfold clsN
              rw [if_pos (by omega), show (if 0 < shN l ∧ shN l < 4096 then 1 else 0) = fldN l from rfl, fld_eq, if_pos (by rw [q22_s, n_30])]), rfl⟩)
set_option maxHeartbeats 1000000 in
theorem rd_places0 {g : xe_G} {m0 : Nat} {q : Nat → Nat} {z : Nat × Nat} {I : rI} {R : rR} {M : mi_H} {tx : List (List Nat)} {cN : Nat} {A : Nat → Nat} {s : Nat} {l : List Nat} {k0 W : Nat} (hR : RS g m0 q z I R M)  (hY : SYT tx cN A I R) (hs : s < tx.length ∧ tx.getD s [] = l) (h0 : s_pl (fun i => l.getD i 0) l.length (l.length - 1) 1 0 = some (k0, W)) (hk0 : k0 < l.length ∧ l.getD k0 0 = 41) : pt (mT g) 233 [.ref m0, .int (nI s)] M (fun v M' => (v = some (.int (nI (W))) ∧ M = M')) := by
  refine pt_in (b := mb_233 g) rfl (fun kf => ?_)
  show pl (mT g) kf (mb_233 g).2 (0, [(0, .ref m0), (1, .int (nI s))], [], M) _
  have hln := hY.ln hs
  have hts := hY.1.2.2
  have LL : ∀ (kf : Nat), (∀ (k w : Nat), (1 ≤ k ∧ k ≤ l.length ∧ w ≤ 2 * k) → (s_pl (fun i => l.getD i 0) l.length (l.length - k) k w = some (k0, W)) →  pl (mT g) kf (mb_233 g).2 (4, [(0, .ref m0), (1, .int (nI s)), (2, .int (nI k)), (3, .int (nI w))], [], M) (fun v M' => (v = some (.int (nI (W))) ∧ M = M'))) := by
    intro kf
    induction kf with
    | zero => exact (by intros; exact pl_0)
    | succ kf ih =>
      intro k w hk hp
      have hlt : k < l.length := Nat.not_le.mp (fun h9 => by rw [s_pl_0 (by omega)] at hp; cases hp; omega)
      refine ps_st1 (S' := (5, [(0, .ref m0), (1, .int (nI s)), (2, .int (nI k)), (3, .int (nI w))], [.ref m0], M)) rfl rfl rfl ?_
      refine ps_st (S' := (6, [(0, .ref m0), (1, .int (nI s)), (2, .int (nI k)), (3, .int (nI w))], [.int (nI s), .ref m0], M)) rfl rfl rfl ?_
      refine ps_st (S' := (7, [(0, .ref m0), (1, .int (nI s)), (2, .int (nI k)), (3, .int (nI w))], [.int (nI k), .int (nI s), .ref m0], M)) rfl rfl rfl ?_
      refine pl_call (a := [.ref m0, .int (nI s), .int (nI k)]) (rest := []) rfl rfl rfl (rd_at (tx := tx) (cN := cN) (A := A) (s := s) (l := l) (k := k) hR hY (hs) (by omega)) (fun v1 M2 q3 => ?_)
      obtain ⟨rfl, rfl⟩ := q3
      show pl _ _ _ (10, [(0, .ref m0), (1, .int (nI s)), (2, .int (nI k)), (3, .int (nI w))], [.int (nI (l.getD k 0))], M) _
      have hc_7 := hY.ch hs (k := k) (by omega)
      refine ps_st (S' := (12, [(0, .ref m0), (1, .int (nI s)), (2, .int (nI k)), (3, .int (nI w))], [.int 41, .int (nI (l.getD k 0))], M)) rfl rfl rfl ?_
      refine ps_if2 (S1 := (55, [(0, .ref m0), (1, .int (nI s)), (2, .int (nI k)), (3, .int (nI w))], [], M)) (S2 := (15, [(0, .ref m0), (1, .int (nI s)), (2, .int (nI k)), (3, .int (nI w))], [], M)) rfl rfl rfl (fun c_12 => ?_) (fun c_12 => ?_)
      · have c_12 : (nI (l.getD k 0)) = 41 := of_decide_eq_true c_12
        have n_12 : l.getD k 0 = 41 := (eq_nI (p := l.getD k 0) (n := 41) (by omega) (by decide)).mp c_12
        refine ps_st (S' := (56, [(0, .ref m0), (1, .int (nI s)), (2, .int (nI k)), (3, .int (nI w))], [.int (nI w)], M)) rfl rfl rfl ?_
        exact ps_reti rfl (⟨congrArg (fun x => some (Value.int (nI x))) (show w = W from by rw [s_pl_0 (by omega)] at hp; cases hp; rfl), rfl⟩)
      · have c_12 : ¬ ((nI (l.getD k 0)) = 41) := of_decide_eq_false c_12
        have n_12 : ¬ (l.getD k 0 = 41) := fun h9 => c_12 ((eq_nI (p := l.getD k 0) (n := 41) (by omega) (by decide)).mpr h9)
        refine ps_st (S' := (16, [(0, .ref m0), (1, .int (nI s)), (2, .int (nI k)), (3, .int (nI w))], [.ref m0], M)) rfl rfl rfl ?_
        refine ps_st (S' := (17, [(0, .ref m0), (1, .int (nI s)), (2, .int (nI k)), (3, .int (nI w))], [.int (nI s), .ref m0], M)) rfl rfl rfl ?_
        refine ps_st (S' := (18, [(0, .ref m0), (1, .int (nI s)), (2, .int (nI k)), (3, .int (nI w))], [.int (nI k), .int (nI s), .ref m0], M)) rfl rfl rfl ?_
        refine pl_call (a := [.ref m0, .int (nI s), .int (nI k)]) (rest := []) rfl rfl rfl (rd_at (tx := tx) (cN := cN) (A := A) (s := s) (l := l) (k := k) hR hY (hs) (by omega)) (fun v4 M5 q6 => ?_)
        obtain ⟨rfl, rfl⟩ := q6
        show pl _ _ _ (21, [(0, .ref m0), (1, .int (nI s)), (2, .int (nI k)), (3, .int (nI w))], [.int (nI (l.getD k 0))], M) _
        have hc_18 := hY.ch hs (k := k) (by omega)
        refine ps_st (S' := (23, [(4, .int (nI (l.getD k 0))), (0, .ref m0), (1, .int (nI s)), (2, .int (nI k)), (3, .int (nI w))], [], M)) rfl rfl rfl ?_
        refine ps_st (S' := (24, [(4, .int (nI (l.getD k 0))), (0, .ref m0), (1, .int (nI s)), (2, .int (nI k)), (3, .int (nI w))], [.int (nI w)], M)) rfl rfl rfl ?_
        refine ps_st (S' := (26, [(4, .int (nI (l.getD k 0))), (0, .ref m0), (1, .int (nI s)), (2, .int (nI k)), (3, .int (nI w))], [.int (nI (l.getD k 0)), .int (nI w)], M)) rfl rfl rfl ?_
        refine ps_st (S' := (28, [(4, .int (nI (l.getD k 0))), (0, .ref m0), (1, .int (nI s)), (2, .int (nI k)), (3, .int (nI w))], [.int 74, .int (nI (l.getD k 0)), .int (nI w)], M)) rfl rfl rfl ?_
        refine ps_if2 (S1 := (38, [(0, .ref m0), (1, .int (nI s)), (2, .int (nI k))], [.int (nI w)], M)) (S2 := (31, [(4, .int (nI (l.getD k 0))), (0, .ref m0), (1, .int (nI s)), (2, .int (nI k)), (3, .int (nI w))], [.int (nI w)], M)) rfl rfl rfl (fun c_28 => ?_) (fun c_28 => ?_)
        · have c_28 : (nI (l.getD k 0)) = 74 := of_decide_eq_true c_28
          have n_28 : l.getD k 0 = 74 := (eq_nI (p := l.getD k 0) (n := 74) (by omega) (by decide)).mp c_28
          refine ps_st (S' := (39, [(0, .ref m0), (1, .int (nI s)), (2, .int (nI k))], [.int 2, .int (nI w)], M)) rfl rfl rfl ?_
          refine ps_st (S' := (43, [(0, .ref m0), (1, .int (nI s)), (2, .int (nI k))], [.int 2, .int (nI w)], M)) rfl rfl rfl ?_
          refine ps_st (S' := (44, [(0, .ref m0), (1, .int (nI s)), (2, .int (nI k))], [.int ((nI w) + 2)], M)) rfl rfl rfl ?_
          rw [nI_add1 (p := w) (k := 2) (x := 2) rfl (by omega)]
          show pl _ _ _ (_, [(0, .ref m0), (1, .int (nI s)), (2, .int (nI k))], [.int (nI (w + 2))], M) _
          refine ps_st (S' := (45, [(3, .int (nI (w + 2))), (0, .ref m0), (1, .int (nI s)), (2, .int (nI k))], [], M)) rfl rfl rfl ?_
          refine ps_st (S' := (46, [(3, .int (nI (w + 2))), (0, .ref m0), (1, .int (nI s)), (2, .int (nI k))], [.ref m0], M)) rfl rfl rfl ?_
          refine ps_st (S' := (47, [(3, .int (nI (w + 2))), (0, .ref m0), (1, .int (nI s)), (2, .int (nI k))], [.int (nI s), .ref m0], M)) rfl rfl rfl ?_
          refine ps_st (S' := (48, [(3, .int (nI (w + 2))), (0, .ref m0), (1, .int (nI s)), (2, .int (nI k))], [.int (nI k), .int (nI s), .ref m0], M)) rfl rfl rfl ?_
          refine pl_call (a := [.ref m0, .int (nI s), .int (nI k)]) (rest := []) rfl rfl rfl (rd_fieldText (tx := tx) (cN := cN) (A := A) (s := s) (l := l) (a := k) hR hY (hs) (by omega)) (fun v7 M8 q9 => ?_)
          rcases q9 with q9 | q9
          · skip
            obtain ⟨q48_s, rfl, rfl⟩ := q9
            show pl _ _ _ (51, [(3, .int (nI (w + 2))), (0, .ref m0), (1, .int (nI s)), (2, .int (nI k))], [.int (-1)], M) _
            rw [s_pl_bad (by omega) q48_s] at hp
            cases hp
          · skip
            obtain ⟨x10, q48_s, q48_l, rfl, rfl⟩ := q9
            show pl _ _ _ (51, [(3, .int (nI (w + 2))), (0, .ref m0), (1, .int (nI s)), (2, .int (nI k))], [.int (nI x10)], M) _
            refine ps_st (S' := (52, [(2, .int (nI x10)), (3, .int (nI (w + 2))), (0, .ref m0), (1, .int (nI s))], [], M)) rfl rfl rfl ?_
            refine ps_st (S' := (4, [(0, .ref m0), (1, .int (nI s)), (2, .int (nI x10)), (3, .int (nI (w + 2)))], [], M)) rfl rfl rfl ?_
            exact ih (x10) (w + 2)  (by omega) (by
                rw [← hp, s_pl_step (by omega) q48_s, show pW (l.getD k 0) = 2 by unfold pW; rw [if_pos (by omega)]])
        · have c_28 : ¬ ((nI (l.getD k 0)) = 74) := of_decide_eq_false c_28
          have n_28 : ¬ (l.getD k 0 = 74) := fun h9 => c_28 ((eq_nI (p := l.getD k 0) (n := 74) (by omega) (by decide)).mpr h9)
          refine ps_st (S' := (33, [(4, .int (nI (l.getD k 0))), (0, .ref m0), (1, .int (nI s)), (2, .int (nI k)), (3, .int (nI w))], [.int (nI (l.getD k 0)), .int (nI w)], M)) rfl rfl rfl ?_
          refine ps_st (S' := (35, [(4, .int (nI (l.getD k 0))), (0, .ref m0), (1, .int (nI s)), (2, .int (nI k)), (3, .int (nI w))], [.int 68, .int (nI (l.getD k 0)), .int (nI w)], M)) rfl rfl rfl ?_
          refine ps_if2 (S1 := (42, [(4, .int (nI (l.getD k 0))), (0, .ref m0), (1, .int (nI s)), (2, .int (nI k)), (3, .int (nI w))], [.int (nI w)], M)) (S2 := (38, [(0, .ref m0), (1, .int (nI s)), (2, .int (nI k))], [.int (nI w)], M)) rfl rfl rfl (fun c_35 => ?_) (fun c_35 => ?_)
          · have c_35 : ¬ (nI (l.getD k 0)) = 68 := of_decide_eq_true c_35
            have n_35 : ¬ (l.getD k 0 = 68) := fun h9 => c_35 ((eq_nI (p := l.getD k 0) (n := 68) (by omega) (by decide)).mpr h9)
            refine ps_st (S' := (43, [(0, .ref m0), (1, .int (nI s)), (2, .int (nI k))], [.int 1, .int (nI w)], M)) rfl rfl rfl ?_
            refine ps_st (S' := (44, [(0, .ref m0), (1, .int (nI s)), (2, .int (nI k))], [.int ((nI w) + 1)], M)) rfl rfl rfl ?_
            rw [nI_add1 (p := w) (k := 1) (x := 1) rfl (by omega)]
            show pl _ _ _ (_, [(0, .ref m0), (1, .int (nI s)), (2, .int (nI k))], [.int (nI (w + 1))], M) _
            refine ps_st (S' := (45, [(3, .int (nI (w + 1))), (0, .ref m0), (1, .int (nI s)), (2, .int (nI k))], [], M)) rfl rfl rfl ?_
            refine ps_st (S' := (46, [(3, .int (nI (w + 1))), (0, .ref m0), (1, .int (nI s)), (2, .int (nI k))], [.ref m0], M)) rfl rfl rfl ?_
            refine ps_st (S' := (47, [(3, .int (nI (w + 1))), (0, .ref m0), (1, .int (nI s)), (2, .int (nI k))], [.int (nI s), .ref m0], M)) rfl rfl rfl ?_
            refine ps_st (S' := (48, [(3, .int (nI (w + 1))), (0, .ref m0), (1, .int (nI s)), (2, .int (nI k))], [.int (nI k), .int (nI s), .ref m0], M)) rfl rfl rfl ?_
            refine pl_call (a := [.ref m0, .int (nI s), .int (nI k)]) (rest := []) rfl rfl rfl (rd_fieldText (tx := tx) (cN := cN) (A := A) (s := s) (l := l) (a := k) hR hY (hs) (by omega)) (fun v11 M12 q13 => ?_)
            rcases q13 with q13 | q13
            · skip
              obtain ⟨q48_s, rfl, rfl⟩ := q13
              show pl _ _ _ (51, [(3, .int (nI (w + 1))), (0, .ref m0), (1, .int (nI s)), (2, .int (nI k))], [.int (-1)], M) _
              rw [s_pl_bad (by omega) q48_s] at hp
              cases hp
            · skip
              obtain ⟨x14, q48_s, q48_l, rfl, rfl⟩ := q13
              show pl _ _ _ (51, [(3, .int (nI (w + 1))), (0, .ref m0), (1, .int (nI s)), (2, .int (nI k))], [.int (nI x14)], M) _
              refine ps_st (S' := (52, [(2, .int (nI x14)), (3, .int (nI (w + 1))), (0, .ref m0), (1, .int (nI s))], [], M)) rfl rfl rfl ?_
              refine ps_st (S' := (4, [(0, .ref m0), (1, .int (nI s)), (2, .int (nI x14)), (3, .int (nI (w + 1)))], [], M)) rfl rfl rfl ?_
              exact ih (x14) (w + 1)  (by omega) (by
                  rw [← hp, s_pl_step (by omega) q48_s, show pW (l.getD k 0) = 1 by unfold pW; rw [if_neg (by omega)]])
          · have c_35 : ¬ (¬ (nI (l.getD k 0)) = 68) := of_decide_eq_false c_35
            have n_35 : l.getD k 0 = 68 := (eq_nI (p := l.getD k 0) (n := 68) (by omega) (by decide)).mp (Decidable.not_not.mp c_35)
            refine ps_st (S' := (39, [(0, .ref m0), (1, .int (nI s)), (2, .int (nI k))], [.int 2, .int (nI w)], M)) rfl rfl rfl ?_
            refine ps_st (S' := (43, [(0, .ref m0), (1, .int (nI s)), (2, .int (nI k))], [.int 2, .int (nI w)], M)) rfl rfl rfl ?_
            refine ps_st (S' := (44, [(0, .ref m0), (1, .int (nI s)), (2, .int (nI k))], [.int ((nI w) + 2)], M)) rfl rfl rfl ?_
            rw [nI_add1 (p := w) (k := 2) (x := 2) rfl (by omega)]
            show pl _ _ _ (_, [(0, .ref m0), (1, .int (nI s)), (2, .int (nI k))], [.int (nI (w + 2))], M) _
            refine ps_st (S' := (45, [(3, .int (nI (w + 2))), (0, .ref m0), (1, .int (nI s)), (2, .int (nI k))], [], M)) rfl rfl rfl ?_
            refine ps_st (S' := (46, [(3, .int (nI (w + 2))), (0, .ref m0), (1, .int (nI s)), (2, .int (nI k))], [.ref m0], M)) rfl rfl rfl ?_
            refine ps_st (S' := (47, [(3, .int (nI (w + 2))), (0, .ref m0), (1, .int (nI s)), (2, .int (nI k))], [.int (nI s), .ref m0], M)) rfl rfl rfl ?_
            refine ps_st (S' := (48, [(3, .int (nI (w + 2))), (0, .ref m0), (1, .int (nI s)), (2, .int (nI k))], [.int (nI k), .int (nI s), .ref m0], M)) rfl rfl rfl ?_
            refine pl_call (a := [.ref m0, .int (nI s), .int (nI k)]) (rest := []) rfl rfl rfl (rd_fieldText (tx := tx) (cN := cN) (A := A) (s := s) (l := l) (a := k) hR hY (hs) (by omega)) (fun v15 M16 q17 => ?_)
            rcases q17 with q17 | q17
            · skip
              obtain ⟨q48_s, rfl, rfl⟩ := q17
              show pl _ _ _ (51, [(3, .int (nI (w + 2))), (0, .ref m0), (1, .int (nI s)), (2, .int (nI k))], [.int (-1)], M) _
              rw [s_pl_bad (by omega) q48_s] at hp
              cases hp
            · skip
              obtain ⟨x18, q48_s, q48_l, rfl, rfl⟩ := q17
              show pl _ _ _ (51, [(3, .int (nI (w + 2))), (0, .ref m0), (1, .int (nI s)), (2, .int (nI k))], [.int (nI x18)], M) _
              refine ps_st (S' := (52, [(2, .int (nI x18)), (3, .int (nI (w + 2))), (0, .ref m0), (1, .int (nI s))], [], M)) rfl rfl rfl ?_
              refine ps_st (S' := (4, [(0, .ref m0), (1, .int (nI s)), (2, .int (nI x18)), (3, .int (nI (w + 2)))], [], M)) rfl rfl rfl ?_
              exact ih (x18) (w + 2)  (by omega) (by
                  rw [← hp, s_pl_step (by omega) q48_s, show pW (l.getD k 0) = 2 by unfold pW; rw [if_pos (by omega)]])
  refine ps_st (S' := (1, [(0, .ref m0), (1, .int (nI s))], [.int 1], M)) rfl rfl rfl ?_
  refine ps_st (S' := (2, [(2, .int 1), (0, .ref m0), (1, .int (nI s))], [], M)) rfl rfl rfl ?_
  refine ps_st (S' := (3, [(2, .int 1), (0, .ref m0), (1, .int (nI s))], [.int 0], M)) rfl rfl rfl ?_
  refine ps_st (S' := (4, [(0, .ref m0), (1, .int (nI s)), (2, .int 1), (3, .int 0)], [], M)) rfl rfl rfl ?_
  exact (LL kf) (1) (0)  (by omega) (h0)
set_option maxHeartbeats 1000000 in
theorem rd_isMethod {g : xe_G} {m0 : Nat} {q : Nat → Nat} {z : Nat × Nat} {I : rI} {R : rR} {M : mi_H} {tx : List (List Nat)} {cN : Nat} {A : Nat → Nat} {s : Nat} {l : List Nat} (hR : RS g m0 q z I R M)  (hY : SYT tx cN A I R) (hs : s < tx.length ∧ tx.getD s [] = l) : pt (mT g) 218 [.ref m0, .int (nI s)] M (fun v M' => (v = some (.int (nI (mthN l))) ∧ M = M')) := by
  refine pt_in (b := mb_218 g) rfl (fun kf => ?_)
  show pl (mT g) kf (mb_218 g).2 (0, [(0, .ref m0), (1, .int (nI s))], [], M) _
  have hln := hY.ln hs
  have hts := hY.1.2.2
  have LL : ∀ (kf : Nat), (∀ (k w : Nat), (1 ≤ k ∧ k ≤ l.length ∧ w ≤ 2 * k) → (0 < l.length ∧ l.getD 0 0 = 40) → (s_pl (fun i => l.getD i 0) l.length (l.length - k) k w = s_pl (fun i => l.getD i 0) l.length (l.length - 1) 1 0) →  pl (mT g) kf (mb_218 g).2 (25, [(0, .ref m0), (1, .int (nI s)), (2, .int (nI l.length)), (3, .int (nI k))], [], M) (fun v M' => (v = some (.int (nI (mthN l))) ∧ M = M'))) := by
    intro kf
    induction kf with
    | zero => exact (by intros; exact pl_0)
    | succ kf ih =>
      intro k w hk h40 hp
      refine ps_st1 (S' := (26, [(0, .ref m0), (1, .int (nI s)), (2, .int (nI l.length)), (3, .int (nI k))], [.int (nI k)], M)) rfl rfl rfl ?_
      refine ps_st (S' := (27, [(0, .ref m0), (1, .int (nI s)), (2, .int (nI l.length)), (3, .int (nI k))], [.int (nI l.length), .int (nI k)], M)) rfl rfl rfl ?_
      refine ps_if2 (S1 := (54, [(0, .ref m0), (1, .int (nI s)), (2, .int (nI l.length)), (3, .int (nI k))], [], M)) (S2 := (30, [(0, .ref m0), (1, .int (nI s)), (2, .int (nI l.length)), (3, .int (nI k))], [], M)) rfl rfl rfl (fun c_27 => ?_) (fun c_27 => ?_)
      · have c_27 : (nI l.length) ≤ (nI k) := of_decide_eq_true c_27
        have n_27 : l.length ≤ k := (le_nI (p := l.length) (n := k) (by omega) (by omega)).mp c_27
        refine ps_st (S' := (55, [(0, .ref m0), (1, .int (nI s)), (2, .int (nI l.length)), (3, .int (nI k))], [.int (nI k)], M)) rfl rfl rfl ?_
        refine ps_st (S' := (56, [(0, .ref m0), (1, .int (nI s)), (2, .int (nI l.length)), (3, .int (nI k))], [.int (nI l.length), .int (nI k)], M)) rfl rfl rfl ?_
        refine ps_if2 (S1 := (61, [(0, .ref m0), (1, .int (nI s)), (2, .int (nI l.length)), (3, .int (nI k))], [], M)) (S2 := (59, [(0, .ref m0), (1, .int (nI s)), (2, .int (nI l.length)), (3, .int (nI k))], [], M)) rfl rfl rfl (fun c_56 => ?_) (fun c_56 => ?_)
        · have c_56 : (nI k) < (nI l.length) := of_decide_eq_true c_56
          have n_56 : k < l.length := (lt_nI (p := k) (n := l.length) (by omega) (by omega)).mp c_56
          refine ps_st (S' := (64, [(3, .int ((nI k) + 1)), (0, .ref m0), (1, .int (nI s)), (2, .int (nI l.length))], [], M)) rfl rfl rfl ?_
          rw [nI_add1 (p := k) (k := 1) (x := 1) rfl (by omega)]
          show pl _ _ _ (_, [(3, .int (nI (k + 1))), (0, .ref m0), (1, .int (nI s)), (2, .int (nI l.length))], [], M) _
          refine ps_st (S' := (65, [(3, .int (nI (k + 1))), (0, .ref m0), (1, .int (nI s)), (2, .int (nI l.length))], [.int (nI (k + 1))], M)) rfl rfl rfl ?_
          refine ps_st (S' := (66, [(3, .int (nI (k + 1))), (0, .ref m0), (1, .int (nI s)), (2, .int (nI l.length))], [.int 1, .int (nI (k + 1))], M)) rfl rfl rfl ?_
          refine ps_st (S' := (67, [(3, .int (nI (k + 1))), (0, .ref m0), (1, .int (nI s)), (2, .int (nI l.length))], [.int ((nI (k + 1)) + 1)], M)) rfl rfl rfl ?_
          rw [nI_add1 (p := k + 1) (k := 1) (x := 1) rfl (by omega)]
          show pl _ _ _ (_, [(3, .int (nI (k + 1))), (0, .ref m0), (1, .int (nI s)), (2, .int (nI l.length))], [.int (nI (k + 2))], M) _
          refine ps_st (S' := (68, [(3, .int (nI (k + 1))), (0, .ref m0), (1, .int (nI s)), (2, .int (nI l.length))], [.int (nI l.length), .int (nI (k + 2))], M)) rfl rfl rfl ?_
          refine ps_if2 (S1 := (82, [(0, .ref m0), (1, .int (nI s)), (2, .int (nI l.length)), (3, .int (nI (k + 1)))], [], M)) (S2 := (71, [(3, .int (nI (k + 1))), (0, .ref m0), (1, .int (nI s)), (2, .int (nI l.length))], [], M)) rfl rfl rfl (fun c_68 => ?_) (fun c_68 => ?_)
          · have c_68 : ¬ (nI (k + 2)) = (nI l.length) := of_decide_eq_true c_68
            have n_68 : ¬ (k + 2 = l.length) := fun h9 => c_68 ((eq_nI (p := k + 2) (n := l.length) (by omega) (by omega)).mpr h9)
            refine ps_st (S' := (83, [(0, .ref m0), (1, .int (nI s)), (2, .int (nI l.length)), (3, .int (nI (k + 1)))], [.ref m0], M)) rfl rfl rfl ?_
            refine ps_st (S' := (84, [(0, .ref m0), (1, .int (nI s)), (2, .int (nI l.length)), (3, .int (nI (k + 1)))], [.int (nI s), .ref m0], M)) rfl rfl rfl ?_
            refine ps_st (S' := (85, [(0, .ref m0), (1, .int (nI s)), (2, .int (nI l.length)), (3, .int (nI (k + 1)))], [.int (nI (k + 1)), .int (nI s), .ref m0], M)) rfl rfl rfl ?_
            refine pl_call (a := [.ref m0, .int (nI s), .int (nI (k + 1))]) (rest := []) rfl rfl rfl (rd_fieldText (tx := tx) (cN := cN) (A := A) (s := s) (l := l) (a := (k + 1)) hR hY (hs) (by omega)) (fun v1 M2 q3 => ?_)
            rcases q3 with q3 | q3
            · skip
              obtain ⟨q85_s, rfl, rfl⟩ := q3
              show pl _ _ _ (88, [(0, .ref m0), (1, .int (nI s)), (2, .int (nI l.length)), (3, .int (nI (k + 1)))], [.int (-1)], M) _
              refine ps_st (S' := (89, [(0, .ref m0), (1, .int (nI s)), (2, .int (nI l.length)), (3, .int (nI (k + 1)))], [.int (nI l.length), .int (-1)], M)) rfl rfl rfl ?_
              refine ps_if2 (S1 := (94, [(0, .ref m0), (1, .int (nI s))], [], M)) (S2 := (92, [(0, .ref m0), (1, .int (nI s)), (2, .int (nI l.length)), (3, .int (nI (k + 1)))], [], M)) rfl rfl rfl (fun c_89 => ?_) (fun c_89 => ?_)
              · exact absurd (of_decide_eq_true c_89) (m1_ne (by omega))
              refine ps_st (S' := (93, [(0, .ref m0), (1, .int (nI s)), (2, .int (nI l.length)), (3, .int (nI (k + 1)))], [.int 0], M)) rfl rfl rfl ?_
              exact ps_ret rfl rfl (⟨congrArg (fun x => some (Value.int (nI x))) (show 0 = mthN l from by
                  rw [mth_pl (k := k) (W := w) h40.1 h40.2 (by rw [← hp, s_pl_0 (by omega)])]
                  by_cases h8 : l.length ≤ k + 1 ∨ 255 < w
                  · rw [if_pos h8]
                  · rw [if_neg h8, if_neg (fun h => h.elim (by omega) (by rw [q85_s]; exact fun h9 => by cases h9))]), rfl⟩)
            · skip
              obtain ⟨x4, q85_s, q85_l, rfl, rfl⟩ := q3
              show pl _ _ _ (88, [(0, .ref m0), (1, .int (nI s)), (2, .int (nI l.length)), (3, .int (nI (k + 1)))], [.int (nI x4)], M) _
              refine ps_st (S' := (89, [(0, .ref m0), (1, .int (nI s)), (2, .int (nI l.length)), (3, .int (nI (k + 1)))], [.int (nI l.length), .int (nI x4)], M)) rfl rfl rfl ?_
              refine ps_if2 (S1 := (94, [(0, .ref m0), (1, .int (nI s))], [], M)) (S2 := (92, [(0, .ref m0), (1, .int (nI s)), (2, .int (nI l.length)), (3, .int (nI (k + 1)))], [], M)) rfl rfl rfl (fun c_89 => ?_) (fun c_89 => ?_)
              · have c_89 : (nI x4) = (nI l.length) := of_decide_eq_true c_89
                have n_89 : x4 = l.length := (eq_nI (p := x4) (n := l.length) (by omega) (by omega)).mp c_89
                refine ps_st (S' := (95, [(0, .ref m0), (1, .int (nI s))], [.ref m0], M)) rfl rfl rfl ?_
                refine ps_st (S' := (96, [(0, .ref m0), (1, .int (nI s))], [.int (nI s), .ref m0], M)) rfl rfl rfl ?_
                refine pl_call (a := [.ref m0, .int (nI s)]) (rest := []) rfl rfl rfl (rd_places0 (tx := tx) (cN := cN) (A := A) (s := s) (l := l) (k0 := k) (W := w) hR hY (hs) (by rw [← hp, s_pl_0 (by omega)]) (by omega)) (fun v5 M6 q7 => ?_)
                obtain ⟨rfl, rfl⟩ := q7
                show pl _ _ _ (99, [(0, .ref m0), (1, .int (nI s))], [.int (nI (w))], M) _
                refine ps_st (S' := (102, [(0, .ref m0), (1, .int (nI s))], [.int 255, .int (nI (w))], M)) rfl rfl rfl ?_
                refine ps_if2 (S1 := (109, [(0, .ref m0), (1, .int (nI s))], [], M)) (S2 := (105, [(0, .ref m0), (1, .int (nI s))], [], M)) rfl rfl rfl (fun c_102 => ?_) (fun c_102 => ?_)
                · have c_102 : 255 < (nI (w)) := of_decide_eq_true c_102
                  have n_102 : 255 < w := (lt_nI (p := 255) (n := w) (by decide) (by omega)).mp c_102
                  refine ps_st (S' := (110, [], [.int 0], M)) rfl rfl rfl ?_
                  exact ps_ret rfl rfl (⟨congrArg (fun x => some (Value.int (nI x))) (show 0 = mthN l from by
                      rw [mth_pl (k := k) (W := w) h40.1 h40.2 (by rw [← hp, s_pl_0 (by omega)])]
                      rw [if_pos (by omega)]), rfl⟩)
                · have c_102 : ¬ (255 < (nI (w))) := of_decide_eq_false c_102
                  have n_102 : ¬ (255 < w) := fun h9 => c_102 ((lt_nI (p := 255) (n := w) (by decide) (by omega)).mpr h9)
                  refine ps_st (S' := (106, [(0, .ref m0), (1, .int (nI s))], [.int 1], M)) rfl rfl rfl ?_
                  refine ps_st (S' := (110, [], [.int 1], M)) rfl rfl rfl ?_
                  exact ps_ret rfl rfl (⟨congrArg (fun x => some (Value.int (nI x))) (show 1 = mthN l from by
                      rw [mth_pl (k := k) (W := w) h40.1 h40.2 (by rw [← hp, s_pl_0 (by omega)])]
                      rw [if_neg (by omega), if_pos (Or.inr (by rw [q85_s, n_89]))]), rfl⟩)
              · have c_89 : ¬ ((nI x4) = (nI l.length)) := of_decide_eq_false c_89
                have n_89 : ¬ (x4 = l.length) := fun h9 => c_89 ((eq_nI (p := x4) (n := l.length) (by omega) (by omega)).mpr h9)
                refine ps_st (S' := (93, [(0, .ref m0), (1, .int (nI s)), (2, .int (nI l.length)), (3, .int (nI (k + 1)))], [.int 0], M)) rfl rfl rfl ?_
                exact ps_ret rfl rfl (⟨congrArg (fun x => some (Value.int (nI x))) (show 0 = mthN l from by
                    rw [mth_pl (k := k) (W := w) h40.1 h40.2 (by rw [← hp, s_pl_0 (by omega)])]
                    by_cases h8 : l.length ≤ k + 1 ∨ 255 < w
                    · rw [if_pos h8]
                    · rw [if_neg h8, if_neg (fun h => h.elim (by omega) (by rw [q85_s]; exact fun h9 => n_89 (Option.some.inj h9)))]), rfl⟩)
          · have c_68 : ¬ (¬ (nI (k + 2)) = (nI l.length)) := of_decide_eq_false c_68
            have n_68 : k + 2 = l.length := (eq_nI (p := k + 2) (n := l.length) (by omega) (by omega)).mp (Decidable.not_not.mp c_68)
            refine ps_st (S' := (72, [(3, .int (nI (k + 1))), (0, .ref m0), (1, .int (nI s)), (2, .int (nI l.length))], [.ref m0], M)) rfl rfl rfl ?_
            refine ps_st (S' := (73, [(3, .int (nI (k + 1))), (0, .ref m0), (1, .int (nI s)), (2, .int (nI l.length))], [.int (nI s), .ref m0], M)) rfl rfl rfl ?_
            refine ps_st (S' := (74, [(3, .int (nI (k + 1))), (0, .ref m0), (1, .int (nI s)), (2, .int (nI l.length))], [.int (nI (k + 1)), .int (nI s), .ref m0], M)) rfl rfl rfl ?_
            refine pl_call (a := [.ref m0, .int (nI s), .int (nI (k + 1))]) (rest := []) rfl rfl rfl (rd_at (tx := tx) (cN := cN) (A := A) (s := s) (l := l) (k := (k + 1)) hR hY (hs) (by omega)) (fun v8 M9 q10 => ?_)
            obtain ⟨rfl, rfl⟩ := q10
            show pl _ _ _ (77, [(3, .int (nI (k + 1))), (0, .ref m0), (1, .int (nI s)), (2, .int (nI l.length))], [.int (nI (l.getD (k + 1) 0))], M) _
            have hc_74 := hY.ch hs (k := k + 1) (by omega)
            refine ps_st (S' := (79, [(3, .int (nI (k + 1))), (0, .ref m0), (1, .int (nI s)), (2, .int (nI l.length))], [.int 86, .int (nI (l.getD (k + 1) 0))], M)) rfl rfl rfl ?_
            refine ps_if2 (S1 := (94, [(0, .ref m0), (1, .int (nI s))], [], M)) (S2 := (82, [(0, .ref m0), (1, .int (nI s)), (2, .int (nI l.length)), (3, .int (nI (k + 1)))], [], M)) rfl rfl rfl (fun c_79 => ?_) (fun c_79 => ?_)
            · have c_79 : (nI (l.getD (k + 1) 0)) = 86 := of_decide_eq_true c_79
              have n_79 : l.getD (k + 1) 0 = 86 := (eq_nI (p := l.getD (k + 1) 0) (n := 86) (by omega) (by decide)).mp c_79
              refine ps_st (S' := (95, [(0, .ref m0), (1, .int (nI s))], [.ref m0], M)) rfl rfl rfl ?_
              refine ps_st (S' := (96, [(0, .ref m0), (1, .int (nI s))], [.int (nI s), .ref m0], M)) rfl rfl rfl ?_
              refine pl_call (a := [.ref m0, .int (nI s)]) (rest := []) rfl rfl rfl (rd_places0 (tx := tx) (cN := cN) (A := A) (s := s) (l := l) (k0 := k) (W := w) hR hY (hs) (by rw [← hp, s_pl_0 (by omega)]) (by omega)) (fun v11 M12 q13 => ?_)
              obtain ⟨rfl, rfl⟩ := q13
              show pl _ _ _ (99, [(0, .ref m0), (1, .int (nI s))], [.int (nI (w))], M) _
              refine ps_st (S' := (102, [(0, .ref m0), (1, .int (nI s))], [.int 255, .int (nI (w))], M)) rfl rfl rfl ?_
              refine ps_if2 (S1 := (109, [(0, .ref m0), (1, .int (nI s))], [], M)) (S2 := (105, [(0, .ref m0), (1, .int (nI s))], [], M)) rfl rfl rfl (fun c_102 => ?_) (fun c_102 => ?_)
              · have c_102 : 255 < (nI (w)) := of_decide_eq_true c_102
                have n_102 : 255 < w := (lt_nI (p := 255) (n := w) (by decide) (by omega)).mp c_102
                refine ps_st (S' := (110, [], [.int 0], M)) rfl rfl rfl ?_
                exact ps_ret rfl rfl (⟨congrArg (fun x => some (Value.int (nI x))) (show 0 = mthN l from by
                    rw [mth_pl (k := k) (W := w) h40.1 h40.2 (by rw [← hp, s_pl_0 (by omega)])]
                    rw [if_pos (by omega)]), rfl⟩)
              · have c_102 : ¬ (255 < (nI (w))) := of_decide_eq_false c_102
                have n_102 : ¬ (255 < w) := fun h9 => c_102 ((lt_nI (p := 255) (n := w) (by decide) (by omega)).mpr h9)
                refine ps_st (S' := (106, [(0, .ref m0), (1, .int (nI s))], [.int 1], M)) rfl rfl rfl ?_
                refine ps_st (S' := (110, [], [.int 1], M)) rfl rfl rfl ?_
                exact ps_ret rfl rfl (⟨congrArg (fun x => some (Value.int (nI x))) (show 1 = mthN l from by
                    rw [mth_pl (k := k) (W := w) h40.1 h40.2 (by rw [← hp, s_pl_0 (by omega)])]
                    rw [if_neg (by omega), if_pos (Or.inl (by omega))]), rfl⟩)
            · have c_79 : ¬ ((nI (l.getD (k + 1) 0)) = 86) := of_decide_eq_false c_79
              have n_79 : ¬ (l.getD (k + 1) 0 = 86) := fun h9 => c_79 ((eq_nI (p := l.getD (k + 1) 0) (n := 86) (by omega) (by decide)).mpr h9)
              refine ps_st (S' := (83, [(0, .ref m0), (1, .int (nI s)), (2, .int (nI l.length)), (3, .int (nI (k + 1)))], [.ref m0], M)) rfl rfl rfl ?_
              refine ps_st (S' := (84, [(0, .ref m0), (1, .int (nI s)), (2, .int (nI l.length)), (3, .int (nI (k + 1)))], [.int (nI s), .ref m0], M)) rfl rfl rfl ?_
              refine ps_st (S' := (85, [(0, .ref m0), (1, .int (nI s)), (2, .int (nI l.length)), (3, .int (nI (k + 1)))], [.int (nI (k + 1)), .int (nI s), .ref m0], M)) rfl rfl rfl ?_
              refine pl_call (a := [.ref m0, .int (nI s), .int (nI (k + 1))]) (rest := []) rfl rfl rfl (rd_fieldText (tx := tx) (cN := cN) (A := A) (s := s) (l := l) (a := (k + 1)) hR hY (hs) (by omega)) (fun v14 M15 q16 => ?_)
              rcases q16 with q16 | q16
              · skip
                obtain ⟨q85_s, rfl, rfl⟩ := q16
                show pl _ _ _ (88, [(0, .ref m0), (1, .int (nI s)), (2, .int (nI l.length)), (3, .int (nI (k + 1)))], [.int (-1)], M) _
                refine ps_st (S' := (89, [(0, .ref m0), (1, .int (nI s)), (2, .int (nI l.length)), (3, .int (nI (k + 1)))], [.int (nI l.length), .int (-1)], M)) rfl rfl rfl ?_
                refine ps_if2 (S1 := (94, [(0, .ref m0), (1, .int (nI s))], [], M)) (S2 := (92, [(0, .ref m0), (1, .int (nI s)), (2, .int (nI l.length)), (3, .int (nI (k + 1)))], [], M)) rfl rfl rfl (fun c_89 => ?_) (fun c_89 => ?_)
                · exact absurd (of_decide_eq_true c_89) (m1_ne (by omega))
                refine ps_st (S' := (93, [(0, .ref m0), (1, .int (nI s)), (2, .int (nI l.length)), (3, .int (nI (k + 1)))], [.int 0], M)) rfl rfl rfl ?_
                exact ps_ret rfl rfl (⟨congrArg (fun x => some (Value.int (nI x))) (show 0 = mthN l from by
                    rw [mth_pl (k := k) (W := w) h40.1 h40.2 (by rw [← hp, s_pl_0 (by omega)])]
                    by_cases h8 : l.length ≤ k + 1 ∨ 255 < w
                    · rw [if_pos h8]
                    · rw [if_neg h8, if_neg (fun h => h.elim (by omega) (by rw [q85_s]; exact fun h9 => by cases h9))]), rfl⟩)
              · skip
                obtain ⟨x17, q85_s, q85_l, rfl, rfl⟩ := q16
                show pl _ _ _ (88, [(0, .ref m0), (1, .int (nI s)), (2, .int (nI l.length)), (3, .int (nI (k + 1)))], [.int (nI x17)], M) _
                refine ps_st (S' := (89, [(0, .ref m0), (1, .int (nI s)), (2, .int (nI l.length)), (3, .int (nI (k + 1)))], [.int (nI l.length), .int (nI x17)], M)) rfl rfl rfl ?_
                refine ps_if2 (S1 := (94, [(0, .ref m0), (1, .int (nI s))], [], M)) (S2 := (92, [(0, .ref m0), (1, .int (nI s)), (2, .int (nI l.length)), (3, .int (nI (k + 1)))], [], M)) rfl rfl rfl (fun c_89 => ?_) (fun c_89 => ?_)
                · have c_89 : (nI x17) = (nI l.length) := of_decide_eq_true c_89
                  have n_89 : x17 = l.length := (eq_nI (p := x17) (n := l.length) (by omega) (by omega)).mp c_89
                  refine ps_st (S' := (95, [(0, .ref m0), (1, .int (nI s))], [.ref m0], M)) rfl rfl rfl ?_
                  refine ps_st (S' := (96, [(0, .ref m0), (1, .int (nI s))], [.int (nI s), .ref m0], M)) rfl rfl rfl ?_
                  refine pl_call (a := [.ref m0, .int (nI s)]) (rest := []) rfl rfl rfl (rd_places0 (tx := tx) (cN := cN) (A := A) (s := s) (l := l) (k0 := k) (W := w) hR hY (hs) (by rw [← hp, s_pl_0 (by omega)]) (by omega)) (fun v18 M19 q20 => ?_)
                  obtain ⟨rfl, rfl⟩ := q20
                  show pl _ _ _ (99, [(0, .ref m0), (1, .int (nI s))], [.int (nI (w))], M) _
                  refine ps_st (S' := (102, [(0, .ref m0), (1, .int (nI s))], [.int 255, .int (nI (w))], M)) rfl rfl rfl ?_
                  refine ps_if2 (S1 := (109, [(0, .ref m0), (1, .int (nI s))], [], M)) (S2 := (105, [(0, .ref m0), (1, .int (nI s))], [], M)) rfl rfl rfl (fun c_102 => ?_) (fun c_102 => ?_)
                  · have c_102 : 255 < (nI (w)) := of_decide_eq_true c_102
                    have n_102 : 255 < w := (lt_nI (p := 255) (n := w) (by decide) (by omega)).mp c_102
                    refine ps_st (S' := (110, [], [.int 0], M)) rfl rfl rfl ?_
                    exact ps_ret rfl rfl (⟨congrArg (fun x => some (Value.int (nI x))) (show 0 = mthN l from by
                        rw [mth_pl (k := k) (W := w) h40.1 h40.2 (by rw [← hp, s_pl_0 (by omega)])]
                        rw [if_pos (by omega)]), rfl⟩)
                  · have c_102 : ¬ (255 < (nI (w))) := of_decide_eq_false c_102
                    have n_102 : ¬ (255 < w) := fun h9 => c_102 ((lt_nI (p := 255) (n := w) (by decide) (by omega)).mpr h9)
                    refine ps_st (S' := (106, [(0, .ref m0), (1, .int (nI s))], [.int 1], M)) rfl rfl rfl ?_
                    refine ps_st (S' := (110, [], [.int 1], M)) rfl rfl rfl ?_
                    exact ps_ret rfl rfl (⟨congrArg (fun x => some (Value.int (nI x))) (show 1 = mthN l from by
                        rw [mth_pl (k := k) (W := w) h40.1 h40.2 (by rw [← hp, s_pl_0 (by omega)])]
                        rw [if_neg (by omega), if_pos (Or.inr (by rw [q85_s, n_89]))]), rfl⟩)
                · have c_89 : ¬ ((nI x17) = (nI l.length)) := of_decide_eq_false c_89
                  have n_89 : ¬ (x17 = l.length) := fun h9 => c_89 ((eq_nI (p := x17) (n := l.length) (by omega) (by omega)).mpr h9)
                  refine ps_st (S' := (93, [(0, .ref m0), (1, .int (nI s)), (2, .int (nI l.length)), (3, .int (nI (k + 1)))], [.int 0], M)) rfl rfl rfl ?_
                  exact ps_ret rfl rfl (⟨congrArg (fun x => some (Value.int (nI x))) (show 0 = mthN l from by
                      rw [mth_pl (k := k) (W := w) h40.1 h40.2 (by rw [← hp, s_pl_0 (by omega)])]
                      by_cases h8 : l.length ≤ k + 1 ∨ 255 < w
                      · rw [if_pos h8]
                      · rw [if_neg h8, if_neg (fun h => h.elim (by omega) (by rw [q85_s]; exact fun h9 => n_89 (Option.some.inj h9)))]), rfl⟩)
        · have c_56 : ¬ ((nI k) < (nI l.length)) := of_decide_eq_false c_56
          have n_56 : ¬ (k < l.length) := fun h9 => c_56 ((lt_nI (p := k) (n := l.length) (by omega) (by omega)).mpr h9)
          refine ps_st (S' := (60, [(0, .ref m0), (1, .int (nI s)), (2, .int (nI l.length)), (3, .int (nI k))], [.int 0], M)) rfl rfl rfl ?_
          exact ps_ret rfl rfl (⟨congrArg (fun x => some (Value.int (nI x))) (show 0 = mthN l from by
              rw [mth_pl (k := k) (W := w) h40.1 h40.2 (by rw [← hp, s_pl_0 (by omega)])]
              rw [if_pos (by omega)]), rfl⟩)
      · have c_27 : ¬ ((nI l.length) ≤ (nI k)) := of_decide_eq_false c_27
        have n_27 : ¬ (l.length ≤ k) := fun h9 => c_27 ((le_nI (p := l.length) (n := k) (by omega) (by omega)).mpr h9)
        refine ps_st (S' := (31, [(0, .ref m0), (1, .int (nI s)), (2, .int (nI l.length)), (3, .int (nI k))], [.ref m0], M)) rfl rfl rfl ?_
        refine ps_st (S' := (32, [(0, .ref m0), (1, .int (nI s)), (2, .int (nI l.length)), (3, .int (nI k))], [.int (nI s), .ref m0], M)) rfl rfl rfl ?_
        refine ps_st (S' := (33, [(0, .ref m0), (1, .int (nI s)), (2, .int (nI l.length)), (3, .int (nI k))], [.int (nI k), .int (nI s), .ref m0], M)) rfl rfl rfl ?_
        refine pl_call (a := [.ref m0, .int (nI s), .int (nI k)]) (rest := []) rfl rfl rfl (rd_at (tx := tx) (cN := cN) (A := A) (s := s) (l := l) (k := k) hR hY (hs) (by omega)) (fun v21 M22 q23 => ?_)
        obtain ⟨rfl, rfl⟩ := q23
        show pl _ _ _ (36, [(0, .ref m0), (1, .int (nI s)), (2, .int (nI l.length)), (3, .int (nI k))], [.int (nI (l.getD k 0))], M) _
        have hc_33 := hY.ch hs (k := k) (by omega)
        refine ps_st (S' := (38, [(0, .ref m0), (1, .int (nI s)), (2, .int (nI l.length)), (3, .int (nI k))], [.int 41, .int (nI (l.getD k 0))], M)) rfl rfl rfl ?_
        refine ps_if2 (S1 := (54, [(0, .ref m0), (1, .int (nI s)), (2, .int (nI l.length)), (3, .int (nI k))], [], M)) (S2 := (41, [(0, .ref m0), (1, .int (nI s)), (2, .int (nI l.length)), (3, .int (nI k))], [], M)) rfl rfl rfl (fun c_38 => ?_) (fun c_38 => ?_)
        · have c_38 : (nI (l.getD k 0)) = 41 := of_decide_eq_true c_38
          have n_38 : l.getD k 0 = 41 := (eq_nI (p := l.getD k 0) (n := 41) (by omega) (by decide)).mp c_38
          refine ps_st (S' := (55, [(0, .ref m0), (1, .int (nI s)), (2, .int (nI l.length)), (3, .int (nI k))], [.int (nI k)], M)) rfl rfl rfl ?_
          refine ps_st (S' := (56, [(0, .ref m0), (1, .int (nI s)), (2, .int (nI l.length)), (3, .int (nI k))], [.int (nI l.length), .int (nI k)], M)) rfl rfl rfl ?_
          refine ps_if2 (S1 := (61, [(0, .ref m0), (1, .int (nI s)), (2, .int (nI l.length)), (3, .int (nI k))], [], M)) (S2 := (59, [(0, .ref m0), (1, .int (nI s)), (2, .int (nI l.length)), (3, .int (nI k))], [], M)) rfl rfl rfl (fun c_56 => ?_) (fun c_56 => ?_)
          · have c_56 : (nI k) < (nI l.length) := of_decide_eq_true c_56
            have n_56 : k < l.length := (lt_nI (p := k) (n := l.length) (by omega) (by omega)).mp c_56
            refine ps_st (S' := (64, [(3, .int ((nI k) + 1)), (0, .ref m0), (1, .int (nI s)), (2, .int (nI l.length))], [], M)) rfl rfl rfl ?_
            rw [nI_add1 (p := k) (k := 1) (x := 1) rfl (by omega)]
            show pl _ _ _ (_, [(3, .int (nI (k + 1))), (0, .ref m0), (1, .int (nI s)), (2, .int (nI l.length))], [], M) _
            refine ps_st (S' := (65, [(3, .int (nI (k + 1))), (0, .ref m0), (1, .int (nI s)), (2, .int (nI l.length))], [.int (nI (k + 1))], M)) rfl rfl rfl ?_
            refine ps_st (S' := (66, [(3, .int (nI (k + 1))), (0, .ref m0), (1, .int (nI s)), (2, .int (nI l.length))], [.int 1, .int (nI (k + 1))], M)) rfl rfl rfl ?_
            refine ps_st (S' := (67, [(3, .int (nI (k + 1))), (0, .ref m0), (1, .int (nI s)), (2, .int (nI l.length))], [.int ((nI (k + 1)) + 1)], M)) rfl rfl rfl ?_
            rw [nI_add1 (p := k + 1) (k := 1) (x := 1) rfl (by omega)]
            show pl _ _ _ (_, [(3, .int (nI (k + 1))), (0, .ref m0), (1, .int (nI s)), (2, .int (nI l.length))], [.int (nI (k + 2))], M) _
            refine ps_st (S' := (68, [(3, .int (nI (k + 1))), (0, .ref m0), (1, .int (nI s)), (2, .int (nI l.length))], [.int (nI l.length), .int (nI (k + 2))], M)) rfl rfl rfl ?_
            refine ps_if2 (S1 := (82, [(0, .ref m0), (1, .int (nI s)), (2, .int (nI l.length)), (3, .int (nI (k + 1)))], [], M)) (S2 := (71, [(3, .int (nI (k + 1))), (0, .ref m0), (1, .int (nI s)), (2, .int (nI l.length))], [], M)) rfl rfl rfl (fun c_68 => ?_) (fun c_68 => ?_)
            · have c_68 : ¬ (nI (k + 2)) = (nI l.length) := of_decide_eq_true c_68
              have n_68 : ¬ (k + 2 = l.length) := fun h9 => c_68 ((eq_nI (p := k + 2) (n := l.length) (by omega) (by omega)).mpr h9)
              refine ps_st (S' := (83, [(0, .ref m0), (1, .int (nI s)), (2, .int (nI l.length)), (3, .int (nI (k + 1)))], [.ref m0], M)) rfl rfl rfl ?_
              refine ps_st (S' := (84, [(0, .ref m0), (1, .int (nI s)), (2, .int (nI l.length)), (3, .int (nI (k + 1)))], [.int (nI s), .ref m0], M)) rfl rfl rfl ?_
              refine ps_st (S' := (85, [(0, .ref m0), (1, .int (nI s)), (2, .int (nI l.length)), (3, .int (nI (k + 1)))], [.int (nI (k + 1)), .int (nI s), .ref m0], M)) rfl rfl rfl ?_
              refine pl_call (a := [.ref m0, .int (nI s), .int (nI (k + 1))]) (rest := []) rfl rfl rfl (rd_fieldText (tx := tx) (cN := cN) (A := A) (s := s) (l := l) (a := (k + 1)) hR hY (hs) (by omega)) (fun v24 M25 q26 => ?_)
              rcases q26 with q26 | q26
              · skip
                obtain ⟨q85_s, rfl, rfl⟩ := q26
                show pl _ _ _ (88, [(0, .ref m0), (1, .int (nI s)), (2, .int (nI l.length)), (3, .int (nI (k + 1)))], [.int (-1)], M) _
                refine ps_st (S' := (89, [(0, .ref m0), (1, .int (nI s)), (2, .int (nI l.length)), (3, .int (nI (k + 1)))], [.int (nI l.length), .int (-1)], M)) rfl rfl rfl ?_
                refine ps_if2 (S1 := (94, [(0, .ref m0), (1, .int (nI s))], [], M)) (S2 := (92, [(0, .ref m0), (1, .int (nI s)), (2, .int (nI l.length)), (3, .int (nI (k + 1)))], [], M)) rfl rfl rfl (fun c_89 => ?_) (fun c_89 => ?_)
                · exact absurd (of_decide_eq_true c_89) (m1_ne (by omega))
                refine ps_st (S' := (93, [(0, .ref m0), (1, .int (nI s)), (2, .int (nI l.length)), (3, .int (nI (k + 1)))], [.int 0], M)) rfl rfl rfl ?_
                exact ps_ret rfl rfl (⟨congrArg (fun x => some (Value.int (nI x))) (show 0 = mthN l from by
                    rw [mth_pl (k := k) (W := w) h40.1 h40.2 (by rw [← hp, s_pl_0 (by omega)])]
                    by_cases h8 : l.length ≤ k + 1 ∨ 255 < w
                    · rw [if_pos h8]
                    · rw [if_neg h8, if_neg (fun h => h.elim (by omega) (by rw [q85_s]; exact fun h9 => by cases h9))]), rfl⟩)
              · skip
                obtain ⟨x27, q85_s, q85_l, rfl, rfl⟩ := q26
                show pl _ _ _ (88, [(0, .ref m0), (1, .int (nI s)), (2, .int (nI l.length)), (3, .int (nI (k + 1)))], [.int (nI x27)], M) _
                refine ps_st (S' := (89, [(0, .ref m0), (1, .int (nI s)), (2, .int (nI l.length)), (3, .int (nI (k + 1)))], [.int (nI l.length), .int (nI x27)], M)) rfl rfl rfl ?_
                refine ps_if2 (S1 := (94, [(0, .ref m0), (1, .int (nI s))], [], M)) (S2 := (92, [(0, .ref m0), (1, .int (nI s)), (2, .int (nI l.length)), (3, .int (nI (k + 1)))], [], M)) rfl rfl rfl (fun c_89 => ?_) (fun c_89 => ?_)
                · have c_89 : (nI x27) = (nI l.length) := of_decide_eq_true c_89
                  have n_89 : x27 = l.length := (eq_nI (p := x27) (n := l.length) (by omega) (by omega)).mp c_89
                  refine ps_st (S' := (95, [(0, .ref m0), (1, .int (nI s))], [.ref m0], M)) rfl rfl rfl ?_
                  refine ps_st (S' := (96, [(0, .ref m0), (1, .int (nI s))], [.int (nI s), .ref m0], M)) rfl rfl rfl ?_
                  refine pl_call (a := [.ref m0, .int (nI s)]) (rest := []) rfl rfl rfl (rd_places0 (tx := tx) (cN := cN) (A := A) (s := s) (l := l) (k0 := k) (W := w) hR hY (hs) (by rw [← hp, s_pl_0 (by omega)]) (by omega)) (fun v28 M29 q30 => ?_)
                  obtain ⟨rfl, rfl⟩ := q30
                  show pl _ _ _ (99, [(0, .ref m0), (1, .int (nI s))], [.int (nI (w))], M) _
                  refine ps_st (S' := (102, [(0, .ref m0), (1, .int (nI s))], [.int 255, .int (nI (w))], M)) rfl rfl rfl ?_
                  refine ps_if2 (S1 := (109, [(0, .ref m0), (1, .int (nI s))], [], M)) (S2 := (105, [(0, .ref m0), (1, .int (nI s))], [], M)) rfl rfl rfl (fun c_102 => ?_) (fun c_102 => ?_)
                  · have c_102 : 255 < (nI (w)) := of_decide_eq_true c_102
                    have n_102 : 255 < w := (lt_nI (p := 255) (n := w) (by decide) (by omega)).mp c_102
                    refine ps_st (S' := (110, [], [.int 0], M)) rfl rfl rfl ?_
                    exact ps_ret rfl rfl (⟨congrArg (fun x => some (Value.int (nI x))) (show 0 = mthN l from by
                        rw [mth_pl (k := k) (W := w) h40.1 h40.2 (by rw [← hp, s_pl_0 (by omega)])]
                        rw [if_pos (by omega)]), rfl⟩)
                  · have c_102 : ¬ (255 < (nI (w))) := of_decide_eq_false c_102
                    have n_102 : ¬ (255 < w) := fun h9 => c_102 ((lt_nI (p := 255) (n := w) (by decide) (by omega)).mpr h9)
                    refine ps_st (S' := (106, [(0, .ref m0), (1, .int (nI s))], [.int 1], M)) rfl rfl rfl ?_
                    refine ps_st (S' := (110, [], [.int 1], M)) rfl rfl rfl ?_
                    exact ps_ret rfl rfl (⟨congrArg (fun x => some (Value.int (nI x))) (show 1 = mthN l from by
                        rw [mth_pl (k := k) (W := w) h40.1 h40.2 (by rw [← hp, s_pl_0 (by omega)])]
                        rw [if_neg (by omega), if_pos (Or.inr (by rw [q85_s, n_89]))]), rfl⟩)
                · have c_89 : ¬ ((nI x27) = (nI l.length)) := of_decide_eq_false c_89
                  have n_89 : ¬ (x27 = l.length) := fun h9 => c_89 ((eq_nI (p := x27) (n := l.length) (by omega) (by omega)).mpr h9)
                  refine ps_st (S' := (93, [(0, .ref m0), (1, .int (nI s)), (2, .int (nI l.length)), (3, .int (nI (k + 1)))], [.int 0], M)) rfl rfl rfl ?_
                  exact ps_ret rfl rfl (⟨congrArg (fun x => some (Value.int (nI x))) (show 0 = mthN l from by
                      rw [mth_pl (k := k) (W := w) h40.1 h40.2 (by rw [← hp, s_pl_0 (by omega)])]
                      by_cases h8 : l.length ≤ k + 1 ∨ 255 < w
                      · rw [if_pos h8]
                      · rw [if_neg h8, if_neg (fun h => h.elim (by omega) (by rw [q85_s]; exact fun h9 => n_89 (Option.some.inj h9)))]), rfl⟩)
            · have c_68 : ¬ (¬ (nI (k + 2)) = (nI l.length)) := of_decide_eq_false c_68
              have n_68 : k + 2 = l.length := (eq_nI (p := k + 2) (n := l.length) (by omega) (by omega)).mp (Decidable.not_not.mp c_68)
              refine ps_st (S' := (72, [(3, .int (nI (k + 1))), (0, .ref m0), (1, .int (nI s)), (2, .int (nI l.length))], [.ref m0], M)) rfl rfl rfl ?_
              refine ps_st (S' := (73, [(3, .int (nI (k + 1))), (0, .ref m0), (1, .int (nI s)), (2, .int (nI l.length))], [.int (nI s), .ref m0], M)) rfl rfl rfl ?_
              refine ps_st (S' := (74, [(3, .int (nI (k + 1))), (0, .ref m0), (1, .int (nI s)), (2, .int (nI l.length))], [.int (nI (k + 1)), .int (nI s), .ref m0], M)) rfl rfl rfl ?_
              refine pl_call (a := [.ref m0, .int (nI s), .int (nI (k + 1))]) (rest := []) rfl rfl rfl (rd_at (tx := tx) (cN := cN) (A := A) (s := s) (l := l) (k := (k + 1)) hR hY (hs) (by omega)) (fun v31 M32 q33 => ?_)
              obtain ⟨rfl, rfl⟩ := q33
              show pl _ _ _ (77, [(3, .int (nI (k + 1))), (0, .ref m0), (1, .int (nI s)), (2, .int (nI l.length))], [.int (nI (l.getD (k + 1) 0))], M) _
              have hc_74 := hY.ch hs (k := k + 1) (by omega)
              refine ps_st (S' := (79, [(3, .int (nI (k + 1))), (0, .ref m0), (1, .int (nI s)), (2, .int (nI l.length))], [.int 86, .int (nI (l.getD (k + 1) 0))], M)) rfl rfl rfl ?_
              refine ps_if2 (S1 := (94, [(0, .ref m0), (1, .int (nI s))], [], M)) (S2 := (82, [(0, .ref m0), (1, .int (nI s)), (2, .int (nI l.length)), (3, .int (nI (k + 1)))], [], M)) rfl rfl rfl (fun c_79 => ?_) (fun c_79 => ?_)
              · have c_79 : (nI (l.getD (k + 1) 0)) = 86 := of_decide_eq_true c_79
                have n_79 : l.getD (k + 1) 0 = 86 := (eq_nI (p := l.getD (k + 1) 0) (n := 86) (by omega) (by decide)).mp c_79
                refine ps_st (S' := (95, [(0, .ref m0), (1, .int (nI s))], [.ref m0], M)) rfl rfl rfl ?_
                refine ps_st (S' := (96, [(0, .ref m0), (1, .int (nI s))], [.int (nI s), .ref m0], M)) rfl rfl rfl ?_
                refine pl_call (a := [.ref m0, .int (nI s)]) (rest := []) rfl rfl rfl (rd_places0 (tx := tx) (cN := cN) (A := A) (s := s) (l := l) (k0 := k) (W := w) hR hY (hs) (by rw [← hp, s_pl_0 (by omega)]) (by omega)) (fun v34 M35 q36 => ?_)
                obtain ⟨rfl, rfl⟩ := q36
                show pl _ _ _ (99, [(0, .ref m0), (1, .int (nI s))], [.int (nI (w))], M) _
                refine ps_st (S' := (102, [(0, .ref m0), (1, .int (nI s))], [.int 255, .int (nI (w))], M)) rfl rfl rfl ?_
                refine ps_if2 (S1 := (109, [(0, .ref m0), (1, .int (nI s))], [], M)) (S2 := (105, [(0, .ref m0), (1, .int (nI s))], [], M)) rfl rfl rfl (fun c_102 => ?_) (fun c_102 => ?_)
                · have c_102 : 255 < (nI (w)) := of_decide_eq_true c_102
                  have n_102 : 255 < w := (lt_nI (p := 255) (n := w) (by decide) (by omega)).mp c_102
                  refine ps_st (S' := (110, [], [.int 0], M)) rfl rfl rfl ?_
                  exact ps_ret rfl rfl (⟨congrArg (fun x => some (Value.int (nI x))) (show 0 = mthN l from by
                      rw [mth_pl (k := k) (W := w) h40.1 h40.2 (by rw [← hp, s_pl_0 (by omega)])]
                      rw [if_pos (by omega)]), rfl⟩)
                · have c_102 : ¬ (255 < (nI (w))) := of_decide_eq_false c_102
                  have n_102 : ¬ (255 < w) := fun h9 => c_102 ((lt_nI (p := 255) (n := w) (by decide) (by omega)).mpr h9)
                  refine ps_st (S' := (106, [(0, .ref m0), (1, .int (nI s))], [.int 1], M)) rfl rfl rfl ?_
                  refine ps_st (S' := (110, [], [.int 1], M)) rfl rfl rfl ?_
                  exact ps_ret rfl rfl (⟨congrArg (fun x => some (Value.int (nI x))) (show 1 = mthN l from by
                      rw [mth_pl (k := k) (W := w) h40.1 h40.2 (by rw [← hp, s_pl_0 (by omega)])]
                      rw [if_neg (by omega), if_pos (Or.inl (by omega))]), rfl⟩)
              · have c_79 : ¬ ((nI (l.getD (k + 1) 0)) = 86) := of_decide_eq_false c_79
                have n_79 : ¬ (l.getD (k + 1) 0 = 86) := fun h9 => c_79 ((eq_nI (p := l.getD (k + 1) 0) (n := 86) (by omega) (by decide)).mpr h9)
                refine ps_st (S' := (83, [(0, .ref m0), (1, .int (nI s)), (2, .int (nI l.length)), (3, .int (nI (k + 1)))], [.ref m0], M)) rfl rfl rfl ?_
                refine ps_st (S' := (84, [(0, .ref m0), (1, .int (nI s)), (2, .int (nI l.length)), (3, .int (nI (k + 1)))], [.int (nI s), .ref m0], M)) rfl rfl rfl ?_
                refine ps_st (S' := (85, [(0, .ref m0), (1, .int (nI s)), (2, .int (nI l.length)), (3, .int (nI (k + 1)))], [.int (nI (k + 1)), .int (nI s), .ref m0], M)) rfl rfl rfl ?_
                refine pl_call (a := [.ref m0, .int (nI s), .int (nI (k + 1))]) (rest := []) rfl rfl rfl (rd_fieldText (tx := tx) (cN := cN) (A := A) (s := s) (l := l) (a := (k + 1)) hR hY (hs) (by omega)) (fun v37 M38 q39 => ?_)
                rcases q39 with q39 | q39
                · skip
                  obtain ⟨q85_s, rfl, rfl⟩ := q39
                  show pl _ _ _ (88, [(0, .ref m0), (1, .int (nI s)), (2, .int (nI l.length)), (3, .int (nI (k + 1)))], [.int (-1)], M) _
                  refine ps_st (S' := (89, [(0, .ref m0), (1, .int (nI s)), (2, .int (nI l.length)), (3, .int (nI (k + 1)))], [.int (nI l.length), .int (-1)], M)) rfl rfl rfl ?_
                  refine ps_if2 (S1 := (94, [(0, .ref m0), (1, .int (nI s))], [], M)) (S2 := (92, [(0, .ref m0), (1, .int (nI s)), (2, .int (nI l.length)), (3, .int (nI (k + 1)))], [], M)) rfl rfl rfl (fun c_89 => ?_) (fun c_89 => ?_)
                  · exact absurd (of_decide_eq_true c_89) (m1_ne (by omega))
                  refine ps_st (S' := (93, [(0, .ref m0), (1, .int (nI s)), (2, .int (nI l.length)), (3, .int (nI (k + 1)))], [.int 0], M)) rfl rfl rfl ?_
                  exact ps_ret rfl rfl (⟨congrArg (fun x => some (Value.int (nI x))) (show 0 = mthN l from by
                      rw [mth_pl (k := k) (W := w) h40.1 h40.2 (by rw [← hp, s_pl_0 (by omega)])]
                      by_cases h8 : l.length ≤ k + 1 ∨ 255 < w
                      · rw [if_pos h8]
                      · rw [if_neg h8, if_neg (fun h => h.elim (by omega) (by rw [q85_s]; exact fun h9 => by cases h9))]), rfl⟩)
                · skip
                  obtain ⟨x40, q85_s, q85_l, rfl, rfl⟩ := q39
                  show pl _ _ _ (88, [(0, .ref m0), (1, .int (nI s)), (2, .int (nI l.length)), (3, .int (nI (k + 1)))], [.int (nI x40)], M) _
                  refine ps_st (S' := (89, [(0, .ref m0), (1, .int (nI s)), (2, .int (nI l.length)), (3, .int (nI (k + 1)))], [.int (nI l.length), .int (nI x40)], M)) rfl rfl rfl ?_
                  refine ps_if2 (S1 := (94, [(0, .ref m0), (1, .int (nI s))], [], M)) (S2 := (92, [(0, .ref m0), (1, .int (nI s)), (2, .int (nI l.length)), (3, .int (nI (k + 1)))], [], M)) rfl rfl rfl (fun c_89 => ?_) (fun c_89 => ?_)
                  · have c_89 : (nI x40) = (nI l.length) := of_decide_eq_true c_89
                    have n_89 : x40 = l.length := (eq_nI (p := x40) (n := l.length) (by omega) (by omega)).mp c_89
                    refine ps_st (S' := (95, [(0, .ref m0), (1, .int (nI s))], [.ref m0], M)) rfl rfl rfl ?_
                    refine ps_st (S' := (96, [(0, .ref m0), (1, .int (nI s))], [.int (nI s), .ref m0], M)) rfl rfl rfl ?_
                    refine pl_call (a := [.ref m0, .int (nI s)]) (rest := []) rfl rfl rfl (rd_places0 (tx := tx) (cN := cN) (A := A) (s := s) (l := l) (k0 := k) (W := w) hR hY (hs) (by rw [← hp, s_pl_0 (by omega)]) (by omega)) (fun v41 M42 q43 => ?_)
                    obtain ⟨rfl, rfl⟩ := q43
                    show pl _ _ _ (99, [(0, .ref m0), (1, .int (nI s))], [.int (nI (w))], M) _
                    refine ps_st (S' := (102, [(0, .ref m0), (1, .int (nI s))], [.int 255, .int (nI (w))], M)) rfl rfl rfl ?_
                    refine ps_if2 (S1 := (109, [(0, .ref m0), (1, .int (nI s))], [], M)) (S2 := (105, [(0, .ref m0), (1, .int (nI s))], [], M)) rfl rfl rfl (fun c_102 => ?_) (fun c_102 => ?_)
                    · have c_102 : 255 < (nI (w)) := of_decide_eq_true c_102
                      have n_102 : 255 < w := (lt_nI (p := 255) (n := w) (by decide) (by omega)).mp c_102
                      refine ps_st (S' := (110, [], [.int 0], M)) rfl rfl rfl ?_
                      exact ps_ret rfl rfl (⟨congrArg (fun x => some (Value.int (nI x))) (show 0 = mthN l from by
                          rw [mth_pl (k := k) (W := w) h40.1 h40.2 (by rw [← hp, s_pl_0 (by omega)])]
                          rw [if_pos (by omega)]), rfl⟩)
                    · have c_102 : ¬ (255 < (nI (w))) := of_decide_eq_false c_102
                      have n_102 : ¬ (255 < w) := fun h9 => c_102 ((lt_nI (p := 255) (n := w) (by decide) (by omega)).mpr h9)
                      refine ps_st (S' := (106, [(0, .ref m0), (1, .int (nI s))], [.int 1], M)) rfl rfl rfl ?_
                      refine ps_st (S' := (110, [], [.int 1], M)) rfl rfl rfl ?_
                      exact ps_ret rfl rfl (⟨congrArg (fun x => some (Value.int (nI x))) (show 1 = mthN l from by
                          rw [mth_pl (k := k) (W := w) h40.1 h40.2 (by rw [← hp, s_pl_0 (by omega)])]
                          rw [if_neg (by omega), if_pos (Or.inr (by rw [q85_s, n_89]))]), rfl⟩)
                  · have c_89 : ¬ ((nI x40) = (nI l.length)) := of_decide_eq_false c_89
                    have n_89 : ¬ (x40 = l.length) := fun h9 => c_89 ((eq_nI (p := x40) (n := l.length) (by omega) (by omega)).mpr h9)
                    refine ps_st (S' := (93, [(0, .ref m0), (1, .int (nI s)), (2, .int (nI l.length)), (3, .int (nI (k + 1)))], [.int 0], M)) rfl rfl rfl ?_
                    exact ps_ret rfl rfl (⟨congrArg (fun x => some (Value.int (nI x))) (show 0 = mthN l from by
                        rw [mth_pl (k := k) (W := w) h40.1 h40.2 (by rw [← hp, s_pl_0 (by omega)])]
                        by_cases h8 : l.length ≤ k + 1 ∨ 255 < w
                        · rw [if_pos h8]
                        · rw [if_neg h8, if_neg (fun h => h.elim (by omega) (by rw [q85_s]; exact fun h9 => n_89 (Option.some.inj h9)))]), rfl⟩)
          · have c_56 : ¬ ((nI k) < (nI l.length)) := of_decide_eq_false c_56
            have n_56 : ¬ (k < l.length) := fun h9 => c_56 ((lt_nI (p := k) (n := l.length) (by omega) (by omega)).mpr h9)
            refine ps_st (S' := (60, [(0, .ref m0), (1, .int (nI s)), (2, .int (nI l.length)), (3, .int (nI k))], [.int 0], M)) rfl rfl rfl ?_
            exact ps_ret rfl rfl (⟨congrArg (fun x => some (Value.int (nI x))) (show 0 = mthN l from by
                rw [mth_pl (k := k) (W := w) h40.1 h40.2 (by rw [← hp, s_pl_0 (by omega)])]
                rw [if_pos (by omega)]), rfl⟩)
        · have c_38 : ¬ ((nI (l.getD k 0)) = 41) := of_decide_eq_false c_38
          have n_38 : ¬ (l.getD k 0 = 41) := fun h9 => c_38 ((eq_nI (p := l.getD k 0) (n := 41) (by omega) (by decide)).mpr h9)
          refine ps_st (S' := (42, [(0, .ref m0), (1, .int (nI s)), (2, .int (nI l.length)), (3, .int (nI k))], [.ref m0], M)) rfl rfl rfl ?_
          refine ps_st (S' := (43, [(0, .ref m0), (1, .int (nI s)), (2, .int (nI l.length)), (3, .int (nI k))], [.int (nI s), .ref m0], M)) rfl rfl rfl ?_
          refine ps_st (S' := (44, [(0, .ref m0), (1, .int (nI s)), (2, .int (nI l.length)), (3, .int (nI k))], [.int (nI k), .int (nI s), .ref m0], M)) rfl rfl rfl ?_
          refine pl_call (a := [.ref m0, .int (nI s), .int (nI k)]) (rest := []) rfl rfl rfl (rd_fieldText (tx := tx) (cN := cN) (A := A) (s := s) (l := l) (a := k) hR hY (hs) (by omega)) (fun v44 M45 q46 => ?_)
          rcases q46 with q46 | q46
          · skip
            obtain ⟨q44_s, rfl, rfl⟩ := q46
            show pl _ _ _ (47, [(0, .ref m0), (1, .int (nI s)), (2, .int (nI l.length)), (3, .int (nI k))], [.int (-1)], M) _
            refine ps_st (S' := (48, [(3, .int (-1)), (0, .ref m0), (1, .int (nI s)), (2, .int (nI l.length))], [], M)) rfl rfl rfl ?_
            refine ps_st (S' := (49, [(3, .int (-1)), (0, .ref m0), (1, .int (nI s)), (2, .int (nI l.length))], [.int (-1)], M)) rfl rfl rfl ?_
            refine ps_if (S1 := (25, [(0, .ref m0), (1, .int (nI s)), (2, .int (nI l.length)), (3, .int (-1))], [], M)) (S2 := (52, [(3, .int (-1)), (0, .ref m0), (1, .int (nI s)), (2, .int (nI l.length))], [], M)) rfl rfl rfl (fun c_49 => ?_) (fun c_49 => ?_)
            · exact absurd (of_decide_eq_true c_49) (by decide)
            refine ps_st (S' := (53, [(3, .int (-1)), (0, .ref m0), (1, .int (nI s)), (2, .int (nI l.length))], [.int 0], M)) rfl rfl rfl ?_
            exact ps_ret rfl rfl (⟨congrArg (fun x => some (Value.int (nI x))) (show 0 = mthN l from (mth_nopl h40.1 h40.2 (by rw [← hp, s_pl_bad (by omega) q44_s])).symm), rfl⟩)
          · skip
            obtain ⟨x47, q44_s, q44_l, rfl, rfl⟩ := q46
            show pl _ _ _ (47, [(0, .ref m0), (1, .int (nI s)), (2, .int (nI l.length)), (3, .int (nI k))], [.int (nI x47)], M) _
            refine ps_st (S' := (48, [(3, .int (nI x47)), (0, .ref m0), (1, .int (nI s)), (2, .int (nI l.length))], [], M)) rfl rfl rfl ?_
            refine ps_st (S' := (49, [(3, .int (nI x47)), (0, .ref m0), (1, .int (nI s)), (2, .int (nI l.length))], [.int (nI x47)], M)) rfl rfl rfl ?_
            refine ps_if (S1 := (25, [(0, .ref m0), (1, .int (nI s)), (2, .int (nI l.length)), (3, .int (nI x47))], [], M)) (S2 := (52, [(3, .int (nI x47)), (0, .ref m0), (1, .int (nI s)), (2, .int (nI l.length))], [], M)) rfl rfl rfl (fun c_49 => ?_) (fun c_49 => ?_)
            rotate_left
            · exact absurd (Int32.not_lt.mp (nI_n0 (by omega))) (of_decide_eq_false c_49)
            exact ih (x47) (w + pW (l.getD k 0))  (by have := pW_le (l.getD k 0); omega) (h40) (by
                rw [← hp, s_pl_step (by omega) q44_s])
  refine ps_st (S' := (1, [(0, .ref m0), (1, .int (nI s))], [.ref m0], M)) rfl rfl rfl ?_
  refine ps_st (S' := (2, [(0, .ref m0), (1, .int (nI s))], [.int (nI s), .ref m0], M)) rfl rfl rfl ?_
  refine pl_call (a := [.ref m0, .int (nI s)]) (rest := []) rfl rfl rfl (rd_length (tx := tx) (cN := cN) (A := A) (s := s) (l := l) hR hY (hs)) (fun v48 M49 q50 => ?_)
  obtain ⟨rfl, rfl⟩ := q50
  show pl _ _ _ (5, [(0, .ref m0), (1, .int (nI s))], [.int (nI (l.length))], M) _
  refine ps_st (S' := (6, [(2, .int (nI (l.length))), (0, .ref m0), (1, .int (nI s))], [], M)) rfl rfl rfl ?_
  refine ps_st (S' := (7, [(2, .int (nI (l.length))), (0, .ref m0), (1, .int (nI s))], [.int (nI (l.length))], M)) rfl rfl rfl ?_
  refine ps_if (S1 := (21, [], [], M)) (S2 := (10, [(2, .int (nI (l.length))), (0, .ref m0), (1, .int (nI s))], [], M)) rfl rfl rfl (fun c_7 => ?_) (fun c_7 => ?_)
  · have c_7 : (nI (l.length)) = 0 := of_decide_eq_true c_7
    have n_7 : l.length = 0 := (eq_nI (p := l.length) (n := 0) (by omega) (by decide)).mp c_7
    refine ps_st (S' := (22, [], [.int 0], M)) rfl rfl rfl ?_
    exact ps_ret rfl rfl (⟨congrArg (fun x => some (Value.int (nI x))) (show 0 = mthN l from (mth_no (by omega)).symm), rfl⟩)
  · have c_7 : ¬ ((nI (l.length)) = 0) := of_decide_eq_false c_7
    have n_7 : ¬ (l.length = 0) := fun h9 => c_7 ((eq_nI (p := l.length) (n := 0) (by omega) (by decide)).mpr h9)
    refine ps_st (S' := (11, [(2, .int (nI (l.length))), (0, .ref m0), (1, .int (nI s))], [.ref m0], M)) rfl rfl rfl ?_
    refine ps_st (S' := (12, [(2, .int (nI (l.length))), (0, .ref m0), (1, .int (nI s))], [.int (nI s), .ref m0], M)) rfl rfl rfl ?_
    refine ps_st (S' := (13, [(2, .int (nI (l.length))), (0, .ref m0), (1, .int (nI s))], [.int 0, .int (nI s), .ref m0], M)) rfl rfl rfl ?_
    refine pl_call (a := [.ref m0, .int (nI s), .int 0]) (rest := []) rfl rfl rfl (rd_at (tx := tx) (cN := cN) (A := A) (s := s) (l := l) (k := 0) hR hY (hs) (by omega)) (fun v51 M52 q53 => ?_)
    obtain ⟨rfl, rfl⟩ := q53
    show pl _ _ _ (16, [(2, .int (nI (l.length))), (0, .ref m0), (1, .int (nI s))], [.int (nI (l.getD 0 0))], M) _
    have hc_13 := hY.ch hs (k := 0) (by omega)
    refine ps_st (S' := (18, [(2, .int (nI (l.length))), (0, .ref m0), (1, .int (nI s))], [.int 40, .int (nI (l.getD 0 0))], M)) rfl rfl rfl ?_
    refine ps_if2 (S1 := (23, [(2, .int (nI (l.length))), (0, .ref m0), (1, .int (nI s))], [], M)) (S2 := (21, [], [], M)) rfl rfl rfl (fun c_18 => ?_) (fun c_18 => ?_)
    · have c_18 : (nI (l.getD 0 0)) = 40 := of_decide_eq_true c_18
      have n_18 : l.getD 0 0 = 40 := (eq_nI (p := l.getD 0 0) (n := 40) (by omega) (by decide)).mp c_18
      refine ps_st (S' := (24, [(2, .int (nI (l.length))), (0, .ref m0), (1, .int (nI s))], [.int 1], M)) rfl rfl rfl ?_
      refine ps_st (S' := (25, [(0, .ref m0), (1, .int (nI s)), (2, .int (nI (l.length))), (3, .int 1)], [], M)) rfl rfl rfl ?_
      exact (LL kf) (1) (0)  (by omega) (by omega) (rfl)
    · have c_18 : ¬ ((nI (l.getD 0 0)) = 40) := of_decide_eq_false c_18
      have n_18 : ¬ (l.getD 0 0 = 40) := fun h9 => c_18 ((eq_nI (p := l.getD 0 0) (n := 40) (by omega) (by decide)).mpr h9)
      refine ps_st (S' := (22, [], [.int 0], M)) rfl rfl rfl ?_
      exact ps_ret rfl rfl (⟨congrArg (fun x => some (Value.int (nI x))) (show 0 = mthN l from (mth_no (by omega)).symm), rfl⟩)
set_option maxHeartbeats 1000000 in
theorem rd_endsV {g : xe_G} {m0 : Nat} {q : Nat → Nat} {z : Nat × Nat} {I : rI} {R : rR} {M : mi_H} {tx : List (List Nat)} {cN : Nat} {A : Nat → Nat} {s : Nat} {l : List Nat} (hR : RS g m0 q z I R M)  (hY : SYT tx cN A I R) (hs : s < tx.length ∧ tx.getD s [] = l) (hm : ¬ mthN l = 0) : pt (mT g) 203 [.ref m0, .int (nI s)] M (fun v M' => (v = some (.int (nI (nresN l))) ∧ M = M')) := by
  refine pt_in (b := mb_203 g) rfl (fun kf => ?_)
  show pl (mT g) kf (mb_203 g).2 (0, [(0, .ref m0), (1, .int (nI s))], [], M) _
  have hln := hY.ln hs
  have hts := hY.1.2.2
  have hm2 : 2 ≤ l.length := by
    obtain ⟨-, -, k, W, -, h1, -, h2, -⟩ := mth_in hm
    omega
  refine ps_st (S' := (1, [(0, .ref m0), (1, .int (nI s))], [.ref m0], M)) rfl rfl rfl ?_
  refine ps_st (S' := (2, [(0, .ref m0), (1, .int (nI s))], [.int (nI s), .ref m0], M)) rfl rfl rfl ?_
  refine ps_st (S' := (3, [(0, .ref m0), (1, .int (nI s))], [.ref m0, .int (nI s), .ref m0], M)) rfl rfl rfl ?_
  refine ps_st (S' := (4, [(0, .ref m0), (1, .int (nI s))], [.int (nI s), .ref m0, .int (nI s), .ref m0], M)) rfl rfl rfl ?_
  refine pl_call (a := [.ref m0, .int (nI s)]) (rest := [.int (nI s), .ref m0]) rfl rfl rfl (rd_length (tx := tx) (cN := cN) (A := A) (s := s) (l := l) hR hY (hs)) (fun v1 M2 q3 => ?_)
  obtain ⟨rfl, rfl⟩ := q3
  show pl _ _ _ (7, [(0, .ref m0), (1, .int (nI s))], [.int (nI (l.length)), .int (nI s), .ref m0], M) _
  refine ps_st (S' := (8, [(0, .ref m0), (1, .int (nI s))], [.int 1, .int (nI (l.length)), .int (nI s), .ref m0], M)) rfl rfl rfl ?_
  refine ps_st (S' := (9, [(0, .ref m0), (1, .int (nI s))], [.int ((nI (l.length)) - 1), .int (nI s), .ref m0], M)) rfl rfl rfl ?_
  rw [nI_sub1 (p := l.length) (k := 1) (x := 1) rfl (by omega) (by omega)]
  show pl _ _ _ (_, [(0, .ref m0), (1, .int (nI s))], [.int (nI (l.length - 1)), .int (nI s), .ref m0], M) _
  refine pl_call (a := [.ref m0, .int (nI s), .int (nI (l.length - 1))]) (rest := []) rfl rfl rfl (rd_at (tx := tx) (cN := cN) (A := A) (s := s) (l := l) (k := (l.length - 1)) hR hY (hs) (by omega)) (fun v4 M5 q6 => ?_)
  obtain ⟨rfl, rfl⟩ := q6
  show pl _ _ _ (12, [(0, .ref m0), (1, .int (nI s))], [.int (nI (l.getD (l.length - 1) 0))], M) _
  have hc_9 := hY.ch hs (k := l.length - 1) (by omega)
  refine ps_st (S' := (14, [(0, .ref m0), (1, .int (nI s))], [.int 86, .int (nI (l.getD (l.length - 1) 0))], M)) rfl rfl rfl ?_
  refine ps_if2 (S1 := (38, [], [], M)) (S2 := (17, [(0, .ref m0), (1, .int (nI s))], [], M)) rfl rfl rfl (fun c_14 => ?_) (fun c_14 => ?_)
  · have c_14 : ¬ (nI (l.getD (l.length - 1) 0)) = 86 := of_decide_eq_true c_14
    have n_14 : ¬ (l.getD (l.length - 1) 0 = 86) := fun h9 => c_14 ((eq_nI (p := l.getD (l.length - 1) 0) (n := 86) (by omega) (by decide)).mpr h9)
    refine ps_st (S' := (39, [], [.int 0], M)) rfl rfl rfl ?_
    exact ps_ret rfl rfl (⟨congrArg (fun x => some (Value.int (nI x))) (show 0 = nresN l from by
        obtain ⟨-, -, k, W, -, -, -, -, -, -, hr⟩ := mth_in hm
        rw [hr, if_neg (by omega)]), rfl⟩)
  · have c_14 : ¬ (¬ (nI (l.getD (l.length - 1) 0)) = 86) := of_decide_eq_false c_14
    have n_14 : l.getD (l.length - 1) 0 = 86 := (eq_nI (p := l.getD (l.length - 1) 0) (n := 86) (by omega) (by decide)).mp (Decidable.not_not.mp c_14)
    refine ps_st (S' := (18, [(0, .ref m0), (1, .int (nI s))], [.ref m0], M)) rfl rfl rfl ?_
    refine ps_st (S' := (19, [(0, .ref m0), (1, .int (nI s))], [.int (nI s), .ref m0], M)) rfl rfl rfl ?_
    refine ps_st (S' := (20, [(0, .ref m0), (1, .int (nI s))], [.ref m0, .int (nI s), .ref m0], M)) rfl rfl rfl ?_
    refine ps_st (S' := (21, [(0, .ref m0), (1, .int (nI s))], [.int (nI s), .ref m0, .int (nI s), .ref m0], M)) rfl rfl rfl ?_
    refine pl_call (a := [.ref m0, .int (nI s)]) (rest := [.int (nI s), .ref m0]) rfl rfl rfl (rd_length (tx := tx) (cN := cN) (A := A) (s := s) (l := l) hR hY (hs)) (fun v7 M8 q9 => ?_)
    obtain ⟨rfl, rfl⟩ := q9
    show pl _ _ _ (24, [(0, .ref m0), (1, .int (nI s))], [.int (nI (l.length)), .int (nI s), .ref m0], M) _
    refine ps_st (S' := (25, [(0, .ref m0), (1, .int (nI s))], [.int 2, .int (nI (l.length)), .int (nI s), .ref m0], M)) rfl rfl rfl ?_
    refine ps_st (S' := (26, [(0, .ref m0), (1, .int (nI s))], [.int ((nI (l.length)) - 2), .int (nI s), .ref m0], M)) rfl rfl rfl ?_
    rw [nI_sub1 (p := l.length) (k := 2) (x := 2) rfl (by omega) (by omega)]
    show pl _ _ _ (_, [(0, .ref m0), (1, .int (nI s))], [.int (nI (l.length - 2)), .int (nI s), .ref m0], M) _
    refine pl_call (a := [.ref m0, .int (nI s), .int (nI (l.length - 2))]) (rest := []) rfl rfl rfl (rd_at (tx := tx) (cN := cN) (A := A) (s := s) (l := l) (k := (l.length - 2)) hR hY (hs) (by omega)) (fun v10 M11 q12 => ?_)
    obtain ⟨rfl, rfl⟩ := q12
    show pl _ _ _ (29, [(0, .ref m0), (1, .int (nI s))], [.int (nI (l.getD (l.length - 2) 0))], M) _
    have hc_26 := hY.ch hs (k := l.length - 2) (by omega)
    refine ps_st (S' := (31, [(0, .ref m0), (1, .int (nI s))], [.int 41, .int (nI (l.getD (l.length - 2) 0))], M)) rfl rfl rfl ?_
    refine ps_if2 (S1 := (38, [], [], M)) (S2 := (34, [(0, .ref m0), (1, .int (nI s))], [], M)) rfl rfl rfl (fun c_31 => ?_) (fun c_31 => ?_)
    · have c_31 : ¬ (nI (l.getD (l.length - 2) 0)) = 41 := of_decide_eq_true c_31
      have n_31 : ¬ (l.getD (l.length - 2) 0 = 41) := fun h9 => c_31 ((eq_nI (p := l.getD (l.length - 2) 0) (n := 41) (by omega) (by decide)).mpr h9)
      refine ps_st (S' := (39, [], [.int 0], M)) rfl rfl rfl ?_
      exact ps_ret rfl rfl (⟨congrArg (fun x => some (Value.int (nI x))) (show 0 = nresN l from by
          obtain ⟨-, -, k, W, -, -, -, -, -, -, hr⟩ := mth_in hm
          rw [hr, if_neg (by omega)]), rfl⟩)
    · have c_31 : ¬ (¬ (nI (l.getD (l.length - 2) 0)) = 41) := of_decide_eq_false c_31
      have n_31 : l.getD (l.length - 2) 0 = 41 := (eq_nI (p := l.getD (l.length - 2) 0) (n := 41) (by omega) (by decide)).mp (Decidable.not_not.mp c_31)
      refine ps_st (S' := (35, [(0, .ref m0), (1, .int (nI s))], [.int 1], M)) rfl rfl rfl ?_
      refine ps_st (S' := (39, [], [.int 1], M)) rfl rfl rfl ?_
      exact ps_ret rfl rfl (⟨congrArg (fun x => some (Value.int (nI x))) (show 1 = nresN l from by
          obtain ⟨-, -, k, W, -, -, -, -, -, -, hr⟩ := mth_in hm
          rw [hr, if_pos (by omega)]), rfl⟩)
end
section
/-! the pool as the reference checks it (my own text) -/
section PKA
variable {f : Nat → Int32} {n : Nat} {E : List (Nat × Nat)} {k : Nat}
/-- entries lie in the file -/
def EP (f : Nat → Int32) (n : Nat) (E : List (Nat × Nat)) : Prop := ∀ j p, lk E j = some p → p + 1 ≤ n ∧ (by1 f p = 15 → p + 4 ≤ n) ∧ (7 ≤ by1 f p → p + 3 ≤ n) ∧ (7 ≤ by1 f p ∧ ¬ (by1 f p = 15 ∨ by1 f p = 7 ∨ by1 f p = 8 ∨ by1 f p = 16 ∨ by1 f p = 19 ∨ by1 f p = 20) → p + 5 ≤ n) ∧ ¬ by1 f p = 0
theorem tg_lk (h : ¬ tg f E k = 0) : ∃ p, lk E k = some p ∧ by1 f p = tg f E k := by
  unfold tg at h ⊢
  cases hk : lk E k with
  | none => rw [hk] at h; exact absurd rfl h
  | some p => exact ⟨p, rfl, rfl⟩
theorem tg_of {p : Nat} (h : lk E k = some p) : tg f E k = by1 f p := by
  unfold tg
  rw [h]
theorem tg_none (h : lk E k = none) : tg f E k = 0 := by
  unfold tg
  rw [h]
theorem fi_1 {p : Nat} (h : lk E k = some p) (h7 : 7 ≤ by1 f p ∧ ¬ by1 f p = 15) : fi f E k = by2 f (p + 1) := by
  unfold fi
  rw [h]
  show ixa f p = _
  unfold ixa
  rw [if_neg (by omega), if_neg h7.2]
theorem fi_15 {p : Nat} (h : lk E k = some p) (h7 : by1 f p = 15) : fi f E k = by1 f (p + 1) := by
  unfold fi
  rw [h]
  show ixa f p = _
  unfold ixa
  rw [if_neg (by omega), if_pos h7]
theorem se_15 {p : Nat} (h : lk E k = some p) (h7 : by1 f p = 15) : se f E k = by2 f (p + 2) := by
  unfold se
  rw [h]
  show ixb f p = _
  unfold ixb
  rw [if_neg (by omega), if_pos h7]
theorem se_3 {p : Nat} (h : lk E k = some p) (h7 : 7 ≤ by1 f p ∧ ¬ (by1 f p = 15 ∨ by1 f p = 7 ∨ by1 f p = 8 ∨ by1 f p = 16 ∨ by1 f p = 19 ∨ by1 f p = 20)) : se f E k = by2 f (p + 3) := by
  unfold se
  rw [h]
  show ixb f p = _
  unfold ixb
  rw [if_neg (by omega), if_neg (by omega), if_neg (by omega)]
theorem tx_1 {p : Nat} (h : lk E k = some p) (h1 : by1 f p = 1) : tX f n E k = txo (s_utf f n (p + 1)) := by
  unfold tX
  rw [h]
  show (if by1 f p = 1 then _ else _) = _
  rw [if_pos h1]
theorem RPV.at {tx : List (List Nat)} {N p : Nat} {I : rI} {R : rR} (h : RPV f n E tx N I R) (hk : lk E k = some p) : 1 ≤ k ∧ k < N ∧ R 21 k = some (nI p) := by
  have h1 := h.1 _ (lk_in hk)
  have h2 := h.2.1 k h1.2
  rw [hk] at h2
  exact ⟨h1.1, h1.2, h2⟩
theorem RPV.no {tx : List (List Nat)} {N : Nat} {I : rI} {R : rR} (h : RPV f n E tx N I R) (hk : lk E k = none) (hN : k < N) : R 21 k = some (-1) := by
  have h2 := h.2.1 k hN
  rw [hk] at h2
  exact h2
theorem RPV.sy {tx : List (List Nat)} {N : Nat} {I : rI} {R : rR} (h : RPV f n E tx N I R) (ht : tg f E k = 1) : k < N ∧ ∃ s, R 22 k = some (nI s) ∧ s < tx.length ∧ tx.getD s [] = tX f n E k := by
  obtain ⟨p, hp, e⟩ := tg_lk (f := f) (E := E) (k := k) (by omega)
  obtain ⟨s, a, b, c⟩ := h.2.2 k p hp (by omega)
  exact ⟨(h.at hp).2.1, s, a, b, by rw [tx_1 hp (by omega)]; exact c⟩
theorem sym_eq {tx : List (List Nat)} {cN : Nat} {A : Nat → Nat} {I : rI} {R : rR} {s t : Nat} {l m : List Nat} (h : SYT tx cN A I R) (hs : s < tx.length ∧ tx.getD s [] = l) (ht : t < tx.length ∧ tx.getD t [] = m) : s = t ↔ ¬ eqN l m = 0 := by
  unfold eqN
  constructor
  · intro e
    rw [if_pos (by rw [← hs.2, ← ht.2, e])]
    decide
  · intro h9
    by_cases e : l = m
    · exact h.2.2.2.2 s t hs.1 ht.1 (by rw [hs.2, ht.2, e])
    · rw [if_neg e] at h9
      exact absurd rfl h9
theorem lt_eq : ltx 25 = ltx 14 ∧ ltx 25 = ltx 12 ∧ ltx 26 = ltx 13 ∧ ltx 27 = ltx 11 := by decide +kernel
theorem mem_of (h : ¬ memN f E k = 0) : tg f E (fi f E k) = 7 ∧ tg f E (fi f E (fi f E k)) = 1 ∧ ¬ pairN f E (se f E k) = 0 := by
  unfold memN at h
  split at h
  · rename_i h1
    exact h1
  · exact absurd rfl h
theorem pair_of (h : ¬ pairN f E k = 0) : tg f E k = 12 ∧ tg f E (fi f E k) = 1 ∧ tg f E (se f E k) = 1 := by
  unfold pairN at h
  split at h
  · rename_i h1
    exact h1
  · exact absurd rfl h
end PKA

theorem le1_unq0 (l : List Nat) : unq0 l < 2 := by unfold unq0; split <;> decide
def CP (f : Nat → Int32) (n : Nat) (E : List (Nat × Nat)) : Prop := ∀ k, tg f E k = 7 → tg f E (fi f E k) = 1 ∧ 0 < (tX f n E (fi f E k)).length
theorem lnk_7 {f : Nat → Int32} {E : List (Nat × Nat)} {k : Nat} : tg f E k = 7 → (lnkN f E k = 0 ↔ ¬ tg f E (fi f E k) = 1) := fun h => by
  unfold lnkN
  rw [if_pos (Or.inl h)]
  split <;> omega
theorem ism_9 {f : Nat → Int32} {E : List (Nat × Nat)} {k : Nat} : ismN f E k = 0 ↔ ¬ (9 ≤ tg f E k ∧ tg f E k ≤ 11) := by
  unfold ismN
  split <;> omega
theorem pair_9 {f : Nat → Int32} {E : List (Nat × Nat)} {k : Nat} : pairN f E k = 0 ↔ ¬ (tg f E k = 12 ∧ tg f E (fi f E k) = 1 ∧ tg f E (se f E k) = 1) := by
  unfold pairN
  split <;> omega
theorem mem_9 {f : Nat → Int32} {E : List (Nat × Nat)} {k : Nat} : memN f E k = 0 ↔ ¬ (tg f E (fi f E k) = 7 ∧ tg f E (fi f E (fi f E k)) = 1 ∧ ¬ pairN f E (se f E k) = 0) := by
  unfold memN
  split <;> omega
set_option maxHeartbeats 1000000 in
theorem rd_tagS {g : xe_G} {m0 : Nat} {q : Nat → Nat} {z : Nat × Nat} {I : rI} {R : rR} {M : mi_H} {n : Nat} {f : Nat → Int32} {tx : List (List Nat)} {cN : Nat} {A : Nat → Nat} {N mj : Nat} {E : List (Nat × Nat)} {k p : Nat} (hR : RS g m0 q z I R M) (hi51 : I 51 = some 0) (hi52 : I 52 = some (nI N)) (hi53 : I 53 = some (nI mj)) (hF : FK n f I R) (hY : SYT tx cN A I R) (hP : RPV f n E tx N I R) (hEP : EP f n E) (hN : N < 65536) (hmj : mj < 65536) (hk : lk E k = some p) : pt (mT g) 247 [.ref m0, .int (nI k)] M (fun v M' => (v = some (.int (nI (by1 f p))) ∧ M = M')) := by
  refine pt_in (b := mb_247 g) rfl (fun kf => ?_)
  show pl (mT g) kf (mb_247 g).2 (0, [(0, .ref m0), (1, .int (nI k))], [], M) _
  have hn := hF.1
  have ha := hP.at hk
  have hp := (hEP k p hk).1
  refine ps_st (S' := (1, [(0, .ref m0), (1, .int (nI k))], [.int (nI k)], M)) rfl rfl rfl ?_
  refine ps_if (S1 := (26, [], [], M)) (S2 := (4, [(0, .ref m0), (1, .int (nI k))], [], M)) rfl rfl rfl (fun c_1 => ?_) (fun c_1 => ?_)
  · have c_1 : (nI k) ≤ 0 := of_decide_eq_true c_1
    have n_1 : k ≤ 0 := (le_nI (p := k) (n := 0) (by omega) (by decide)).mp c_1
    refine ps_st (S' := (27, [], [.int 0], M)) rfl rfl rfl ?_
    refine ps_st (S' := (45, [], [.int 0], M)) rfl rfl rfl ?_
    exact ps_ret rfl rfl (⟨by exfalso; omega, rfl⟩)
  · have c_1 : ¬ ((nI k) ≤ 0) := of_decide_eq_false c_1
    have n_1 : ¬ (k ≤ 0) := fun h9 => c_1 ((le_nI (p := k) (n := 0) (by omega) (by decide)).mpr h9)
    refine ps_st (S' := (5, [(0, .ref m0), (1, .int (nI k))], [.int (nI k)], M)) rfl rfl rfl ?_
    refine ps_st (S' := (6, [(0, .ref m0), (1, .int (nI k))], [.ref m0, .int (nI k)], M)) rfl rfl rfl ?_
    refine pr_int (j := 52) (S' := (9, [(0, .ref m0), (1, .int (nI k))], [.int (nI N), .int (nI k)], M)) rfl hR rfl hi52 rfl ?_
    refine ps_if2 (S1 := (26, [], [], M)) (S2 := (12, [(0, .ref m0), (1, .int (nI k))], [], M)) rfl rfl rfl (fun c_9 => ?_) (fun c_9 => ?_)
    · have c_9 : (nI N) ≤ (nI k) := of_decide_eq_true c_9
      have n_9 : N ≤ k := (le_nI (p := N) (n := k) (by omega) (by omega)).mp c_9
      refine ps_st (S' := (27, [], [.int 0], M)) rfl rfl rfl ?_
      refine ps_st (S' := (45, [], [.int 0], M)) rfl rfl rfl ?_
      exact ps_ret rfl rfl (⟨by exfalso; omega, rfl⟩)
    · have c_9 : ¬ ((nI N) ≤ (nI k)) := of_decide_eq_false c_9
      have n_9 : ¬ (N ≤ k) := fun h9 => c_9 ((le_nI (p := N) (n := k) (by omega) (by omega)).mpr h9)
      refine ps_st (S' := (13, [(0, .ref m0), (1, .int (nI k))], [.ref m0], M)) rfl rfl rfl ?_
      refine pr_ref (j := 21) (S' := (16, [(0, .ref m0), (1, .int (nI k))], [.ref (q 21)], M)) rfl hR rfl rfl ?_
      refine ps_st (S' := (17, [(0, .ref m0), (1, .int (nI k))], [.ref m0, .ref (q 21)], M)) rfl rfl rfl ?_
      refine pr_int (j := 51) (S' := (20, [(0, .ref m0), (1, .int (nI k))], [.int 0, .ref (q 21)], M)) rfl hR rfl hi51 rfl ?_
      refine ps_st (S' := (21, [(0, .ref m0), (1, .int (nI k))], [.int (nI k), .int 0, .ref (q 21)], M)) rfl rfl rfl ?_
      refine ps_st (S' := (22, [(0, .ref m0), (1, .int (nI k))], [.int (0 + (nI k)), .ref (q 21)], M)) rfl rfl rfl ?_
      rw [show (0 : Int32) + (nI k) = (nI k) from Int32.zero_add _]
      show pl _ _ _ (_, [(0, .ref m0), (1, .int (nI k))], [.int (nI k), .ref (q 21)], M) _
      refine pr_ld (a := 21) (j := k) (y := (nI p)) (S' := (23, [(0, .ref m0), (1, .int (nI k))], [.int (nI p)], M)) rfl hR rfl (by omega) (fun _ => ha.2.2) rfl (fun i1_22 => ?_)
      refine ps_if (S1 := (30, [(0, .ref m0), (1, .int (nI k))], [], M)) (S2 := (26, [], [], M)) rfl rfl rfl (fun c_23 => ?_) (fun c_23 => ?_)
      rotate_left
      · exact absurd ((le_nI (p := 0) (n := p) (by decide) (by omega)).mpr (by omega)) (of_decide_eq_false c_23)
      refine ps_st (S' := (31, [(0, .ref m0), (1, .int (nI k))], [.ref m0], M)) rfl rfl rfl ?_
      refine ps_st (S' := (32, [(0, .ref m0), (1, .int (nI k))], [.ref m0, .ref m0], M)) rfl rfl rfl ?_
      refine pr_ref (j := 21) (S' := (35, [(0, .ref m0), (1, .int (nI k))], [.ref (q 21), .ref m0], M)) rfl hR rfl rfl ?_
      refine ps_st (S' := (36, [(0, .ref m0), (1, .int (nI k))], [.ref m0, .ref (q 21), .ref m0], M)) rfl rfl rfl ?_
      refine pr_int (j := 51) (S' := (39, [(0, .ref m0), (1, .int (nI k))], [.int 0, .ref (q 21), .ref m0], M)) rfl hR rfl hi51 rfl ?_
      refine ps_st (S' := (40, [(0, .ref m0), (1, .int (nI k))], [.int (nI k), .int 0, .ref (q 21), .ref m0], M)) rfl rfl rfl ?_
      refine ps_st (S' := (41, [(0, .ref m0), (1, .int (nI k))], [.int (0 + (nI k)), .ref (q 21), .ref m0], M)) rfl rfl rfl ?_
      rw [show (0 : Int32) + (nI k) = (nI k) from Int32.zero_add _]
      show pl _ _ _ (_, [(0, .ref m0), (1, .int (nI k))], [.int (nI k), .ref (q 21), .ref m0], M) _
      refine pr_ld (a := 21) (j := k) (y := (nI p)) (S' := (42, [(0, .ref m0), (1, .int (nI k))], [.int (nI p), .ref m0], M)) rfl hR rfl (by omega) (fun _ => ha.2.2) rfl (fun i1_41 => ?_)
      refine pl_call (a := [.ref m0, .int (nI p)]) (rest := []) rfl rfl rfl (rd_u1 (n := n) (f := f) (p := p) hR hF (by omega)) (fun v1 M2 q3 => ?_)
      obtain ⟨rfl, rfl⟩ := q3
      show pl _ _ _ (45, [], [.int (nI (by1 f p))], M) _
      have hu_42 := by1_lt f p
      exact ps_reti rfl (⟨rfl, rfl⟩)
set_option maxHeartbeats 1000000 in
theorem rd_tagN {g : xe_G} {m0 : Nat} {q : Nat → Nat} {z : Nat × Nat} {I : rI} {R : rR} {M : mi_H} {n : Nat} {f : Nat → Int32} {tx : List (List Nat)} {cN : Nat} {A : Nat → Nat} {N mj : Nat} {E : List (Nat × Nat)} {k : Nat} (hR : RS g m0 q z I R M) (hi51 : I 51 = some 0) (hi52 : I 52 = some (nI N)) (hi53 : I 53 = some (nI mj)) (hF : FK n f I R) (hY : SYT tx cN A I R) (hP : RPV f n E tx N I R) (hEP : EP f n E) (hN : N < 65536) (hmj : mj < 65536) (hk : lk E k = none) (hk2 : k < 65536) : pt (mT g) 247 [.ref m0, .int (nI k)] M (fun v M' => (v = some (.int (nI (0))) ∧ M = M')) := by
  refine pt_in (b := mb_247 g) rfl (fun kf => ?_)
  show pl (mT g) kf (mb_247 g).2 (0, [(0, .ref m0), (1, .int (nI k))], [], M) _
  have hn := hF.1
  refine ps_st (S' := (1, [(0, .ref m0), (1, .int (nI k))], [.int (nI k)], M)) rfl rfl rfl ?_
  refine ps_if (S1 := (26, [], [], M)) (S2 := (4, [(0, .ref m0), (1, .int (nI k))], [], M)) rfl rfl rfl (fun c_1 => ?_) (fun c_1 => ?_)
  · have c_1 : (nI k) ≤ 0 := of_decide_eq_true c_1
    have n_1 : k ≤ 0 := (le_nI (p := k) (n := 0) (by omega) (by decide)).mp c_1
    refine ps_st (S' := (27, [], [.int 0], M)) rfl rfl rfl ?_
    refine ps_st (S' := (45, [], [.int 0], M)) rfl rfl rfl ?_
    exact ps_ret rfl rfl (⟨rfl, rfl⟩)
  · have c_1 : ¬ ((nI k) ≤ 0) := of_decide_eq_false c_1
    have n_1 : ¬ (k ≤ 0) := fun h9 => c_1 ((le_nI (p := k) (n := 0) (by omega) (by decide)).mpr h9)
    refine ps_st (S' := (5, [(0, .ref m0), (1, .int (nI k))], [.int (nI k)], M)) rfl rfl rfl ?_
    refine ps_st (S' := (6, [(0, .ref m0), (1, .int (nI k))], [.ref m0, .int (nI k)], M)) rfl rfl rfl ?_
    refine pr_int (j := 52) (S' := (9, [(0, .ref m0), (1, .int (nI k))], [.int (nI N), .int (nI k)], M)) rfl hR rfl hi52 rfl ?_
    refine ps_if2 (S1 := (26, [], [], M)) (S2 := (12, [(0, .ref m0), (1, .int (nI k))], [], M)) rfl rfl rfl (fun c_9 => ?_) (fun c_9 => ?_)
    · have c_9 : (nI N) ≤ (nI k) := of_decide_eq_true c_9
      have n_9 : N ≤ k := (le_nI (p := N) (n := k) (by omega) (by omega)).mp c_9
      refine ps_st (S' := (27, [], [.int 0], M)) rfl rfl rfl ?_
      refine ps_st (S' := (45, [], [.int 0], M)) rfl rfl rfl ?_
      exact ps_ret rfl rfl (⟨rfl, rfl⟩)
    · have c_9 : ¬ ((nI N) ≤ (nI k)) := of_decide_eq_false c_9
      have n_9 : ¬ (N ≤ k) := fun h9 => c_9 ((le_nI (p := N) (n := k) (by omega) (by omega)).mpr h9)
      refine ps_st (S' := (13, [(0, .ref m0), (1, .int (nI k))], [.ref m0], M)) rfl rfl rfl ?_
      refine pr_ref (j := 21) (S' := (16, [(0, .ref m0), (1, .int (nI k))], [.ref (q 21)], M)) rfl hR rfl rfl ?_
      refine ps_st (S' := (17, [(0, .ref m0), (1, .int (nI k))], [.ref m0, .ref (q 21)], M)) rfl rfl rfl ?_
      refine pr_int (j := 51) (S' := (20, [(0, .ref m0), (1, .int (nI k))], [.int 0, .ref (q 21)], M)) rfl hR rfl hi51 rfl ?_
      refine ps_st (S' := (21, [(0, .ref m0), (1, .int (nI k))], [.int (nI k), .int 0, .ref (q 21)], M)) rfl rfl rfl ?_
      refine ps_st (S' := (22, [(0, .ref m0), (1, .int (nI k))], [.int (0 + (nI k)), .ref (q 21)], M)) rfl rfl rfl ?_
      rw [show (0 : Int32) + (nI k) = (nI k) from Int32.zero_add _]
      show pl _ _ _ (_, [(0, .ref m0), (1, .int (nI k))], [.int (nI k), .ref (q 21)], M) _
      refine pr_ld (a := 21) (j := k) (y := -1) (S' := (23, [(0, .ref m0), (1, .int (nI k))], [.int (-1)], M)) rfl hR rfl (by omega) (fun _ => hP.no hk (by omega)) rfl (fun i1_22 => ?_)
      refine ps_if (S1 := (30, [(0, .ref m0), (1, .int (nI k))], [], M)) (S2 := (26, [], [], M)) rfl rfl rfl (fun c_23 => ?_) (fun c_23 => ?_)
      · exact absurd (of_decide_eq_true c_23) (by decide)
      refine ps_st (S' := (27, [], [.int 0], M)) rfl rfl rfl ?_
      refine ps_st (S' := (45, [], [.int 0], M)) rfl rfl rfl ?_
      exact ps_ret rfl rfl (⟨rfl, rfl⟩)
theorem rd_tag {g : xe_G} {m0 : Nat} {q : Nat → Nat} {z : Nat × Nat} {I : rI} {R : rR} {M : mi_H} {n : Nat} {f : Nat → Int32} {tx : List (List Nat)} {cN : Nat} {A : Nat → Nat} {N mj : Nat} {E : List (Nat × Nat)} {k : Nat} (hR : RS g m0 q z I R M) (hi51 : I 51 = some 0) (hi52 : I 52 = some (nI N)) (hi53 : I 53 = some (nI mj)) (hF : FK n f I R) (hY : SYT tx cN A I R) (hP : RPV f n E tx N I R) (hEP : EP f n E) (hN : N < 65536) (hmj : mj < 65536) (hk : k < 65536) : pt (mT g) 247 [.ref m0, .int (nI k)] M (fun v M' => (v = some (.int (nI (tg f E k))) ∧ M = M')) := by
  cases h : lk E k with
  | none =>
    rw [tg_none h]
    exact rd_tagN hR hi51 hi52 hi53 hF hY hP hEP hN hmj h hk
  | some p =>
    rw [tg_of h]
    exact rd_tagS hR hi51 hi52 hi53 hF hY hP hEP hN hmj h
set_option maxHeartbeats 1000000 in
theorem rd_idx1 {g : xe_G} {m0 : Nat} {q : Nat → Nat} {z : Nat × Nat} {I : rI} {R : rR} {M : mi_H} {n : Nat} {f : Nat → Int32} {tx : List (List Nat)} {cN : Nat} {A : Nat → Nat} {N mj : Nat} {E : List (Nat × Nat)} {k : Nat} (hR : RS g m0 q z I R M) (hi51 : I 51 = some 0) (hi52 : I 52 = some (nI N)) (hi53 : I 53 = some (nI mj)) (hF : FK n f I R) (hY : SYT tx cN A I R) (hP : RPV f n E tx N I R) (hEP : EP f n E) (hN : N < 65536) (hmj : mj < 65536) (ht : 7 ≤ tg f E k ∧ ¬ tg f E k = 15) : pt (mT g) 213 [.ref m0, .int (nI k), .int 1] M (fun v M' => (v = some (.int (nI (fi f E k))) ∧ M = M')) := by
  refine pt_in (b := mb_213 g) rfl (fun kf => ?_)
  show pl (mT g) kf (mb_213 g).2 (0, [(0, .ref m0), (1, .int (nI k)), (2, .int 1)], [], M) _
  have hn := hF.1
  obtain ⟨p, hk, hb⟩ := tg_lk (f := f) (E := E) (k := k) (by omega)
  have ha := hP.at hk
  have hep := hEP k p hk
  refine ps_st (S' := (1, [(0, .ref m0), (1, .int (nI k)), (2, .int 1)], [.ref m0], M)) rfl rfl rfl ?_
  refine ps_st (S' := (2, [(0, .ref m0), (1, .int (nI k)), (2, .int 1)], [.ref m0, .ref m0], M)) rfl rfl rfl ?_
  refine pr_ref (j := 21) (S' := (5, [(0, .ref m0), (1, .int (nI k)), (2, .int 1)], [.ref (q 21), .ref m0], M)) rfl hR rfl rfl ?_
  refine ps_st (S' := (6, [(0, .ref m0), (1, .int (nI k)), (2, .int 1)], [.ref m0, .ref (q 21), .ref m0], M)) rfl rfl rfl ?_
  refine pr_int (j := 51) (S' := (9, [(0, .ref m0), (1, .int (nI k)), (2, .int 1)], [.int 0, .ref (q 21), .ref m0], M)) rfl hR rfl hi51 rfl ?_
  refine ps_st (S' := (10, [(0, .ref m0), (1, .int (nI k)), (2, .int 1)], [.int (nI k), .int 0, .ref (q 21), .ref m0], M)) rfl rfl rfl ?_
  refine ps_st (S' := (11, [(0, .ref m0), (1, .int (nI k)), (2, .int 1)], [.int (0 + (nI k)), .ref (q 21), .ref m0], M)) rfl rfl rfl ?_
  rw [show (0 : Int32) + (nI k) = (nI k) from Int32.zero_add _]
  show pl _ _ _ (_, [(0, .ref m0), (1, .int (nI k)), (2, .int 1)], [.int (nI k), .ref (q 21), .ref m0], M) _
  refine pr_ld (a := 21) (j := k) (y := (nI p)) (S' := (12, [(0, .ref m0), (1, .int (nI k)), (2, .int 1)], [.int (nI p), .ref m0], M)) rfl hR rfl (by omega) (fun _ => ha.2.2) rfl (fun i1_11 => ?_)
  refine ps_st (S' := (13, [(0, .ref m0), (1, .int (nI k)), (2, .int 1)], [.int 1, .int (nI p), .ref m0], M)) rfl rfl rfl ?_
  refine ps_st (S' := (14, [(0, .ref m0), (1, .int (nI k)), (2, .int 1)], [.int ((nI p) + 1), .ref m0], M)) rfl rfl rfl ?_
  rw [nI_add1 (p := p) (k := 1) (x := 1) rfl (by omega)]
  show pl _ _ _ (_, [(0, .ref m0), (1, .int (nI k)), (2, .int 1)], [.int (nI (p + 1)), .ref m0], M) _
  refine pl_call (a := [.ref m0, .int (nI (p + 1))]) (rest := []) rfl rfl rfl (rd_u2 (n := n) (f := f) (p := (p + 1)) hR hF (by omega)) (fun v1 M2 q3 => ?_)
  obtain ⟨rfl, rfl⟩ := q3
  show pl _ _ _ (17, [(0, .ref m0), (1, .int (nI k)), (2, .int 1)], [.int (nI (by2 f (p + 1)))], M) _
  have hu_14 := by2_lt f (p + 1)
  exact ps_reti rfl (⟨by rw [fi_1 hk (by omega)], rfl⟩)
set_option maxHeartbeats 1000000 in
theorem rd_idx3 {g : xe_G} {m0 : Nat} {q : Nat → Nat} {z : Nat × Nat} {I : rI} {R : rR} {M : mi_H} {n : Nat} {f : Nat → Int32} {tx : List (List Nat)} {cN : Nat} {A : Nat → Nat} {N mj : Nat} {E : List (Nat × Nat)} {k : Nat} (hR : RS g m0 q z I R M) (hi51 : I 51 = some 0) (hi52 : I 52 = some (nI N)) (hi53 : I 53 = some (nI mj)) (hF : FK n f I R) (hY : SYT tx cN A I R) (hP : RPV f n E tx N I R) (hEP : EP f n E) (hN : N < 65536) (hmj : mj < 65536) (ht : 7 ≤ tg f E k ∧ ¬ (tg f E k = 15 ∨ tg f E k = 7 ∨ tg f E k = 8 ∨ tg f E k = 16 ∨ tg f E k = 19 ∨ tg f E k = 20)) : pt (mT g) 213 [.ref m0, .int (nI k), .int 3] M (fun v M' => (v = some (.int (nI (se f E k))) ∧ M = M')) := by
  refine pt_in (b := mb_213 g) rfl (fun kf => ?_)
  show pl (mT g) kf (mb_213 g).2 (0, [(0, .ref m0), (1, .int (nI k)), (2, .int 3)], [], M) _
  have hn := hF.1
  obtain ⟨p, hk, hb⟩ := tg_lk (f := f) (E := E) (k := k) (by omega)
  have ha := hP.at hk
  have hep := hEP k p hk
  refine ps_st (S' := (1, [(0, .ref m0), (1, .int (nI k)), (2, .int 3)], [.ref m0], M)) rfl rfl rfl ?_
  refine ps_st (S' := (2, [(0, .ref m0), (1, .int (nI k)), (2, .int 3)], [.ref m0, .ref m0], M)) rfl rfl rfl ?_
  refine pr_ref (j := 21) (S' := (5, [(0, .ref m0), (1, .int (nI k)), (2, .int 3)], [.ref (q 21), .ref m0], M)) rfl hR rfl rfl ?_
  refine ps_st (S' := (6, [(0, .ref m0), (1, .int (nI k)), (2, .int 3)], [.ref m0, .ref (q 21), .ref m0], M)) rfl rfl rfl ?_
  refine pr_int (j := 51) (S' := (9, [(0, .ref m0), (1, .int (nI k)), (2, .int 3)], [.int 0, .ref (q 21), .ref m0], M)) rfl hR rfl hi51 rfl ?_
  refine ps_st (S' := (10, [(0, .ref m0), (1, .int (nI k)), (2, .int 3)], [.int (nI k), .int 0, .ref (q 21), .ref m0], M)) rfl rfl rfl ?_
  refine ps_st (S' := (11, [(0, .ref m0), (1, .int (nI k)), (2, .int 3)], [.int (0 + (nI k)), .ref (q 21), .ref m0], M)) rfl rfl rfl ?_
  rw [show (0 : Int32) + (nI k) = (nI k) from Int32.zero_add _]
  show pl _ _ _ (_, [(0, .ref m0), (1, .int (nI k)), (2, .int 3)], [.int (nI k), .ref (q 21), .ref m0], M) _
  refine pr_ld (a := 21) (j := k) (y := (nI p)) (S' := (12, [(0, .ref m0), (1, .int (nI k)), (2, .int 3)], [.int (nI p), .ref m0], M)) rfl hR rfl (by omega) (fun _ => ha.2.2) rfl (fun i1_11 => ?_)
  refine ps_st (S' := (13, [(0, .ref m0), (1, .int (nI k)), (2, .int 3)], [.int 3, .int (nI p), .ref m0], M)) rfl rfl rfl ?_
  refine ps_st (S' := (14, [(0, .ref m0), (1, .int (nI k)), (2, .int 3)], [.int ((nI p) + 3), .ref m0], M)) rfl rfl rfl ?_
  rw [nI_add1 (p := p) (k := 3) (x := 3) rfl (by omega)]
  show pl _ _ _ (_, [(0, .ref m0), (1, .int (nI k)), (2, .int 3)], [.int (nI (p + 3)), .ref m0], M) _
  refine pl_call (a := [.ref m0, .int (nI (p + 3))]) (rest := []) rfl rfl rfl (rd_u2 (n := n) (f := f) (p := (p + 3)) hR hF (by omega)) (fun v1 M2 q3 => ?_)
  obtain ⟨rfl, rfl⟩ := q3
  show pl _ _ _ (17, [(0, .ref m0), (1, .int (nI k)), (2, .int 3)], [.int (nI (by2 f (p + 3)))], M) _
  have hu_14 := by2_lt f (p + 3)
  exact ps_reti rfl (⟨by rw [se_3 hk (by omega)], rfl⟩)
set_option maxHeartbeats 1000000 in
theorem rd_idx2 {g : xe_G} {m0 : Nat} {q : Nat → Nat} {z : Nat × Nat} {I : rI} {R : rR} {M : mi_H} {n : Nat} {f : Nat → Int32} {tx : List (List Nat)} {cN : Nat} {A : Nat → Nat} {N mj : Nat} {E : List (Nat × Nat)} {k : Nat} (hR : RS g m0 q z I R M) (hi51 : I 51 = some 0) (hi52 : I 52 = some (nI N)) (hi53 : I 53 = some (nI mj)) (hF : FK n f I R) (hY : SYT tx cN A I R) (hP : RPV f n E tx N I R) (hEP : EP f n E) (hN : N < 65536) (hmj : mj < 65536) (ht : tg f E k = 15) : pt (mT g) 213 [.ref m0, .int (nI k), .int 2] M (fun v M' => (v = some (.int (nI (se f E k))) ∧ M = M')) := by
  refine pt_in (b := mb_213 g) rfl (fun kf => ?_)
  show pl (mT g) kf (mb_213 g).2 (0, [(0, .ref m0), (1, .int (nI k)), (2, .int 2)], [], M) _
  have hn := hF.1
  obtain ⟨p, hk, hb⟩ := tg_lk (f := f) (E := E) (k := k) (by omega)
  have ha := hP.at hk
  have hep := hEP k p hk
  refine ps_st (S' := (1, [(0, .ref m0), (1, .int (nI k)), (2, .int 2)], [.ref m0], M)) rfl rfl rfl ?_
  refine ps_st (S' := (2, [(0, .ref m0), (1, .int (nI k)), (2, .int 2)], [.ref m0, .ref m0], M)) rfl rfl rfl ?_
  refine pr_ref (j := 21) (S' := (5, [(0, .ref m0), (1, .int (nI k)), (2, .int 2)], [.ref (q 21), .ref m0], M)) rfl hR rfl rfl ?_
  refine ps_st (S' := (6, [(0, .ref m0), (1, .int (nI k)), (2, .int 2)], [.ref m0, .ref (q 21), .ref m0], M)) rfl rfl rfl ?_
  refine pr_int (j := 51) (S' := (9, [(0, .ref m0), (1, .int (nI k)), (2, .int 2)], [.int 0, .ref (q 21), .ref m0], M)) rfl hR rfl hi51 rfl ?_
  refine ps_st (S' := (10, [(0, .ref m0), (1, .int (nI k)), (2, .int 2)], [.int (nI k), .int 0, .ref (q 21), .ref m0], M)) rfl rfl rfl ?_
  refine ps_st (S' := (11, [(0, .ref m0), (1, .int (nI k)), (2, .int 2)], [.int (0 + (nI k)), .ref (q 21), .ref m0], M)) rfl rfl rfl ?_
  rw [show (0 : Int32) + (nI k) = (nI k) from Int32.zero_add _]
  show pl _ _ _ (_, [(0, .ref m0), (1, .int (nI k)), (2, .int 2)], [.int (nI k), .ref (q 21), .ref m0], M) _
  refine pr_ld (a := 21) (j := k) (y := (nI p)) (S' := (12, [(0, .ref m0), (1, .int (nI k)), (2, .int 2)], [.int (nI p), .ref m0], M)) rfl hR rfl (by omega) (fun _ => ha.2.2) rfl (fun i1_11 => ?_)
  refine ps_st (S' := (13, [(0, .ref m0), (1, .int (nI k)), (2, .int 2)], [.int 2, .int (nI p), .ref m0], M)) rfl rfl rfl ?_
  refine ps_st (S' := (14, [(0, .ref m0), (1, .int (nI k)), (2, .int 2)], [.int ((nI p) + 2), .ref m0], M)) rfl rfl rfl ?_
  rw [nI_add1 (p := p) (k := 2) (x := 2) rfl (by omega)]
  show pl _ _ _ (_, [(0, .ref m0), (1, .int (nI k)), (2, .int 2)], [.int (nI (p + 2)), .ref m0], M) _
  refine pl_call (a := [.ref m0, .int (nI (p + 2))]) (rest := []) rfl rfl rfl (rd_u2 (n := n) (f := f) (p := (p + 2)) hR hF (by omega)) (fun v1 M2 q3 => ?_)
  obtain ⟨rfl, rfl⟩ := q3
  show pl _ _ _ (17, [(0, .ref m0), (1, .int (nI k)), (2, .int 2)], [.int (nI (by2 f (p + 2)))], M) _
  have hu_14 := by2_lt f (p + 2)
  exact ps_reti rfl (⟨by rw [se_15 hk (by omega)], rfl⟩)
set_option maxHeartbeats 1000000 in
theorem rd_symOf {g : xe_G} {m0 : Nat} {q : Nat → Nat} {z : Nat × Nat} {I : rI} {R : rR} {M : mi_H} {n : Nat} {f : Nat → Int32} {tx : List (List Nat)} {cN : Nat} {A : Nat → Nat} {N mj : Nat} {E : List (Nat × Nat)} {k : Nat} (hR : RS g m0 q z I R M) (hi51 : I 51 = some 0) (hi52 : I 52 = some (nI N)) (hi53 : I 53 = some (nI mj)) (hF : FK n f I R) (hY : SYT tx cN A I R) (hP : RPV f n E tx N I R) (hEP : EP f n E) (hN : N < 65536) (hmj : mj < 65536) (ht : tg f E k = 1) : pt (mT g) 244 [.ref m0, .int (nI k)] M (fun v M' => (∃ (s : Nat), (s < tx.length ∧ tx.getD s [] = tX f n E k) ∧ v = some (.int (nI s)) ∧ M = M')) := by
  refine pt_in (b := mb_244 g) rfl (fun kf => ?_)
  show pl (mT g) kf (mb_244 g).2 (0, [(0, .ref m0), (1, .int (nI k))], [], M) _
  have hn := hF.1
  obtain ⟨hkN, s, h1, h2, h3⟩ := hP.sy ht
  refine ps_st (S' := (1, [(0, .ref m0), (1, .int (nI k))], [.ref m0], M)) rfl rfl rfl ?_
  refine pr_ref (j := 22) (S' := (4, [(0, .ref m0), (1, .int (nI k))], [.ref (q 22)], M)) rfl hR rfl rfl ?_
  refine ps_st (S' := (5, [(0, .ref m0), (1, .int (nI k))], [.ref m0, .ref (q 22)], M)) rfl rfl rfl ?_
  refine pr_int (j := 51) (S' := (8, [(0, .ref m0), (1, .int (nI k))], [.int 0, .ref (q 22)], M)) rfl hR rfl hi51 rfl ?_
  refine ps_st (S' := (9, [(0, .ref m0), (1, .int (nI k))], [.int (nI k), .int 0, .ref (q 22)], M)) rfl rfl rfl ?_
  refine ps_st (S' := (10, [(0, .ref m0), (1, .int (nI k))], [.int (0 + (nI k)), .ref (q 22)], M)) rfl rfl rfl ?_
  rw [show (0 : Int32) + (nI k) = (nI k) from Int32.zero_add _]
  show pl _ _ _ (_, [(0, .ref m0), (1, .int (nI k))], [.int (nI k), .ref (q 22)], M) _
  refine pr_ld (a := 22) (j := k) (y := (nI s)) (S' := (11, [(0, .ref m0), (1, .int (nI k))], [.int (nI s)], M)) rfl hR rfl (by omega) (fun _ => h1) rfl (fun i1_10 => ?_)
  exact ps_reti rfl (⟨s, ⟨h2, h3⟩, rfl, rfl⟩)
set_option maxHeartbeats 1000000 in
theorem rd_className {g : xe_G} {m0 : Nat} {q : Nat → Nat} {z : Nat × Nat} {I : rI} {R : rR} {M : mi_H} {n : Nat} {f : Nat → Int32} {tx : List (List Nat)} {cN : Nat} {A : Nat → Nat} {N mj : Nat} {E : List (Nat × Nat)} {k : Nat} (hR : RS g m0 q z I R M) (hi51 : I 51 = some 0) (hi52 : I 52 = some (nI N)) (hi53 : I 53 = some (nI mj)) (hF : FK n f I R) (hY : SYT tx cN A I R) (hP : RPV f n E tx N I R) (hEP : EP f n E) (hN : N < 65536) (hmj : mj < 65536) (ht : tg f E k = 7 ∧ tg f E (fi f E k) = 1) : pt (mT g) 193 [.ref m0, .int (nI k)] M (fun v M' => (∃ (s : Nat), (s < tx.length ∧ tx.getD s [] = tX f n E (fi f E k)) ∧ v = some (.int (nI s)) ∧ M = M')) := by
  refine pt_in (b := mb_193 g) rfl (fun kf => ?_)
  show pl (mT g) kf (mb_193 g).2 (0, [(0, .ref m0), (1, .int (nI k))], [], M) _
  have hn := hF.1
  refine ps_st (S' := (1, [(0, .ref m0), (1, .int (nI k))], [.ref m0], M)) rfl rfl rfl ?_
  refine ps_st (S' := (2, [(0, .ref m0), (1, .int (nI k))], [.ref m0, .ref m0], M)) rfl rfl rfl ?_
  refine ps_st (S' := (3, [(0, .ref m0), (1, .int (nI k))], [.int (nI k), .ref m0, .ref m0], M)) rfl rfl rfl ?_
  refine ps_st (S' := (4, [(0, .ref m0), (1, .int (nI k))], [.int 1, .int (nI k), .ref m0, .ref m0], M)) rfl rfl rfl ?_
  refine pl_call (a := [.ref m0, .int (nI k), .int 1]) (rest := [.ref m0]) rfl rfl rfl (rd_idx1 (n := n) (f := f) (tx := tx) (cN := cN) (A := A) (N := N) (mj := mj) (E := E) (k := k) hR hi51 hi52 hi53 hF hY hP (hEP) (hN) (hmj) (by omega)) (fun v1 M2 q3 => ?_)
  obtain ⟨rfl, rfl⟩ := q3
  show pl _ _ _ (7, [(0, .ref m0), (1, .int (nI k))], [.int (nI (fi f E k)), .ref m0], M) _
  have hix_4 := fi_lt f E k
  refine pl_call (a := [.ref m0, .int (nI (fi f E k))]) (rest := []) rfl rfl rfl (rd_symOf (n := n) (f := f) (tx := tx) (cN := cN) (A := A) (N := N) (mj := mj) (E := E) (k := (fi f E k)) hR hi51 hi52 hi53 hF hY hP (hEP) (hN) (hmj) (by omega)) (fun v4 M5 q6 => ?_)
  obtain ⟨s7, q7_s, rfl, rfl⟩ := q6
  show pl _ _ _ (10, [(0, .ref m0), (1, .int (nI k))], [.int (nI s7)], M) _
  have hsl_7 := q7_s.1
  have htl_7 := hY.1.2.2.1
  exact ps_reti rfl (⟨s7, q7_s, rfl, rfl⟩)
set_option maxHeartbeats 1000000 in
theorem rd_plainClass {g : xe_G} {m0 : Nat} {q : Nat → Nat} {z : Nat × Nat} {I : rI} {R : rR} {M : mi_H} {n : Nat} {f : Nat → Int32} {tx : List (List Nat)} {cN : Nat} {A : Nat → Nat} {N mj : Nat} {E : List (Nat × Nat)} {k : Nat} (hR : RS g m0 q z I R M) (hi51 : I 51 = some 0) (hi52 : I 52 = some (nI N)) (hi53 : I 53 = some (nI mj)) (hF : FK n f I R) (hY : SYT tx cN A I R) (hP : RPV f n E tx N I R) (hEP : EP f n E) (hN : N < 65536) (hmj : mj < 65536) (hk : k < 65536) (hCP : CP f n E) : pt (mT g) 235 [.ref m0, .int (nI k)] M (fun v M' => (v = some (.int (nI (plnN f n E k))) ∧ M = M')) := by
  refine pt_in (b := mb_235 g) rfl (fun kf => ?_)
  show pl (mT g) kf (mb_235 g).2 (0, [(0, .ref m0), (1, .int (nI k))], [], M) _
  have hn := hF.1
  refine ps_st (S' := (1, [(0, .ref m0), (1, .int (nI k))], [.ref m0], M)) rfl rfl rfl ?_
  refine ps_st (S' := (2, [(0, .ref m0), (1, .int (nI k))], [.int (nI k), .ref m0], M)) rfl rfl rfl ?_
  refine pl_call (a := [.ref m0, .int (nI k)]) (rest := []) rfl rfl rfl (rd_tag (n := n) (f := f) (tx := tx) (cN := cN) (A := A) (N := N) (mj := mj) (E := E) (k := k) hR hi51 hi52 hi53 hF hY hP (hEP) (hN) (hmj) (by omega)) (fun v1 M2 q3 => ?_)
  obtain ⟨rfl, rfl⟩ := q3
  show pl _ _ _ (5, [(0, .ref m0), (1, .int (nI k))], [.int (nI (tg f E k))], M) _
  have htg_2 := tg_lt f E k
  refine ps_st (S' := (7, [(0, .ref m0), (1, .int (nI k))], [.int 7, .int (nI (tg f E k))], M)) rfl rfl rfl ?_
  refine ps_if2 (S1 := (29, [], [], M)) (S2 := (10, [(0, .ref m0), (1, .int (nI k))], [], M)) rfl rfl rfl (fun c_7 => ?_) (fun c_7 => ?_)
  · have c_7 : ¬ (nI (tg f E k)) = 7 := of_decide_eq_true c_7
    have n_7 : ¬ (tg f E k = 7) := fun h9 => c_7 ((eq_nI (p := tg f E k) (n := 7) (Nat.lt_trans (tg_lt _ _ _) (by decide)) (by decide)).mpr h9)
    refine ps_st (S' := (30, [], [.int 0], M)) rfl rfl rfl ?_
    exact ps_ret rfl rfl (⟨congrArg (fun x => some (Value.int (nI x))) (show 0 = plnN f n E k from by
        unfold plnN
        first | ((repeat first | rw [if_pos (by omega)] | rw [if_neg (by omega)]) <;> first | rfl | omega) | ((repeat' split) <;> first | rfl | (exfalso; omega) | omega)), rfl⟩)
  · have c_7 : ¬ (¬ (nI (tg f E k)) = 7) := of_decide_eq_false c_7
    have n_7 : tg f E k = 7 := (eq_nI (p := tg f E k) (n := 7) (Nat.lt_trans (tg_lt _ _ _) (by decide)) (by decide)).mp (Decidable.not_not.mp c_7)
    have hcp := hCP k (by omega)
    refine ps_st (S' := (11, [(0, .ref m0), (1, .int (nI k))], [.ref m0], M)) rfl rfl rfl ?_
    refine ps_st (S' := (12, [(0, .ref m0), (1, .int (nI k))], [.ref m0, .ref m0], M)) rfl rfl rfl ?_
    refine ps_st (S' := (13, [(0, .ref m0), (1, .int (nI k))], [.int (nI k), .ref m0, .ref m0], M)) rfl rfl rfl ?_
    refine pl_call (a := [.ref m0, .int (nI k)]) (rest := [.ref m0]) rfl rfl rfl (rd_className (n := n) (f := f) (tx := tx) (cN := cN) (A := A) (N := N) (mj := mj) (E := E) (k := k) hR hi51 hi52 hi53 hF hY hP (hEP) (hN) (hmj) (by omega)) (fun v4 M5 q6 => ?_)
    obtain ⟨s7, q13_s, rfl, rfl⟩ := q6
    show pl _ _ _ (16, [(0, .ref m0), (1, .int (nI k))], [.int (nI s7), .ref m0], M) _
    have hsl_13 := q13_s.1
    have htl_13 := hY.1.2.2.1
    refine ps_st (S' := (17, [(0, .ref m0), (1, .int (nI k))], [.int 0, .int (nI s7), .ref m0], M)) rfl rfl rfl ?_
    refine pl_call (a := [.ref m0, .int (nI s7), .int 0]) (rest := []) rfl rfl rfl (rd_at (tx := tx) (cN := cN) (A := A) (s := s7) (l := (tX f n E (fi f E k))) (k := 0) hR hY (q13_s) (by omega)) (fun v8 M9 q10 => ?_)
    obtain ⟨rfl, rfl⟩ := q10
    show pl _ _ _ (20, [(0, .ref m0), (1, .int (nI k))], [.int (nI ((tX f n E (fi f E k)).getD 0 0))], M) _
    have hc_17 := hY.ch q13_s (k := 0) (by omega)
    refine ps_st (S' := (22, [(0, .ref m0), (1, .int (nI k))], [.int 91, .int (nI ((tX f n E (fi f E k)).getD 0 0))], M)) rfl rfl rfl ?_
    refine ps_if2 (S1 := (29, [], [], M)) (S2 := (25, [(0, .ref m0), (1, .int (nI k))], [], M)) rfl rfl rfl (fun c_22 => ?_) (fun c_22 => ?_)
    · have c_22 : (nI ((tX f n E (fi f E k)).getD 0 0)) = 91 := of_decide_eq_true c_22
      have n_22 : (tX f n E (fi f E k)).getD 0 0 = 91 := (eq_nI (p := (tX f n E (fi f E k)).getD 0 0) (n := 91) (Nat.lt_trans (tx_ch _ _ _ _ _) (by decide)) (by decide)).mp c_22
      refine ps_st (S' := (30, [], [.int 0], M)) rfl rfl rfl ?_
      exact ps_ret rfl rfl (⟨congrArg (fun x => some (Value.int (nI x))) (show 0 = plnN f n E k from by
          unfold plnN
          first | ((repeat first | rw [if_pos (by omega)] | rw [if_neg (by omega)]) <;> first | rfl | omega) | ((repeat' split) <;> first | rfl | (exfalso; omega) | omega)), rfl⟩)
    · have c_22 : ¬ ((nI ((tX f n E (fi f E k)).getD 0 0)) = 91) := of_decide_eq_false c_22
      have n_22 : ¬ ((tX f n E (fi f E k)).getD 0 0 = 91) := fun h9 => c_22 ((eq_nI (p := (tX f n E (fi f E k)).getD 0 0) (n := 91) (Nat.lt_trans (tx_ch _ _ _ _ _) (by decide)) (by decide)).mpr h9)
      refine ps_st (S' := (26, [(0, .ref m0), (1, .int (nI k))], [.int 1], M)) rfl rfl rfl ?_
      refine ps_st (S' := (30, [], [.int 1], M)) rfl rfl rfl ?_
      exact ps_ret rfl rfl (⟨congrArg (fun x => some (Value.int (nI x))) (show 1 = plnN f n E k from by
          unfold plnN
          first | ((repeat first | rw [if_pos (by omega)] | rw [if_neg (by omega)]) <;> first | rfl | omega) | ((repeat' split) <;> first | rfl | (exfalso; omega) | omega)), rfl⟩)
set_option maxHeartbeats 1000000 in
theorem rd_ix7 {g : xe_G} {m0 : Nat} {q : Nat → Nat} {z : Nat × Nat} {I : rI} {R : rR} {M : mi_H} {n : Nat} {f : Nat → Int32} {tx : List (List Nat)} {cN : Nat} {A : Nat → Nat} {N mj : Nat} {E : List (Nat × Nat)} {k : Nat} (hR : RS g m0 q z I R M) (hi51 : I 51 = some 0) (hi52 : I 52 = some (nI N)) (hi53 : I 53 = some (nI mj)) (hF : FK n f I R) (hY : SYT tx cN A I R) (hP : RPV f n E tx N I R) (hEP : EP f n E) (hN : N < 65536) (hmj : mj < 65536) (ht : tg f E k = 7) : pt (mT g) 214 [.ref m0, .int (nI k), .int 7, .int 0] M (fun v M' => (v = some (.int (nI (lnkN f E k))) ∧ M = M')) := by
  refine pt_in (b := mb_214 g) rfl (fun kf => ?_)
  show pl (mT g) kf (mb_214 g).2 (0, [(0, .ref m0), (1, .int (nI k)), (2, .int 7), (3, .int 0)], [], M) _
  have hn := hF.1
  refine ps_st (S' := (1, [(0, .ref m0), (1, .int (nI k)), (2, .int 7), (3, .int 0)], [.int 7], M)) rfl rfl rfl ?_
  refine ps_st (S' := (3, [(0, .ref m0), (1, .int (nI k)), (2, .int 7), (3, .int 0)], [.int 7, .int 7], M)) rfl rfl rfl ?_
  refine ps_if2 (S1 := (30, [(0, .ref m0), (1, .int (nI k))], [], M)) (S2 := (6, [(0, .ref m0), (1, .int (nI k)), (2, .int 7), (3, .int 0)], [], M)) rfl rfl rfl (fun c_3 => ?_) (fun c_3 => ?_)
  rotate_left
  · exact absurd (by decide) (of_decide_eq_false c_3)
  refine ps_st (S' := (31, [(0, .ref m0), (1, .int (nI k))], [.ref m0], M)) rfl rfl rfl ?_
  refine ps_st (S' := (32, [(0, .ref m0), (1, .int (nI k))], [.ref m0, .ref m0], M)) rfl rfl rfl ?_
  refine ps_st (S' := (33, [(0, .ref m0), (1, .int (nI k))], [.int (nI k), .ref m0, .ref m0], M)) rfl rfl rfl ?_
  refine ps_st (S' := (34, [(0, .ref m0), (1, .int (nI k))], [.int 1, .int (nI k), .ref m0, .ref m0], M)) rfl rfl rfl ?_
  refine pl_call (a := [.ref m0, .int (nI k), .int 1]) (rest := [.ref m0]) rfl rfl rfl (rd_idx1 (n := n) (f := f) (tx := tx) (cN := cN) (A := A) (N := N) (mj := mj) (E := E) (k := k) hR hi51 hi52 hi53 hF hY hP (hEP) (hN) (hmj) (by omega)) (fun v1 M2 q3 => ?_)
  obtain ⟨rfl, rfl⟩ := q3
  show pl _ _ _ (37, [(0, .ref m0), (1, .int (nI k))], [.int (nI (fi f E k)), .ref m0], M) _
  have hix_34 := fi_lt f E k
  refine pl_call (a := [.ref m0, .int (nI (fi f E k))]) (rest := []) rfl rfl rfl (rd_tag (n := n) (f := f) (tx := tx) (cN := cN) (A := A) (N := N) (mj := mj) (E := E) (k := (fi f E k)) hR hi51 hi52 hi53 hF hY hP (hEP) (hN) (hmj) (fi_lt _ _ _)) (fun v4 M5 q6 => ?_)
  obtain ⟨rfl, rfl⟩ := q6
  show pl _ _ _ (40, [(0, .ref m0), (1, .int (nI k))], [.int (nI (tg f E (fi f E k)))], M) _
  have htg_37 := tg_lt f E (fi f E k)
  refine ps_st (S' := (41, [(0, .ref m0), (1, .int (nI k))], [.int 1, .int (nI (tg f E (fi f E k)))], M)) rfl rfl rfl ?_
  refine ps_if2 (S1 := (48, [(0, .ref m0), (1, .int (nI k))], [], M)) (S2 := (44, [(0, .ref m0), (1, .int (nI k))], [], M)) rfl rfl rfl (fun c_41 => ?_) (fun c_41 => ?_)
  · have c_41 : ¬ (nI (tg f E (fi f E k))) = 1 := of_decide_eq_true c_41
    have n_41 : ¬ (tg f E (fi f E k) = 1) := fun h9 => c_41 ((eq_nI (p := tg f E (fi f E k)) (n := 1) (Nat.lt_trans (tg_lt _ _ _) (by decide)) (by decide)).mpr h9)
    refine ps_st (S' := (49, [], [.int 0], M)) rfl rfl rfl ?_
    exact ps_ret rfl rfl (⟨congrArg (fun x => some (Value.int (nI x))) (show 0 = lnkN f E k from by
        unfold lnkN
        first | ((repeat first | rw [if_pos (by omega)] | rw [if_neg (by omega)]) <;> first | rfl | omega) | ((repeat' split) <;> first | rfl | (exfalso; omega) | omega)), rfl⟩)
  · have c_41 : ¬ (¬ (nI (tg f E (fi f E k))) = 1) := of_decide_eq_false c_41
    have n_41 : tg f E (fi f E k) = 1 := (eq_nI (p := tg f E (fi f E k)) (n := 1) (Nat.lt_trans (tg_lt _ _ _) (by decide)) (by decide)).mp (Decidable.not_not.mp c_41)
    refine ps_st (S' := (45, [(0, .ref m0), (1, .int (nI k))], [.int 1], M)) rfl rfl rfl ?_
    refine ps_st (S' := (49, [], [.int 1], M)) rfl rfl rfl ?_
    exact ps_ret rfl rfl (⟨congrArg (fun x => some (Value.int (nI x))) (show 1 = lnkN f E k from by
        unfold lnkN
        first | ((repeat first | rw [if_pos (by omega)] | rw [if_neg (by omega)]) <;> first | rfl | omega) | ((repeat' split) <;> first | rfl | (exfalso; omega) | omega)), rfl⟩)
set_option maxHeartbeats 1000000 in
theorem rd_ix12 {g : xe_G} {m0 : Nat} {q : Nat → Nat} {z : Nat × Nat} {I : rI} {R : rR} {M : mi_H} {n : Nat} {f : Nat → Int32} {tx : List (List Nat)} {cN : Nat} {A : Nat → Nat} {N mj : Nat} {E : List (Nat × Nat)} {k : Nat} (hR : RS g m0 q z I R M) (hi51 : I 51 = some 0) (hi52 : I 52 = some (nI N)) (hi53 : I 53 = some (nI mj)) (hF : FK n f I R) (hY : SYT tx cN A I R) (hP : RPV f n E tx N I R) (hEP : EP f n E) (hN : N < 65536) (hmj : mj < 65536) (ht : tg f E k = 12) : pt (mT g) 214 [.ref m0, .int (nI k), .int 12, .int 0] M (fun v M' => (v = some (.int (nI (pairN f E k))) ∧ M = M')) := by
  refine pt_in (b := mb_214 g) rfl (fun kf => ?_)
  show pl (mT g) kf (mb_214 g).2 (0, [(0, .ref m0), (1, .int (nI k)), (2, .int 12), (3, .int 0)], [], M) _
  have hn := hF.1
  refine ps_st (S' := (1, [(0, .ref m0), (1, .int (nI k)), (2, .int 12), (3, .int 0)], [.int 12], M)) rfl rfl rfl ?_
  refine ps_st (S' := (3, [(0, .ref m0), (1, .int (nI k)), (2, .int 12), (3, .int 0)], [.int 7, .int 12], M)) rfl rfl rfl ?_
  refine ps_if2 (S1 := (30, [(0, .ref m0), (1, .int (nI k))], [], M)) (S2 := (6, [(0, .ref m0), (1, .int (nI k)), (2, .int 12), (3, .int 0)], [], M)) rfl rfl rfl (fun c_3 => ?_) (fun c_3 => ?_)
  · exact absurd (of_decide_eq_true c_3) (by decide)
  refine ps_st (S' := (7, [(0, .ref m0), (1, .int (nI k)), (2, .int 12), (3, .int 0)], [.int 12], M)) rfl rfl rfl ?_
  refine ps_st (S' := (9, [(0, .ref m0), (1, .int (nI k)), (2, .int 12), (3, .int 0)], [.int 8, .int 12], M)) rfl rfl rfl ?_
  refine ps_if2 (S1 := (30, [(0, .ref m0), (1, .int (nI k))], [], M)) (S2 := (12, [(0, .ref m0), (1, .int (nI k)), (2, .int 12), (3, .int 0)], [], M)) rfl rfl rfl (fun c_9 => ?_) (fun c_9 => ?_)
  · exact absurd (of_decide_eq_true c_9) (by decide)
  refine ps_st (S' := (13, [(0, .ref m0), (1, .int (nI k)), (2, .int 12), (3, .int 0)], [.int 12], M)) rfl rfl rfl ?_
  refine ps_st (S' := (15, [(0, .ref m0), (1, .int (nI k)), (2, .int 12), (3, .int 0)], [.int 16, .int 12], M)) rfl rfl rfl ?_
  refine ps_if2 (S1 := (30, [(0, .ref m0), (1, .int (nI k))], [], M)) (S2 := (18, [(0, .ref m0), (1, .int (nI k)), (2, .int 12), (3, .int 0)], [], M)) rfl rfl rfl (fun c_15 => ?_) (fun c_15 => ?_)
  · exact absurd (of_decide_eq_true c_15) (by decide)
  refine ps_st (S' := (19, [(0, .ref m0), (1, .int (nI k)), (2, .int 12), (3, .int 0)], [.int 12], M)) rfl rfl rfl ?_
  refine ps_st (S' := (21, [(0, .ref m0), (1, .int (nI k)), (2, .int 12), (3, .int 0)], [.int 19, .int 12], M)) rfl rfl rfl ?_
  refine ps_if2 (S1 := (30, [(0, .ref m0), (1, .int (nI k))], [], M)) (S2 := (24, [(0, .ref m0), (1, .int (nI k)), (2, .int 12), (3, .int 0)], [], M)) rfl rfl rfl (fun c_21 => ?_) (fun c_21 => ?_)
  · exact absurd (of_decide_eq_true c_21) (by decide)
  refine ps_st (S' := (25, [(0, .ref m0), (1, .int (nI k)), (2, .int 12), (3, .int 0)], [.int 12], M)) rfl rfl rfl ?_
  refine ps_st (S' := (27, [(0, .ref m0), (1, .int (nI k)), (2, .int 12), (3, .int 0)], [.int 20, .int 12], M)) rfl rfl rfl ?_
  refine ps_if2 (S1 := (50, [(0, .ref m0), (1, .int (nI k)), (2, .int 12), (3, .int 0)], [], M)) (S2 := (30, [(0, .ref m0), (1, .int (nI k))], [], M)) rfl rfl rfl (fun c_27 => ?_) (fun c_27 => ?_)
  rotate_left
  · exact absurd (by decide) (of_decide_eq_false c_27)
  refine ps_st (S' := (51, [(0, .ref m0), (1, .int (nI k)), (2, .int 12), (3, .int 0)], [.int 12], M)) rfl rfl rfl ?_
  refine ps_st (S' := (53, [(0, .ref m0), (1, .int (nI k)), (2, .int 12), (3, .int 0)], [.int 9, .int 12], M)) rfl rfl rfl ?_
  refine ps_if2 (S1 := (130, [(0, .ref m0), (1, .int (nI k)), (2, .int 12)], [], M)) (S2 := (56, [(0, .ref m0), (1, .int (nI k)), (2, .int 12), (3, .int 0)], [], M)) rfl rfl rfl (fun c_53 => ?_) (fun c_53 => ?_)
  · exact absurd (of_decide_eq_true c_53) (by decide)
  refine ps_st (S' := (57, [(0, .ref m0), (1, .int (nI k)), (2, .int 12), (3, .int 0)], [.int 12], M)) rfl rfl rfl ?_
  refine ps_st (S' := (59, [(0, .ref m0), (1, .int (nI k)), (2, .int 12), (3, .int 0)], [.int 11, .int 12], M)) rfl rfl rfl ?_
  refine ps_if2 (S1 := (130, [(0, .ref m0), (1, .int (nI k)), (2, .int 12)], [], M)) (S2 := (62, [(0, .ref m0), (1, .int (nI k)), (2, .int 12), (3, .int 0)], [], M)) rfl rfl rfl (fun c_59 => ?_) (fun c_59 => ?_)
  rotate_left
  · exact absurd (by decide) (of_decide_eq_false c_59)
  refine ps_st (S' := (131, [(0, .ref m0), (1, .int (nI k)), (2, .int 12)], [.int 12], M)) rfl rfl rfl ?_
  refine ps_st (S' := (133, [(0, .ref m0), (1, .int (nI k)), (2, .int 12)], [.int 12, .int 12], M)) rfl rfl rfl ?_
  refine ps_if2 (S1 := (170, [(0, .ref m0), (1, .int (nI k)), (2, .int 12)], [], M)) (S2 := (136, [(0, .ref m0), (1, .int (nI k)), (2, .int 12)], [], M)) rfl rfl rfl (fun c_133 => ?_) (fun c_133 => ?_)
  · exact absurd (of_decide_eq_true c_133) (by decide)
  refine ps_st (S' := (137, [(0, .ref m0), (1, .int (nI k)), (2, .int 12)], [.ref m0], M)) rfl rfl rfl ?_
  refine ps_st (S' := (138, [(0, .ref m0), (1, .int (nI k)), (2, .int 12)], [.ref m0, .ref m0], M)) rfl rfl rfl ?_
  refine ps_st (S' := (139, [(0, .ref m0), (1, .int (nI k)), (2, .int 12)], [.int (nI k), .ref m0, .ref m0], M)) rfl rfl rfl ?_
  refine ps_st (S' := (140, [(0, .ref m0), (1, .int (nI k)), (2, .int 12)], [.int 1, .int (nI k), .ref m0, .ref m0], M)) rfl rfl rfl ?_
  refine pl_call (a := [.ref m0, .int (nI k), .int 1]) (rest := [.ref m0]) rfl rfl rfl (rd_idx1 (n := n) (f := f) (tx := tx) (cN := cN) (A := A) (N := N) (mj := mj) (E := E) (k := k) hR hi51 hi52 hi53 hF hY hP (hEP) (hN) (hmj) (by omega)) (fun v1 M2 q3 => ?_)
  obtain ⟨rfl, rfl⟩ := q3
  show pl _ _ _ (143, [(0, .ref m0), (1, .int (nI k)), (2, .int 12)], [.int (nI (fi f E k)), .ref m0], M) _
  have hix_140 := fi_lt f E k
  refine pl_call (a := [.ref m0, .int (nI (fi f E k))]) (rest := []) rfl rfl rfl (rd_tag (n := n) (f := f) (tx := tx) (cN := cN) (A := A) (N := N) (mj := mj) (E := E) (k := (fi f E k)) hR hi51 hi52 hi53 hF hY hP (hEP) (hN) (hmj) (fi_lt _ _ _)) (fun v4 M5 q6 => ?_)
  obtain ⟨rfl, rfl⟩ := q6
  show pl _ _ _ (146, [(0, .ref m0), (1, .int (nI k)), (2, .int 12)], [.int (nI (tg f E (fi f E k)))], M) _
  have htg_143 := tg_lt f E (fi f E k)
  refine ps_st (S' := (147, [(0, .ref m0), (1, .int (nI k)), (2, .int 12)], [.int 1, .int (nI (tg f E (fi f E k)))], M)) rfl rfl rfl ?_
  refine ps_if2 (S1 := (168, [], [], M)) (S2 := (150, [(0, .ref m0), (1, .int (nI k)), (2, .int 12)], [], M)) rfl rfl rfl (fun c_147 => ?_) (fun c_147 => ?_)
  · have c_147 : ¬ (nI (tg f E (fi f E k))) = 1 := of_decide_eq_true c_147
    have n_147 : ¬ (tg f E (fi f E k) = 1) := fun h9 => c_147 ((eq_nI (p := tg f E (fi f E k)) (n := 1) (Nat.lt_trans (tg_lt _ _ _) (by decide)) (by decide)).mpr h9)
    refine ps_st (S' := (169, [], [.int 0], M)) rfl rfl rfl ?_
    exact ps_ret rfl rfl (⟨congrArg (fun x => some (Value.int (nI x))) (show 0 = pairN f E k from by
        unfold pairN
        first | ((repeat first | rw [if_pos (by omega)] | rw [if_neg (by omega)]) <;> first | rfl | omega) | ((repeat' split) <;> first | rfl | (exfalso; omega) | omega)), rfl⟩)
  · have c_147 : ¬ (¬ (nI (tg f E (fi f E k))) = 1) := of_decide_eq_false c_147
    have n_147 : tg f E (fi f E k) = 1 := (eq_nI (p := tg f E (fi f E k)) (n := 1) (Nat.lt_trans (tg_lt _ _ _) (by decide)) (by decide)).mp (Decidable.not_not.mp c_147)
    refine ps_st (S' := (151, [(0, .ref m0), (1, .int (nI k)), (2, .int 12)], [.ref m0], M)) rfl rfl rfl ?_
    refine ps_st (S' := (152, [(0, .ref m0), (1, .int (nI k)), (2, .int 12)], [.ref m0, .ref m0], M)) rfl rfl rfl ?_
    refine ps_st (S' := (153, [(0, .ref m0), (1, .int (nI k)), (2, .int 12)], [.int (nI k), .ref m0, .ref m0], M)) rfl rfl rfl ?_
    refine ps_st (S' := (154, [(0, .ref m0), (1, .int (nI k)), (2, .int 12)], [.int 3, .int (nI k), .ref m0, .ref m0], M)) rfl rfl rfl ?_
    refine pl_call (a := [.ref m0, .int (nI k), .int 3]) (rest := [.ref m0]) rfl rfl rfl (rd_idx3 (n := n) (f := f) (tx := tx) (cN := cN) (A := A) (N := N) (mj := mj) (E := E) (k := k) hR hi51 hi52 hi53 hF hY hP (hEP) (hN) (hmj) (by omega)) (fun v7 M8 q9 => ?_)
    obtain ⟨rfl, rfl⟩ := q9
    show pl _ _ _ (157, [(0, .ref m0), (1, .int (nI k)), (2, .int 12)], [.int (nI (se f E k)), .ref m0], M) _
    have hix_154 := se_lt f E k
    refine pl_call (a := [.ref m0, .int (nI (se f E k))]) (rest := []) rfl rfl rfl (rd_tag (n := n) (f := f) (tx := tx) (cN := cN) (A := A) (N := N) (mj := mj) (E := E) (k := (se f E k)) hR hi51 hi52 hi53 hF hY hP (hEP) (hN) (hmj) (se_lt _ _ _)) (fun v10 M11 q12 => ?_)
    obtain ⟨rfl, rfl⟩ := q12
    show pl _ _ _ (160, [(0, .ref m0), (1, .int (nI k)), (2, .int 12)], [.int (nI (tg f E (se f E k)))], M) _
    have htg_157 := tg_lt f E (se f E k)
    refine ps_st (S' := (161, [(0, .ref m0), (1, .int (nI k)), (2, .int 12)], [.int 1, .int (nI (tg f E (se f E k)))], M)) rfl rfl rfl ?_
    refine ps_if2 (S1 := (168, [], [], M)) (S2 := (164, [(0, .ref m0), (1, .int (nI k)), (2, .int 12)], [], M)) rfl rfl rfl (fun c_161 => ?_) (fun c_161 => ?_)
    · have c_161 : ¬ (nI (tg f E (se f E k))) = 1 := of_decide_eq_true c_161
      have n_161 : ¬ (tg f E (se f E k) = 1) := fun h9 => c_161 ((eq_nI (p := tg f E (se f E k)) (n := 1) (Nat.lt_trans (tg_lt _ _ _) (by decide)) (by decide)).mpr h9)
      refine ps_st (S' := (169, [], [.int 0], M)) rfl rfl rfl ?_
      exact ps_ret rfl rfl (⟨congrArg (fun x => some (Value.int (nI x))) (show 0 = pairN f E k from by
          unfold pairN
          first | ((repeat first | rw [if_pos (by omega)] | rw [if_neg (by omega)]) <;> first | rfl | omega) | ((repeat' split) <;> first | rfl | (exfalso; omega) | omega)), rfl⟩)
    · have c_161 : ¬ (¬ (nI (tg f E (se f E k))) = 1) := of_decide_eq_false c_161
      have n_161 : tg f E (se f E k) = 1 := (eq_nI (p := tg f E (se f E k)) (n := 1) (Nat.lt_trans (tg_lt _ _ _) (by decide)) (by decide)).mp (Decidable.not_not.mp c_161)
      refine ps_st (S' := (165, [(0, .ref m0), (1, .int (nI k)), (2, .int 12)], [.int 1], M)) rfl rfl rfl ?_
      refine ps_st (S' := (169, [], [.int 1], M)) rfl rfl rfl ?_
      exact ps_ret rfl rfl (⟨congrArg (fun x => some (Value.int (nI x))) (show 1 = pairN f E k from by
          unfold pairN
          first | ((repeat first | rw [if_pos (by omega)] | rw [if_neg (by omega)]) <;> first | rfl | omega) | ((repeat' split) <;> first | rfl | (exfalso; omega) | omega)), rfl⟩)
set_option maxHeartbeats 1000000 in
theorem rd_ixM {g : xe_G} {m0 : Nat} {q : Nat → Nat} {z : Nat × Nat} {I : rI} {R : rR} {M : mi_H} {n : Nat} {f : Nat → Int32} {tx : List (List Nat)} {cN : Nat} {A : Nat → Nat} {N mj : Nat} {E : List (Nat × Nat)} {k t : Nat} (hR : RS g m0 q z I R M) (hi51 : I 51 = some 0) (hi52 : I 52 = some (nI N)) (hi53 : I 53 = some (nI mj)) (hF : FK n f I R) (hY : SYT tx cN A I R) (hP : RPV f n E tx N I R) (hEP : EP f n E) (hN : N < 65536) (hmj : mj < 65536) (ht : tg f E k = t) (ht2 : 9 ≤ t ∧ t ≤ 11) : pt (mT g) 214 [.ref m0, .int (nI k), .int (nI t), .int 0] M (fun v M' => (v = some (.int (nI (memN f E k))) ∧ M = M')) := by
  refine pt_in (b := mb_214 g) rfl (fun kf => ?_)
  show pl (mT g) kf (mb_214 g).2 (0, [(0, .ref m0), (1, .int (nI k)), (2, .int (nI t)), (3, .int 0)], [], M) _
  have hn := hF.1
  refine ps_st (S' := (1, [(0, .ref m0), (1, .int (nI k)), (2, .int (nI t)), (3, .int 0)], [.int (nI t)], M)) rfl rfl rfl ?_
  refine ps_st (S' := (3, [(0, .ref m0), (1, .int (nI k)), (2, .int (nI t)), (3, .int 0)], [.int 7, .int (nI t)], M)) rfl rfl rfl ?_
  refine ps_if2 (S1 := (30, [(0, .ref m0), (1, .int (nI k))], [], M)) (S2 := (6, [(0, .ref m0), (1, .int (nI k)), (2, .int (nI t)), (3, .int 0)], [], M)) rfl rfl rfl (fun c_3 => ?_) (fun c_3 => ?_)
  · exact absurd (of_decide_eq_true c_3) (show ¬ ((nI t) = 7) from fun h9 => absurd ((eq_nI (p := t) (n := 7) (by omega) (by decide)).mp h9) (by omega))
  refine ps_st (S' := (7, [(0, .ref m0), (1, .int (nI k)), (2, .int (nI t)), (3, .int 0)], [.int (nI t)], M)) rfl rfl rfl ?_
  refine ps_st (S' := (9, [(0, .ref m0), (1, .int (nI k)), (2, .int (nI t)), (3, .int 0)], [.int 8, .int (nI t)], M)) rfl rfl rfl ?_
  refine ps_if2 (S1 := (30, [(0, .ref m0), (1, .int (nI k))], [], M)) (S2 := (12, [(0, .ref m0), (1, .int (nI k)), (2, .int (nI t)), (3, .int 0)], [], M)) rfl rfl rfl (fun c_9 => ?_) (fun c_9 => ?_)
  · exact absurd (of_decide_eq_true c_9) (show ¬ ((nI t) = 8) from fun h9 => absurd ((eq_nI (p := t) (n := 8) (by omega) (by decide)).mp h9) (by omega))
  refine ps_st (S' := (13, [(0, .ref m0), (1, .int (nI k)), (2, .int (nI t)), (3, .int 0)], [.int (nI t)], M)) rfl rfl rfl ?_
  refine ps_st (S' := (15, [(0, .ref m0), (1, .int (nI k)), (2, .int (nI t)), (3, .int 0)], [.int 16, .int (nI t)], M)) rfl rfl rfl ?_
  refine ps_if2 (S1 := (30, [(0, .ref m0), (1, .int (nI k))], [], M)) (S2 := (18, [(0, .ref m0), (1, .int (nI k)), (2, .int (nI t)), (3, .int 0)], [], M)) rfl rfl rfl (fun c_15 => ?_) (fun c_15 => ?_)
  · exact absurd (of_decide_eq_true c_15) (show ¬ ((nI t) = 16) from fun h9 => absurd ((eq_nI (p := t) (n := 16) (by omega) (by decide)).mp h9) (by omega))
  refine ps_st (S' := (19, [(0, .ref m0), (1, .int (nI k)), (2, .int (nI t)), (3, .int 0)], [.int (nI t)], M)) rfl rfl rfl ?_
  refine ps_st (S' := (21, [(0, .ref m0), (1, .int (nI k)), (2, .int (nI t)), (3, .int 0)], [.int 19, .int (nI t)], M)) rfl rfl rfl ?_
  refine ps_if2 (S1 := (30, [(0, .ref m0), (1, .int (nI k))], [], M)) (S2 := (24, [(0, .ref m0), (1, .int (nI k)), (2, .int (nI t)), (3, .int 0)], [], M)) rfl rfl rfl (fun c_21 => ?_) (fun c_21 => ?_)
  · exact absurd (of_decide_eq_true c_21) (show ¬ ((nI t) = 19) from fun h9 => absurd ((eq_nI (p := t) (n := 19) (by omega) (by decide)).mp h9) (by omega))
  refine ps_st (S' := (25, [(0, .ref m0), (1, .int (nI k)), (2, .int (nI t)), (3, .int 0)], [.int (nI t)], M)) rfl rfl rfl ?_
  refine ps_st (S' := (27, [(0, .ref m0), (1, .int (nI k)), (2, .int (nI t)), (3, .int 0)], [.int 20, .int (nI t)], M)) rfl rfl rfl ?_
  refine ps_if2 (S1 := (50, [(0, .ref m0), (1, .int (nI k)), (2, .int (nI t)), (3, .int 0)], [], M)) (S2 := (30, [(0, .ref m0), (1, .int (nI k))], [], M)) rfl rfl rfl (fun c_27 => ?_) (fun c_27 => ?_)
  rotate_left
  · exact absurd (show ¬ ((nI t) = 20) from fun h9 => absurd ((eq_nI (p := t) (n := 20) (by omega) (by decide)).mp h9) (by omega)) (of_decide_eq_false c_27)
  refine ps_st (S' := (51, [(0, .ref m0), (1, .int (nI k)), (2, .int (nI t)), (3, .int 0)], [.int (nI t)], M)) rfl rfl rfl ?_
  refine ps_st (S' := (53, [(0, .ref m0), (1, .int (nI k)), (2, .int (nI t)), (3, .int 0)], [.int 9, .int (nI t)], M)) rfl rfl rfl ?_
  refine ps_if2 (S1 := (130, [(0, .ref m0), (1, .int (nI k)), (2, .int (nI t))], [], M)) (S2 := (56, [(0, .ref m0), (1, .int (nI k)), (2, .int (nI t)), (3, .int 0)], [], M)) rfl rfl rfl (fun c_53 => ?_) (fun c_53 => ?_)
  · exact absurd (of_decide_eq_true c_53) (show ¬ ((nI t) < 9) from fun h9 => absurd ((lt_nI (p := t) (n := 9) (by omega) (by decide)).mp h9) (by omega))
  refine ps_st (S' := (57, [(0, .ref m0), (1, .int (nI k)), (2, .int (nI t)), (3, .int 0)], [.int (nI t)], M)) rfl rfl rfl ?_
  refine ps_st (S' := (59, [(0, .ref m0), (1, .int (nI k)), (2, .int (nI t)), (3, .int 0)], [.int 11, .int (nI t)], M)) rfl rfl rfl ?_
  refine ps_if2 (S1 := (130, [(0, .ref m0), (1, .int (nI k)), (2, .int (nI t))], [], M)) (S2 := (62, [(0, .ref m0), (1, .int (nI k)), (2, .int (nI t)), (3, .int 0)], [], M)) rfl rfl rfl (fun c_59 => ?_) (fun c_59 => ?_)
  · exact absurd (of_decide_eq_true c_59) (show ¬ (11 < (nI t)) from fun h9 => absurd ((lt_nI (p := 11) (n := t) (by decide) (by omega)).mp h9) (by omega))
  refine ps_st (S' := (63, [(0, .ref m0), (1, .int (nI k)), (2, .int (nI t)), (3, .int 0)], [.ref m0], M)) rfl rfl rfl ?_
  refine ps_st (S' := (64, [(0, .ref m0), (1, .int (nI k)), (2, .int (nI t)), (3, .int 0)], [.ref m0, .ref m0], M)) rfl rfl rfl ?_
  refine ps_st (S' := (65, [(0, .ref m0), (1, .int (nI k)), (2, .int (nI t)), (3, .int 0)], [.int (nI k), .ref m0, .ref m0], M)) rfl rfl rfl ?_
  refine ps_st (S' := (66, [(0, .ref m0), (1, .int (nI k)), (2, .int (nI t)), (3, .int 0)], [.int 1, .int (nI k), .ref m0, .ref m0], M)) rfl rfl rfl ?_
  refine pl_call (a := [.ref m0, .int (nI k), .int 1]) (rest := [.ref m0]) rfl rfl rfl (rd_idx1 (n := n) (f := f) (tx := tx) (cN := cN) (A := A) (N := N) (mj := mj) (E := E) (k := k) hR hi51 hi52 hi53 hF hY hP (hEP) (hN) (hmj) (by omega)) (fun v1 M2 q3 => ?_)
  obtain ⟨rfl, rfl⟩ := q3
  show pl _ _ _ (69, [(0, .ref m0), (1, .int (nI k)), (2, .int (nI t)), (3, .int 0)], [.int (nI (fi f E k)), .ref m0], M) _
  have hix_66 := fi_lt f E k
  refine pl_call (a := [.ref m0, .int (nI (fi f E k))]) (rest := []) rfl rfl rfl (rd_tag (n := n) (f := f) (tx := tx) (cN := cN) (A := A) (N := N) (mj := mj) (E := E) (k := (fi f E k)) hR hi51 hi52 hi53 hF hY hP (hEP) (hN) (hmj) (fi_lt _ _ _)) (fun v4 M5 q6 => ?_)
  obtain ⟨rfl, rfl⟩ := q6
  show pl _ _ _ (72, [(0, .ref m0), (1, .int (nI k)), (2, .int (nI t)), (3, .int 0)], [.int (nI (tg f E (fi f E k)))], M) _
  have htg_69 := tg_lt f E (fi f E k)
  refine ps_st (S' := (74, [(0, .ref m0), (1, .int (nI k)), (2, .int (nI t)), (3, .int 0)], [.int 7, .int (nI (tg f E (fi f E k)))], M)) rfl rfl rfl ?_
  refine ps_if2 (S1 := (128, [], [], M)) (S2 := (77, [(0, .ref m0), (1, .int (nI k)), (2, .int (nI t)), (3, .int 0)], [], M)) rfl rfl rfl (fun c_74 => ?_) (fun c_74 => ?_)
  · have c_74 : ¬ (nI (tg f E (fi f E k))) = 7 := of_decide_eq_true c_74
    have n_74 : ¬ (tg f E (fi f E k) = 7) := fun h9 => c_74 ((eq_nI (p := tg f E (fi f E k)) (n := 7) (Nat.lt_trans (tg_lt _ _ _) (by decide)) (by decide)).mpr h9)
    refine ps_st (S' := (129, [], [.int 0], M)) rfl rfl rfl ?_
    exact ps_ret rfl rfl (⟨congrArg (fun x => some (Value.int (nI x))) (show 0 = memN f E k from by
        have e7 := lnk_7 (f := f) (E := E) (k := fi f E k)
        have e10 := mem_9 (f := f) (E := E) (k := k)
        have e11 := pair_9 (f := f) (E := E) (k := se f E k)
        have b2 := le1_mem f E k
        omega), rfl⟩)
  · have c_74 : ¬ (¬ (nI (tg f E (fi f E k))) = 7) := of_decide_eq_false c_74
    have n_74 : tg f E (fi f E k) = 7 := (eq_nI (p := tg f E (fi f E k)) (n := 7) (Nat.lt_trans (tg_lt _ _ _) (by decide)) (by decide)).mp (Decidable.not_not.mp c_74)
    refine ps_st (S' := (78, [(0, .ref m0), (1, .int (nI k)), (2, .int (nI t)), (3, .int 0)], [.ref m0], M)) rfl rfl rfl ?_
    refine ps_st (S' := (79, [(0, .ref m0), (1, .int (nI k)), (2, .int (nI t)), (3, .int 0)], [.ref m0, .ref m0], M)) rfl rfl rfl ?_
    refine ps_st (S' := (80, [(0, .ref m0), (1, .int (nI k)), (2, .int (nI t)), (3, .int 0)], [.int (nI k), .ref m0, .ref m0], M)) rfl rfl rfl ?_
    refine ps_st (S' := (81, [(0, .ref m0), (1, .int (nI k)), (2, .int (nI t)), (3, .int 0)], [.int 1, .int (nI k), .ref m0, .ref m0], M)) rfl rfl rfl ?_
    refine pl_call (a := [.ref m0, .int (nI k), .int 1]) (rest := [.ref m0]) rfl rfl rfl (rd_idx1 (n := n) (f := f) (tx := tx) (cN := cN) (A := A) (N := N) (mj := mj) (E := E) (k := k) hR hi51 hi52 hi53 hF hY hP (hEP) (hN) (hmj) (by omega)) (fun v7 M8 q9 => ?_)
    obtain ⟨rfl, rfl⟩ := q9
    show pl _ _ _ (84, [(0, .ref m0), (1, .int (nI k)), (2, .int (nI t)), (3, .int 0)], [.int (nI (fi f E k)), .ref m0], M) _
    have hix_81 := fi_lt f E k
    refine ps_st (S' := (86, [(0, .ref m0), (1, .int (nI k)), (2, .int (nI t)), (3, .int 0)], [.int 7, .int (nI (fi f E k)), .ref m0], M)) rfl rfl rfl ?_
    refine ps_st (S' := (87, [(0, .ref m0), (1, .int (nI k)), (2, .int (nI t)), (3, .int 0)], [.int 0, .int 7, .int (nI (fi f E k)), .ref m0], M)) rfl rfl rfl ?_
    refine pl_call (a := [.ref m0, .int (nI (fi f E k)), .int 7, .int 0]) (rest := []) rfl rfl rfl (rd_ix7 (n := n) (f := f) (tx := tx) (cN := cN) (A := A) (N := N) (mj := mj) (E := E) (k := (fi f E k)) hR hi51 hi52 hi53 hF hY hP (hEP) (hN) (hmj) (by omega)) (fun v10 M11 q12 => ?_)
    obtain ⟨rfl, rfl⟩ := q12
    show pl _ _ _ (90, [(0, .ref m0), (1, .int (nI k)), (2, .int (nI t)), (3, .int 0)], [.int (nI (lnkN f E (fi f E k)))], M) _
    refine ps_if (S1 := (128, [], [], M)) (S2 := (93, [(0, .ref m0), (1, .int (nI k)), (2, .int (nI t)), (3, .int 0)], [], M)) rfl rfl rfl (fun c_90 => ?_) (fun c_90 => ?_)
    · have c_90 : (nI (lnkN f E (fi f E k))) = 0 := of_decide_eq_true c_90
      have n_90 : lnkN f E (fi f E k) = 0 := (eq_nI (p := lnkN f E (fi f E k)) (n := 0) (Nat.lt_trans (le1_lnk _ _ _) (by decide)) (by decide)).mp c_90
      refine ps_st (S' := (129, [], [.int 0], M)) rfl rfl rfl ?_
      exact ps_ret rfl rfl (⟨congrArg (fun x => some (Value.int (nI x))) (show 0 = memN f E k from by
          have e7 := lnk_7 (f := f) (E := E) (k := fi f E k)
          have e10 := mem_9 (f := f) (E := E) (k := k)
          have e11 := pair_9 (f := f) (E := E) (k := se f E k)
          have b2 := le1_mem f E k
          omega), rfl⟩)
    · have c_90 : ¬ ((nI (lnkN f E (fi f E k))) = 0) := of_decide_eq_false c_90
      have n_90 : ¬ (lnkN f E (fi f E k) = 0) := fun h9 => c_90 ((eq_nI (p := lnkN f E (fi f E k)) (n := 0) (Nat.lt_trans (le1_lnk _ _ _) (by decide)) (by decide)).mpr h9)
      refine ps_st (S' := (94, [(0, .ref m0), (1, .int (nI k)), (2, .int (nI t)), (3, .int 0)], [.ref m0], M)) rfl rfl rfl ?_
      refine ps_st (S' := (95, [(0, .ref m0), (1, .int (nI k)), (2, .int (nI t)), (3, .int 0)], [.ref m0, .ref m0], M)) rfl rfl rfl ?_
      refine ps_st (S' := (96, [(0, .ref m0), (1, .int (nI k)), (2, .int (nI t)), (3, .int 0)], [.int (nI k), .ref m0, .ref m0], M)) rfl rfl rfl ?_
      refine ps_st (S' := (97, [(0, .ref m0), (1, .int (nI k)), (2, .int (nI t)), (3, .int 0)], [.int 3, .int (nI k), .ref m0, .ref m0], M)) rfl rfl rfl ?_
      refine pl_call (a := [.ref m0, .int (nI k), .int 3]) (rest := [.ref m0]) rfl rfl rfl (rd_idx3 (n := n) (f := f) (tx := tx) (cN := cN) (A := A) (N := N) (mj := mj) (E := E) (k := k) hR hi51 hi52 hi53 hF hY hP (hEP) (hN) (hmj) (by omega)) (fun v13 M14 q15 => ?_)
      obtain ⟨rfl, rfl⟩ := q15
      show pl _ _ _ (100, [(0, .ref m0), (1, .int (nI k)), (2, .int (nI t)), (3, .int 0)], [.int (nI (se f E k)), .ref m0], M) _
      have hix_97 := se_lt f E k
      refine pl_call (a := [.ref m0, .int (nI (se f E k))]) (rest := []) rfl rfl rfl (rd_tag (n := n) (f := f) (tx := tx) (cN := cN) (A := A) (N := N) (mj := mj) (E := E) (k := (se f E k)) hR hi51 hi52 hi53 hF hY hP (hEP) (hN) (hmj) (se_lt _ _ _)) (fun v16 M17 q18 => ?_)
      obtain ⟨rfl, rfl⟩ := q18
      show pl _ _ _ (103, [(0, .ref m0), (1, .int (nI k)), (2, .int (nI t)), (3, .int 0)], [.int (nI (tg f E (se f E k)))], M) _
      have htg_100 := tg_lt f E (se f E k)
      refine ps_st (S' := (105, [(0, .ref m0), (1, .int (nI k)), (2, .int (nI t)), (3, .int 0)], [.int 12, .int (nI (tg f E (se f E k)))], M)) rfl rfl rfl ?_
      refine ps_if2 (S1 := (128, [], [], M)) (S2 := (108, [(0, .ref m0), (1, .int (nI k)), (2, .int (nI t)), (3, .int 0)], [], M)) rfl rfl rfl (fun c_105 => ?_) (fun c_105 => ?_)
      · have c_105 : ¬ (nI (tg f E (se f E k))) = 12 := of_decide_eq_true c_105
        have n_105 : ¬ (tg f E (se f E k) = 12) := fun h9 => c_105 ((eq_nI (p := tg f E (se f E k)) (n := 12) (Nat.lt_trans (tg_lt _ _ _) (by decide)) (by decide)).mpr h9)
        refine ps_st (S' := (129, [], [.int 0], M)) rfl rfl rfl ?_
        exact ps_ret rfl rfl (⟨congrArg (fun x => some (Value.int (nI x))) (show 0 = memN f E k from by
            have e7 := lnk_7 (f := f) (E := E) (k := fi f E k)
            have e10 := mem_9 (f := f) (E := E) (k := k)
            have e11 := pair_9 (f := f) (E := E) (k := se f E k)
            have b2 := le1_mem f E k
            omega), rfl⟩)
      · have c_105 : ¬ (¬ (nI (tg f E (se f E k))) = 12) := of_decide_eq_false c_105
        have n_105 : tg f E (se f E k) = 12 := (eq_nI (p := tg f E (se f E k)) (n := 12) (Nat.lt_trans (tg_lt _ _ _) (by decide)) (by decide)).mp (Decidable.not_not.mp c_105)
        refine ps_st (S' := (109, [(0, .ref m0), (1, .int (nI k)), (2, .int (nI t)), (3, .int 0)], [.ref m0], M)) rfl rfl rfl ?_
        refine ps_st (S' := (110, [(0, .ref m0), (1, .int (nI k)), (2, .int (nI t)), (3, .int 0)], [.ref m0, .ref m0], M)) rfl rfl rfl ?_
        refine ps_st (S' := (111, [(0, .ref m0), (1, .int (nI k)), (2, .int (nI t)), (3, .int 0)], [.int (nI k), .ref m0, .ref m0], M)) rfl rfl rfl ?_
        refine ps_st (S' := (112, [(0, .ref m0), (1, .int (nI k)), (2, .int (nI t)), (3, .int 0)], [.int 3, .int (nI k), .ref m0, .ref m0], M)) rfl rfl rfl ?_
        refine pl_call (a := [.ref m0, .int (nI k), .int 3]) (rest := [.ref m0]) rfl rfl rfl (rd_idx3 (n := n) (f := f) (tx := tx) (cN := cN) (A := A) (N := N) (mj := mj) (E := E) (k := k) hR hi51 hi52 hi53 hF hY hP (hEP) (hN) (hmj) (by omega)) (fun v19 M20 q21 => ?_)
        obtain ⟨rfl, rfl⟩ := q21
        show pl _ _ _ (115, [(0, .ref m0), (1, .int (nI k)), (2, .int (nI t)), (3, .int 0)], [.int (nI (se f E k)), .ref m0], M) _
        have hix_112 := se_lt f E k
        refine ps_st (S' := (117, [(0, .ref m0), (1, .int (nI k)), (2, .int (nI t)), (3, .int 0)], [.int 12, .int (nI (se f E k)), .ref m0], M)) rfl rfl rfl ?_
        refine ps_st (S' := (118, [(0, .ref m0), (1, .int (nI k)), (2, .int (nI t)), (3, .int 0)], [.int 0, .int 12, .int (nI (se f E k)), .ref m0], M)) rfl rfl rfl ?_
        refine pl_call (a := [.ref m0, .int (nI (se f E k)), .int 12, .int 0]) (rest := []) rfl rfl rfl (rd_ix12 (n := n) (f := f) (tx := tx) (cN := cN) (A := A) (N := N) (mj := mj) (E := E) (k := (se f E k)) hR hi51 hi52 hi53 hF hY hP (hEP) (hN) (hmj) (by omega)) (fun v22 M23 q24 => ?_)
        obtain ⟨rfl, rfl⟩ := q24
        show pl _ _ _ (121, [(0, .ref m0), (1, .int (nI k)), (2, .int (nI t)), (3, .int 0)], [.int (nI (pairN f E (se f E k)))], M) _
        refine ps_if (S1 := (128, [], [], M)) (S2 := (124, [(0, .ref m0), (1, .int (nI k)), (2, .int (nI t)), (3, .int 0)], [], M)) rfl rfl rfl (fun c_121 => ?_) (fun c_121 => ?_)
        · have c_121 : (nI (pairN f E (se f E k))) = 0 := of_decide_eq_true c_121
          have n_121 : pairN f E (se f E k) = 0 := (eq_nI (p := pairN f E (se f E k)) (n := 0) (Nat.lt_trans (le1_pair _ _ _) (by decide)) (by decide)).mp c_121
          refine ps_st (S' := (129, [], [.int 0], M)) rfl rfl rfl ?_
          exact ps_ret rfl rfl (⟨congrArg (fun x => some (Value.int (nI x))) (show 0 = memN f E k from by
              have e7 := lnk_7 (f := f) (E := E) (k := fi f E k)
              have e10 := mem_9 (f := f) (E := E) (k := k)
              have e11 := pair_9 (f := f) (E := E) (k := se f E k)
              have b2 := le1_mem f E k
              omega), rfl⟩)
        · have c_121 : ¬ ((nI (pairN f E (se f E k))) = 0) := of_decide_eq_false c_121
          have n_121 : ¬ (pairN f E (se f E k) = 0) := fun h9 => c_121 ((eq_nI (p := pairN f E (se f E k)) (n := 0) (Nat.lt_trans (le1_pair _ _ _) (by decide)) (by decide)).mpr h9)
          refine ps_st (S' := (125, [(0, .ref m0), (1, .int (nI k)), (2, .int (nI t)), (3, .int 0)], [.int 1], M)) rfl rfl rfl ?_
          refine ps_st (S' := (129, [], [.int 1], M)) rfl rfl rfl ?_
          exact ps_ret rfl rfl (⟨congrArg (fun x => some (Value.int (nI x))) (show 1 = memN f E k from by
              have e7 := lnk_7 (f := f) (E := E) (k := fi f E k)
              have e10 := mem_9 (f := f) (E := E) (k := k)
              have e11 := pair_9 (f := f) (E := E) (k := se f E k)
              have b2 := le1_mem f E k
              omega), rfl⟩)
set_option maxHeartbeats 1000000 in
theorem rd_indexes {g : xe_G} {m0 : Nat} {q : Nat → Nat} {z : Nat × Nat} {I : rI} {R : rR} {M : mi_H} {n : Nat} {f : Nat → Int32} {tx : List (List Nat)} {cN : Nat} {A : Nat → Nat} {N mj : Nat} {E : List (Nat × Nat)} {k t : Nat} (hR : RS g m0 q z I R M) (hi51 : I 51 = some 0) (hi52 : I 52 = some (nI N)) (hi53 : I 53 = some (nI mj)) (hF : FK n f I R) (hY : SYT tx cN A I R) (hP : RPV f n E tx N I R) (hEP : EP f n E) (hN : N < 65536) (hmj : mj < 65536) (ht : tg f E k = t) (ht2 : t < 256) (ht3 : ¬ t = 0) : pt (mT g) 214 [.ref m0, .int (nI k), .int (nI t), .int 1] M (fun v M' => (v = some (.int (nI (lnkN f E k))) ∧ M = M')) := by
  refine pt_in (b := mb_214 g) rfl (fun kf => ?_)
  show pl (mT g) kf (mb_214 g).2 (0, [(0, .ref m0), (1, .int (nI k)), (2, .int (nI t)), (3, .int 1)], [], M) _
  have hn := hF.1
  refine ps_st (S' := (1, [(0, .ref m0), (1, .int (nI k)), (2, .int (nI t)), (3, .int 1)], [.int (nI t)], M)) rfl rfl rfl ?_
  refine ps_st (S' := (3, [(0, .ref m0), (1, .int (nI k)), (2, .int (nI t)), (3, .int 1)], [.int 7, .int (nI t)], M)) rfl rfl rfl ?_
  refine ps_if2 (S1 := (30, [(0, .ref m0), (1, .int (nI k))], [], M)) (S2 := (6, [(0, .ref m0), (1, .int (nI k)), (2, .int (nI t)), (3, .int 1)], [], M)) rfl rfl rfl (fun c_3 => ?_) (fun c_3 => ?_)
  · have c_3 : (nI t) = 7 := of_decide_eq_true c_3
    have n_3 : t = 7 := (eq_nI (p := t) (n := 7) (by omega) (by decide)).mp c_3
    refine ps_st (S' := (31, [(0, .ref m0), (1, .int (nI k))], [.ref m0], M)) rfl rfl rfl ?_
    refine ps_st (S' := (32, [(0, .ref m0), (1, .int (nI k))], [.ref m0, .ref m0], M)) rfl rfl rfl ?_
    refine ps_st (S' := (33, [(0, .ref m0), (1, .int (nI k))], [.int (nI k), .ref m0, .ref m0], M)) rfl rfl rfl ?_
    refine ps_st (S' := (34, [(0, .ref m0), (1, .int (nI k))], [.int 1, .int (nI k), .ref m0, .ref m0], M)) rfl rfl rfl ?_
    refine pl_call (a := [.ref m0, .int (nI k), .int 1]) (rest := [.ref m0]) rfl rfl rfl (rd_idx1 (n := n) (f := f) (tx := tx) (cN := cN) (A := A) (N := N) (mj := mj) (E := E) (k := k) hR hi51 hi52 hi53 hF hY hP (hEP) (hN) (hmj) (by omega)) (fun v1 M2 q3 => ?_)
    obtain ⟨rfl, rfl⟩ := q3
    show pl _ _ _ (37, [(0, .ref m0), (1, .int (nI k))], [.int (nI (fi f E k)), .ref m0], M) _
    have hix_34 := fi_lt f E k
    refine pl_call (a := [.ref m0, .int (nI (fi f E k))]) (rest := []) rfl rfl rfl (rd_tag (n := n) (f := f) (tx := tx) (cN := cN) (A := A) (N := N) (mj := mj) (E := E) (k := (fi f E k)) hR hi51 hi52 hi53 hF hY hP (hEP) (hN) (hmj) (fi_lt _ _ _)) (fun v4 M5 q6 => ?_)
    obtain ⟨rfl, rfl⟩ := q6
    show pl _ _ _ (40, [(0, .ref m0), (1, .int (nI k))], [.int (nI (tg f E (fi f E k)))], M) _
    have htg_37 := tg_lt f E (fi f E k)
    refine ps_st (S' := (41, [(0, .ref m0), (1, .int (nI k))], [.int 1, .int (nI (tg f E (fi f E k)))], M)) rfl rfl rfl ?_
    refine ps_if2 (S1 := (48, [(0, .ref m0), (1, .int (nI k))], [], M)) (S2 := (44, [(0, .ref m0), (1, .int (nI k))], [], M)) rfl rfl rfl (fun c_41 => ?_) (fun c_41 => ?_)
    · have c_41 : ¬ (nI (tg f E (fi f E k))) = 1 := of_decide_eq_true c_41
      have n_41 : ¬ (tg f E (fi f E k) = 1) := fun h9 => c_41 ((eq_nI (p := tg f E (fi f E k)) (n := 1) (Nat.lt_trans (tg_lt _ _ _) (by decide)) (by decide)).mpr h9)
      refine ps_st (S' := (49, [], [.int 0], M)) rfl rfl rfl ?_
      exact ps_ret rfl rfl (⟨congrArg (fun x => some (Value.int (nI x))) (show 0 = lnkN f E k from by
          unfold lnkN
          first | ((repeat first | rw [if_pos (by omega)] | rw [if_neg (by omega)]) <;> first | rfl | omega) | ((repeat' split) <;> first | rfl | (exfalso; omega) | omega)), rfl⟩)
    · have c_41 : ¬ (¬ (nI (tg f E (fi f E k))) = 1) := of_decide_eq_false c_41
      have n_41 : tg f E (fi f E k) = 1 := (eq_nI (p := tg f E (fi f E k)) (n := 1) (Nat.lt_trans (tg_lt _ _ _) (by decide)) (by decide)).mp (Decidable.not_not.mp c_41)
      refine ps_st (S' := (45, [(0, .ref m0), (1, .int (nI k))], [.int 1], M)) rfl rfl rfl ?_
      refine ps_st (S' := (49, [], [.int 1], M)) rfl rfl rfl ?_
      exact ps_ret rfl rfl (⟨congrArg (fun x => some (Value.int (nI x))) (show 1 = lnkN f E k from by
          unfold lnkN
          first | ((repeat first | rw [if_pos (by omega)] | rw [if_neg (by omega)]) <;> first | rfl | omega) | ((repeat' split) <;> first | rfl | (exfalso; omega) | omega)), rfl⟩)
  · have c_3 : ¬ ((nI t) = 7) := of_decide_eq_false c_3
    have n_3 : ¬ (t = 7) := fun h9 => c_3 ((eq_nI (p := t) (n := 7) (by omega) (by decide)).mpr h9)
    refine ps_st (S' := (7, [(0, .ref m0), (1, .int (nI k)), (2, .int (nI t)), (3, .int 1)], [.int (nI t)], M)) rfl rfl rfl ?_
    refine ps_st (S' := (9, [(0, .ref m0), (1, .int (nI k)), (2, .int (nI t)), (3, .int 1)], [.int 8, .int (nI t)], M)) rfl rfl rfl ?_
    refine ps_if2 (S1 := (30, [(0, .ref m0), (1, .int (nI k))], [], M)) (S2 := (12, [(0, .ref m0), (1, .int (nI k)), (2, .int (nI t)), (3, .int 1)], [], M)) rfl rfl rfl (fun c_9 => ?_) (fun c_9 => ?_)
    · have c_9 : (nI t) = 8 := of_decide_eq_true c_9
      have n_9 : t = 8 := (eq_nI (p := t) (n := 8) (by omega) (by decide)).mp c_9
      refine ps_st (S' := (31, [(0, .ref m0), (1, .int (nI k))], [.ref m0], M)) rfl rfl rfl ?_
      refine ps_st (S' := (32, [(0, .ref m0), (1, .int (nI k))], [.ref m0, .ref m0], M)) rfl rfl rfl ?_
      refine ps_st (S' := (33, [(0, .ref m0), (1, .int (nI k))], [.int (nI k), .ref m0, .ref m0], M)) rfl rfl rfl ?_
      refine ps_st (S' := (34, [(0, .ref m0), (1, .int (nI k))], [.int 1, .int (nI k), .ref m0, .ref m0], M)) rfl rfl rfl ?_
      refine pl_call (a := [.ref m0, .int (nI k), .int 1]) (rest := [.ref m0]) rfl rfl rfl (rd_idx1 (n := n) (f := f) (tx := tx) (cN := cN) (A := A) (N := N) (mj := mj) (E := E) (k := k) hR hi51 hi52 hi53 hF hY hP (hEP) (hN) (hmj) (by omega)) (fun v7 M8 q9 => ?_)
      obtain ⟨rfl, rfl⟩ := q9
      show pl _ _ _ (37, [(0, .ref m0), (1, .int (nI k))], [.int (nI (fi f E k)), .ref m0], M) _
      have hix_34 := fi_lt f E k
      refine pl_call (a := [.ref m0, .int (nI (fi f E k))]) (rest := []) rfl rfl rfl (rd_tag (n := n) (f := f) (tx := tx) (cN := cN) (A := A) (N := N) (mj := mj) (E := E) (k := (fi f E k)) hR hi51 hi52 hi53 hF hY hP (hEP) (hN) (hmj) (fi_lt _ _ _)) (fun v10 M11 q12 => ?_)
      obtain ⟨rfl, rfl⟩ := q12
      show pl _ _ _ (40, [(0, .ref m0), (1, .int (nI k))], [.int (nI (tg f E (fi f E k)))], M) _
      have htg_37 := tg_lt f E (fi f E k)
      refine ps_st (S' := (41, [(0, .ref m0), (1, .int (nI k))], [.int 1, .int (nI (tg f E (fi f E k)))], M)) rfl rfl rfl ?_
      refine ps_if2 (S1 := (48, [(0, .ref m0), (1, .int (nI k))], [], M)) (S2 := (44, [(0, .ref m0), (1, .int (nI k))], [], M)) rfl rfl rfl (fun c_41 => ?_) (fun c_41 => ?_)
      · have c_41 : ¬ (nI (tg f E (fi f E k))) = 1 := of_decide_eq_true c_41
        have n_41 : ¬ (tg f E (fi f E k) = 1) := fun h9 => c_41 ((eq_nI (p := tg f E (fi f E k)) (n := 1) (Nat.lt_trans (tg_lt _ _ _) (by decide)) (by decide)).mpr h9)
        refine ps_st (S' := (49, [], [.int 0], M)) rfl rfl rfl ?_
        exact ps_ret rfl rfl (⟨congrArg (fun x => some (Value.int (nI x))) (show 0 = lnkN f E k from by
            unfold lnkN
            first | ((repeat first | rw [if_pos (by omega)] | rw [if_neg (by omega)]) <;> first | rfl | omega) | ((repeat' split) <;> first | rfl | (exfalso; omega) | omega)), rfl⟩)
      · have c_41 : ¬ (¬ (nI (tg f E (fi f E k))) = 1) := of_decide_eq_false c_41
        have n_41 : tg f E (fi f E k) = 1 := (eq_nI (p := tg f E (fi f E k)) (n := 1) (Nat.lt_trans (tg_lt _ _ _) (by decide)) (by decide)).mp (Decidable.not_not.mp c_41)
        refine ps_st (S' := (45, [(0, .ref m0), (1, .int (nI k))], [.int 1], M)) rfl rfl rfl ?_
        refine ps_st (S' := (49, [], [.int 1], M)) rfl rfl rfl ?_
        exact ps_ret rfl rfl (⟨congrArg (fun x => some (Value.int (nI x))) (show 1 = lnkN f E k from by
            unfold lnkN
            first | ((repeat first | rw [if_pos (by omega)] | rw [if_neg (by omega)]) <;> first | rfl | omega) | ((repeat' split) <;> first | rfl | (exfalso; omega) | omega)), rfl⟩)
    · have c_9 : ¬ ((nI t) = 8) := of_decide_eq_false c_9
      have n_9 : ¬ (t = 8) := fun h9 => c_9 ((eq_nI (p := t) (n := 8) (by omega) (by decide)).mpr h9)
      refine ps_st (S' := (13, [(0, .ref m0), (1, .int (nI k)), (2, .int (nI t)), (3, .int 1)], [.int (nI t)], M)) rfl rfl rfl ?_
      refine ps_st (S' := (15, [(0, .ref m0), (1, .int (nI k)), (2, .int (nI t)), (3, .int 1)], [.int 16, .int (nI t)], M)) rfl rfl rfl ?_
      refine ps_if2 (S1 := (30, [(0, .ref m0), (1, .int (nI k))], [], M)) (S2 := (18, [(0, .ref m0), (1, .int (nI k)), (2, .int (nI t)), (3, .int 1)], [], M)) rfl rfl rfl (fun c_15 => ?_) (fun c_15 => ?_)
      · have c_15 : (nI t) = 16 := of_decide_eq_true c_15
        have n_15 : t = 16 := (eq_nI (p := t) (n := 16) (by omega) (by decide)).mp c_15
        refine ps_st (S' := (31, [(0, .ref m0), (1, .int (nI k))], [.ref m0], M)) rfl rfl rfl ?_
        refine ps_st (S' := (32, [(0, .ref m0), (1, .int (nI k))], [.ref m0, .ref m0], M)) rfl rfl rfl ?_
        refine ps_st (S' := (33, [(0, .ref m0), (1, .int (nI k))], [.int (nI k), .ref m0, .ref m0], M)) rfl rfl rfl ?_
        refine ps_st (S' := (34, [(0, .ref m0), (1, .int (nI k))], [.int 1, .int (nI k), .ref m0, .ref m0], M)) rfl rfl rfl ?_
        refine pl_call (a := [.ref m0, .int (nI k), .int 1]) (rest := [.ref m0]) rfl rfl rfl (rd_idx1 (n := n) (f := f) (tx := tx) (cN := cN) (A := A) (N := N) (mj := mj) (E := E) (k := k) hR hi51 hi52 hi53 hF hY hP (hEP) (hN) (hmj) (by omega)) (fun v13 M14 q15 => ?_)
        obtain ⟨rfl, rfl⟩ := q15
        show pl _ _ _ (37, [(0, .ref m0), (1, .int (nI k))], [.int (nI (fi f E k)), .ref m0], M) _
        have hix_34 := fi_lt f E k
        refine pl_call (a := [.ref m0, .int (nI (fi f E k))]) (rest := []) rfl rfl rfl (rd_tag (n := n) (f := f) (tx := tx) (cN := cN) (A := A) (N := N) (mj := mj) (E := E) (k := (fi f E k)) hR hi51 hi52 hi53 hF hY hP (hEP) (hN) (hmj) (fi_lt _ _ _)) (fun v16 M17 q18 => ?_)
        obtain ⟨rfl, rfl⟩ := q18
        show pl _ _ _ (40, [(0, .ref m0), (1, .int (nI k))], [.int (nI (tg f E (fi f E k)))], M) _
        have htg_37 := tg_lt f E (fi f E k)
        refine ps_st (S' := (41, [(0, .ref m0), (1, .int (nI k))], [.int 1, .int (nI (tg f E (fi f E k)))], M)) rfl rfl rfl ?_
        refine ps_if2 (S1 := (48, [(0, .ref m0), (1, .int (nI k))], [], M)) (S2 := (44, [(0, .ref m0), (1, .int (nI k))], [], M)) rfl rfl rfl (fun c_41 => ?_) (fun c_41 => ?_)
        · have c_41 : ¬ (nI (tg f E (fi f E k))) = 1 := of_decide_eq_true c_41
          have n_41 : ¬ (tg f E (fi f E k) = 1) := fun h9 => c_41 ((eq_nI (p := tg f E (fi f E k)) (n := 1) (Nat.lt_trans (tg_lt _ _ _) (by decide)) (by decide)).mpr h9)
          refine ps_st (S' := (49, [], [.int 0], M)) rfl rfl rfl ?_
          exact ps_ret rfl rfl (⟨congrArg (fun x => some (Value.int (nI x))) (show 0 = lnkN f E k from by
              unfold lnkN
              first | ((repeat first | rw [if_pos (by omega)] | rw [if_neg (by omega)]) <;> first | rfl | omega) | ((repeat' split) <;> first | rfl | (exfalso; omega) | omega)), rfl⟩)
        · have c_41 : ¬ (¬ (nI (tg f E (fi f E k))) = 1) := of_decide_eq_false c_41
          have n_41 : tg f E (fi f E k) = 1 := (eq_nI (p := tg f E (fi f E k)) (n := 1) (Nat.lt_trans (tg_lt _ _ _) (by decide)) (by decide)).mp (Decidable.not_not.mp c_41)
          refine ps_st (S' := (45, [(0, .ref m0), (1, .int (nI k))], [.int 1], M)) rfl rfl rfl ?_
          refine ps_st (S' := (49, [], [.int 1], M)) rfl rfl rfl ?_
          exact ps_ret rfl rfl (⟨congrArg (fun x => some (Value.int (nI x))) (show 1 = lnkN f E k from by
              unfold lnkN
              first | ((repeat first | rw [if_pos (by omega)] | rw [if_neg (by omega)]) <;> first | rfl | omega) | ((repeat' split) <;> first | rfl | (exfalso; omega) | omega)), rfl⟩)
      · have c_15 : ¬ ((nI t) = 16) := of_decide_eq_false c_15
        have n_15 : ¬ (t = 16) := fun h9 => c_15 ((eq_nI (p := t) (n := 16) (by omega) (by decide)).mpr h9)
        refine ps_st (S' := (19, [(0, .ref m0), (1, .int (nI k)), (2, .int (nI t)), (3, .int 1)], [.int (nI t)], M)) rfl rfl rfl ?_
        refine ps_st (S' := (21, [(0, .ref m0), (1, .int (nI k)), (2, .int (nI t)), (3, .int 1)], [.int 19, .int (nI t)], M)) rfl rfl rfl ?_
        refine ps_if2 (S1 := (30, [(0, .ref m0), (1, .int (nI k))], [], M)) (S2 := (24, [(0, .ref m0), (1, .int (nI k)), (2, .int (nI t)), (3, .int 1)], [], M)) rfl rfl rfl (fun c_21 => ?_) (fun c_21 => ?_)
        · have c_21 : (nI t) = 19 := of_decide_eq_true c_21
          have n_21 : t = 19 := (eq_nI (p := t) (n := 19) (by omega) (by decide)).mp c_21
          refine ps_st (S' := (31, [(0, .ref m0), (1, .int (nI k))], [.ref m0], M)) rfl rfl rfl ?_
          refine ps_st (S' := (32, [(0, .ref m0), (1, .int (nI k))], [.ref m0, .ref m0], M)) rfl rfl rfl ?_
          refine ps_st (S' := (33, [(0, .ref m0), (1, .int (nI k))], [.int (nI k), .ref m0, .ref m0], M)) rfl rfl rfl ?_
          refine ps_st (S' := (34, [(0, .ref m0), (1, .int (nI k))], [.int 1, .int (nI k), .ref m0, .ref m0], M)) rfl rfl rfl ?_
          refine pl_call (a := [.ref m0, .int (nI k), .int 1]) (rest := [.ref m0]) rfl rfl rfl (rd_idx1 (n := n) (f := f) (tx := tx) (cN := cN) (A := A) (N := N) (mj := mj) (E := E) (k := k) hR hi51 hi52 hi53 hF hY hP (hEP) (hN) (hmj) (by omega)) (fun v19 M20 q21 => ?_)
          obtain ⟨rfl, rfl⟩ := q21
          show pl _ _ _ (37, [(0, .ref m0), (1, .int (nI k))], [.int (nI (fi f E k)), .ref m0], M) _
          have hix_34 := fi_lt f E k
          refine pl_call (a := [.ref m0, .int (nI (fi f E k))]) (rest := []) rfl rfl rfl (rd_tag (n := n) (f := f) (tx := tx) (cN := cN) (A := A) (N := N) (mj := mj) (E := E) (k := (fi f E k)) hR hi51 hi52 hi53 hF hY hP (hEP) (hN) (hmj) (fi_lt _ _ _)) (fun v22 M23 q24 => ?_)
          obtain ⟨rfl, rfl⟩ := q24
          show pl _ _ _ (40, [(0, .ref m0), (1, .int (nI k))], [.int (nI (tg f E (fi f E k)))], M) _
          have htg_37 := tg_lt f E (fi f E k)
          refine ps_st (S' := (41, [(0, .ref m0), (1, .int (nI k))], [.int 1, .int (nI (tg f E (fi f E k)))], M)) rfl rfl rfl ?_
          refine ps_if2 (S1 := (48, [(0, .ref m0), (1, .int (nI k))], [], M)) (S2 := (44, [(0, .ref m0), (1, .int (nI k))], [], M)) rfl rfl rfl (fun c_41 => ?_) (fun c_41 => ?_)
          · have c_41 : ¬ (nI (tg f E (fi f E k))) = 1 := of_decide_eq_true c_41
            have n_41 : ¬ (tg f E (fi f E k) = 1) := fun h9 => c_41 ((eq_nI (p := tg f E (fi f E k)) (n := 1) (Nat.lt_trans (tg_lt _ _ _) (by decide)) (by decide)).mpr h9)
            refine ps_st (S' := (49, [], [.int 0], M)) rfl rfl rfl ?_
            exact ps_ret rfl rfl (⟨congrArg (fun x => some (Value.int (nI x))) (show 0 = lnkN f E k from by
                unfold lnkN
                first | ((repeat first | rw [if_pos (by omega)] | rw [if_neg (by omega)]) <;> first | rfl | omega) | ((repeat' split) <;> first | rfl | (exfalso; omega) | omega)), rfl⟩)
          · have c_41 : ¬ (¬ (nI (tg f E (fi f E k))) = 1) := of_decide_eq_false c_41
            have n_41 : tg f E (fi f E k) = 1 := (eq_nI (p := tg f E (fi f E k)) (n := 1) (Nat.lt_trans (tg_lt _ _ _) (by decide)) (by decide)).mp (Decidable.not_not.mp c_41)
            refine ps_st (S' := (45, [(0, .ref m0), (1, .int (nI k))], [.int 1], M)) rfl rfl rfl ?_
            refine ps_st (S' := (49, [], [.int 1], M)) rfl rfl rfl ?_
            exact ps_ret rfl rfl (⟨congrArg (fun x => some (Value.int (nI x))) (show 1 = lnkN f E k from by
                unfold lnkN
                first | ((repeat first | rw [if_pos (by omega)] | rw [if_neg (by omega)]) <;> first | rfl | omega) | ((repeat' split) <;> first | rfl | (exfalso; omega) | omega)), rfl⟩)
        · have c_21 : ¬ ((nI t) = 19) := of_decide_eq_false c_21
          have n_21 : ¬ (t = 19) := fun h9 => c_21 ((eq_nI (p := t) (n := 19) (by omega) (by decide)).mpr h9)
          refine ps_st (S' := (25, [(0, .ref m0), (1, .int (nI k)), (2, .int (nI t)), (3, .int 1)], [.int (nI t)], M)) rfl rfl rfl ?_
          refine ps_st (S' := (27, [(0, .ref m0), (1, .int (nI k)), (2, .int (nI t)), (3, .int 1)], [.int 20, .int (nI t)], M)) rfl rfl rfl ?_
          refine ps_if2 (S1 := (50, [(0, .ref m0), (1, .int (nI k)), (2, .int (nI t)), (3, .int 1)], [], M)) (S2 := (30, [(0, .ref m0), (1, .int (nI k))], [], M)) rfl rfl rfl (fun c_27 => ?_) (fun c_27 => ?_)
          · have c_27 : ¬ (nI t) = 20 := of_decide_eq_true c_27
            have n_27 : ¬ (t = 20) := fun h9 => c_27 ((eq_nI (p := t) (n := 20) (by omega) (by decide)).mpr h9)
            refine ps_st (S' := (51, [(0, .ref m0), (1, .int (nI k)), (2, .int (nI t)), (3, .int 1)], [.int (nI t)], M)) rfl rfl rfl ?_
            refine ps_st (S' := (53, [(0, .ref m0), (1, .int (nI k)), (2, .int (nI t)), (3, .int 1)], [.int 9, .int (nI t)], M)) rfl rfl rfl ?_
            refine ps_if2 (S1 := (130, [(0, .ref m0), (1, .int (nI k)), (2, .int (nI t))], [], M)) (S2 := (56, [(0, .ref m0), (1, .int (nI k)), (2, .int (nI t)), (3, .int 1)], [], M)) rfl rfl rfl (fun c_53 => ?_) (fun c_53 => ?_)
            · have c_53 : (nI t) < 9 := of_decide_eq_true c_53
              have n_53 : t < 9 := (lt_nI (p := t) (n := 9) (by omega) (by decide)).mp c_53
              refine ps_st (S' := (131, [(0, .ref m0), (1, .int (nI k)), (2, .int (nI t))], [.int (nI t)], M)) rfl rfl rfl ?_
              refine ps_st (S' := (133, [(0, .ref m0), (1, .int (nI k)), (2, .int (nI t))], [.int 12, .int (nI t)], M)) rfl rfl rfl ?_
              refine ps_if2 (S1 := (170, [(0, .ref m0), (1, .int (nI k)), (2, .int (nI t))], [], M)) (S2 := (136, [(0, .ref m0), (1, .int (nI k)), (2, .int (nI t))], [], M)) rfl rfl rfl (fun c_133 => ?_) (fun c_133 => ?_)
              rotate_left
              · exact absurd (show ¬ ((nI t) = 12) from fun h9 => absurd ((eq_nI (p := t) (n := 12) (by omega) (by decide)).mp h9) (by omega)) (of_decide_eq_false c_133)
              refine ps_st (S' := (171, [(0, .ref m0), (1, .int (nI k)), (2, .int (nI t))], [.int (nI t)], M)) rfl rfl rfl ?_
              refine ps_st (S' := (173, [(0, .ref m0), (1, .int (nI k)), (2, .int (nI t))], [.int 15, .int (nI t)], M)) rfl rfl rfl ?_
              refine ps_if2 (S1 := (229, [(0, .ref m0), (1, .int (nI k)), (2, .int (nI t))], [], M)) (S2 := (176, [(0, .ref m0), (1, .int (nI k)), (2, .int (nI t))], [], M)) rfl rfl rfl (fun c_173 => ?_) (fun c_173 => ?_)
              rotate_left
              · exact absurd (show ¬ ((nI t) = 15) from fun h9 => absurd ((eq_nI (p := t) (n := 15) (by omega) (by decide)).mp h9) (by omega)) (of_decide_eq_false c_173)
              refine ps_st (S' := (230, [(0, .ref m0), (1, .int (nI k)), (2, .int (nI t))], [.int (nI t)], M)) rfl rfl rfl ?_
              refine ps_st (S' := (232, [(0, .ref m0), (1, .int (nI k)), (2, .int (nI t))], [.int 17, .int (nI t)], M)) rfl rfl rfl ?_
              refine ps_if2 (S1 := (241, [(0, .ref m0), (1, .int (nI k))], [], M)) (S2 := (235, [(0, .ref m0), (1, .int (nI k)), (2, .int (nI t))], [], M)) rfl rfl rfl (fun c_232 => ?_) (fun c_232 => ?_)
              · exact absurd (of_decide_eq_true c_232) (show ¬ ((nI t) = 17) from fun h9 => absurd ((eq_nI (p := t) (n := 17) (by omega) (by decide)).mp h9) (by omega))
              refine ps_st (S' := (236, [(0, .ref m0), (1, .int (nI k)), (2, .int (nI t))], [.int (nI t)], M)) rfl rfl rfl ?_
              refine ps_st (S' := (238, [(0, .ref m0), (1, .int (nI k)), (2, .int (nI t))], [.int 18, .int (nI t)], M)) rfl rfl rfl ?_
              refine ps_if2 (S1 := (278, [(0, .ref m0), (1, .int (nI k)), (2, .int (nI t))], [], M)) (S2 := (241, [(0, .ref m0), (1, .int (nI k))], [], M)) rfl rfl rfl (fun c_238 => ?_) (fun c_238 => ?_)
              rotate_left
              · exact absurd (show ¬ ((nI t) = 18) from fun h9 => absurd ((eq_nI (p := t) (n := 18) (by omega) (by decide)).mp h9) (by omega)) (of_decide_eq_false c_238)
              refine ps_st (S' := (279, [(0, .ref m0), (1, .int (nI k)), (2, .int (nI t))], [.int 1], M)) rfl rfl rfl ?_
              exact ps_ret rfl rfl (⟨congrArg (fun x => some (Value.int (nI x))) (show 1 = lnkN f E k from by
                  unfold lnkN
                  first | ((repeat first | rw [if_pos (by omega)] | rw [if_neg (by omega)]) <;> first | rfl | omega) | ((repeat' split) <;> first | rfl | (exfalso; omega) | omega)), rfl⟩)
            · have c_53 : ¬ ((nI t) < 9) := of_decide_eq_false c_53
              have n_53 : ¬ (t < 9) := fun h9 => c_53 ((lt_nI (p := t) (n := 9) (by omega) (by decide)).mpr h9)
              refine ps_st (S' := (57, [(0, .ref m0), (1, .int (nI k)), (2, .int (nI t)), (3, .int 1)], [.int (nI t)], M)) rfl rfl rfl ?_
              refine ps_st (S' := (59, [(0, .ref m0), (1, .int (nI k)), (2, .int (nI t)), (3, .int 1)], [.int 11, .int (nI t)], M)) rfl rfl rfl ?_
              refine ps_if2 (S1 := (130, [(0, .ref m0), (1, .int (nI k)), (2, .int (nI t))], [], M)) (S2 := (62, [(0, .ref m0), (1, .int (nI k)), (2, .int (nI t)), (3, .int 1)], [], M)) rfl rfl rfl (fun c_59 => ?_) (fun c_59 => ?_)
              · have c_59 : 11 < (nI t) := of_decide_eq_true c_59
                have n_59 : 11 < t := (lt_nI (p := 11) (n := t) (by decide) (by omega)).mp c_59
                refine ps_st (S' := (131, [(0, .ref m0), (1, .int (nI k)), (2, .int (nI t))], [.int (nI t)], M)) rfl rfl rfl ?_
                refine ps_st (S' := (133, [(0, .ref m0), (1, .int (nI k)), (2, .int (nI t))], [.int 12, .int (nI t)], M)) rfl rfl rfl ?_
                refine ps_if2 (S1 := (170, [(0, .ref m0), (1, .int (nI k)), (2, .int (nI t))], [], M)) (S2 := (136, [(0, .ref m0), (1, .int (nI k)), (2, .int (nI t))], [], M)) rfl rfl rfl (fun c_133 => ?_) (fun c_133 => ?_)
                · have c_133 : ¬ (nI t) = 12 := of_decide_eq_true c_133
                  have n_133 : ¬ (t = 12) := fun h9 => c_133 ((eq_nI (p := t) (n := 12) (by omega) (by decide)).mpr h9)
                  refine ps_st (S' := (171, [(0, .ref m0), (1, .int (nI k)), (2, .int (nI t))], [.int (nI t)], M)) rfl rfl rfl ?_
                  refine ps_st (S' := (173, [(0, .ref m0), (1, .int (nI k)), (2, .int (nI t))], [.int 15, .int (nI t)], M)) rfl rfl rfl ?_
                  refine ps_if2 (S1 := (229, [(0, .ref m0), (1, .int (nI k)), (2, .int (nI t))], [], M)) (S2 := (176, [(0, .ref m0), (1, .int (nI k)), (2, .int (nI t))], [], M)) rfl rfl rfl (fun c_173 => ?_) (fun c_173 => ?_)
                  · have c_173 : ¬ (nI t) = 15 := of_decide_eq_true c_173
                    have n_173 : ¬ (t = 15) := fun h9 => c_173 ((eq_nI (p := t) (n := 15) (by omega) (by decide)).mpr h9)
                    refine ps_st (S' := (230, [(0, .ref m0), (1, .int (nI k)), (2, .int (nI t))], [.int (nI t)], M)) rfl rfl rfl ?_
                    refine ps_st (S' := (232, [(0, .ref m0), (1, .int (nI k)), (2, .int (nI t))], [.int 17, .int (nI t)], M)) rfl rfl rfl ?_
                    refine ps_if2 (S1 := (241, [(0, .ref m0), (1, .int (nI k))], [], M)) (S2 := (235, [(0, .ref m0), (1, .int (nI k)), (2, .int (nI t))], [], M)) rfl rfl rfl (fun c_232 => ?_) (fun c_232 => ?_)
                    · have c_232 : (nI t) = 17 := of_decide_eq_true c_232
                      have n_232 : t = 17 := (eq_nI (p := t) (n := 17) (by omega) (by decide)).mp c_232
                      refine ps_st (S' := (242, [(0, .ref m0), (1, .int (nI k))], [.ref m0], M)) rfl rfl rfl ?_
                      refine ps_st (S' := (243, [(0, .ref m0), (1, .int (nI k))], [.ref m0, .ref m0], M)) rfl rfl rfl ?_
                      refine ps_st (S' := (244, [(0, .ref m0), (1, .int (nI k))], [.int (nI k), .ref m0, .ref m0], M)) rfl rfl rfl ?_
                      refine ps_st (S' := (245, [(0, .ref m0), (1, .int (nI k))], [.int 3, .int (nI k), .ref m0, .ref m0], M)) rfl rfl rfl ?_
                      refine pl_call (a := [.ref m0, .int (nI k), .int 3]) (rest := [.ref m0]) rfl rfl rfl (rd_idx3 (n := n) (f := f) (tx := tx) (cN := cN) (A := A) (N := N) (mj := mj) (E := E) (k := k) hR hi51 hi52 hi53 hF hY hP (hEP) (hN) (hmj) (by omega)) (fun v25 M26 q27 => ?_)
                      obtain ⟨rfl, rfl⟩ := q27
                      show pl _ _ _ (248, [(0, .ref m0), (1, .int (nI k))], [.int (nI (se f E k)), .ref m0], M) _
                      have hix_245 := se_lt f E k
                      refine pl_call (a := [.ref m0, .int (nI (se f E k))]) (rest := []) rfl rfl rfl (rd_tag (n := n) (f := f) (tx := tx) (cN := cN) (A := A) (N := N) (mj := mj) (E := E) (k := (se f E k)) hR hi51 hi52 hi53 hF hY hP (hEP) (hN) (hmj) (se_lt _ _ _)) (fun v28 M29 q30 => ?_)
                      obtain ⟨rfl, rfl⟩ := q30
                      show pl _ _ _ (251, [(0, .ref m0), (1, .int (nI k))], [.int (nI (tg f E (se f E k)))], M) _
                      have htg_248 := tg_lt f E (se f E k)
                      refine ps_st (S' := (253, [(0, .ref m0), (1, .int (nI k))], [.int 12, .int (nI (tg f E (se f E k)))], M)) rfl rfl rfl ?_
                      refine ps_if2 (S1 := (276, [], [], M)) (S2 := (256, [(0, .ref m0), (1, .int (nI k))], [], M)) rfl rfl rfl (fun c_253 => ?_) (fun c_253 => ?_)
                      · have c_253 : ¬ (nI (tg f E (se f E k))) = 12 := of_decide_eq_true c_253
                        have n_253 : ¬ (tg f E (se f E k) = 12) := fun h9 => c_253 ((eq_nI (p := tg f E (se f E k)) (n := 12) (Nat.lt_trans (tg_lt _ _ _) (by decide)) (by decide)).mpr h9)
                        refine ps_st (S' := (277, [], [.int 0], M)) rfl rfl rfl ?_
                        exact ps_ret rfl rfl (⟨congrArg (fun x => some (Value.int (nI x))) (show 0 = lnkN f E k from by
                            have e11 := pair_9 (f := f) (E := E) (k := se f E k)
                            have b3 := le1_pair f E (se f E k)
                            unfold lnkN
                            first | ((repeat first | rw [if_pos (by omega)] | rw [if_neg (by omega)]) <;> first | rfl | omega) | ((repeat' split) <;> first | rfl | (exfalso; omega) | omega)), rfl⟩)
                      · have c_253 : ¬ (¬ (nI (tg f E (se f E k))) = 12) := of_decide_eq_false c_253
                        have n_253 : tg f E (se f E k) = 12 := (eq_nI (p := tg f E (se f E k)) (n := 12) (Nat.lt_trans (tg_lt _ _ _) (by decide)) (by decide)).mp (Decidable.not_not.mp c_253)
                        refine ps_st (S' := (257, [(0, .ref m0), (1, .int (nI k))], [.ref m0], M)) rfl rfl rfl ?_
                        refine ps_st (S' := (258, [(0, .ref m0), (1, .int (nI k))], [.ref m0, .ref m0], M)) rfl rfl rfl ?_
                        refine ps_st (S' := (259, [(0, .ref m0), (1, .int (nI k))], [.int (nI k), .ref m0, .ref m0], M)) rfl rfl rfl ?_
                        refine ps_st (S' := (260, [(0, .ref m0), (1, .int (nI k))], [.int 3, .int (nI k), .ref m0, .ref m0], M)) rfl rfl rfl ?_
                        refine pl_call (a := [.ref m0, .int (nI k), .int 3]) (rest := [.ref m0]) rfl rfl rfl (rd_idx3 (n := n) (f := f) (tx := tx) (cN := cN) (A := A) (N := N) (mj := mj) (E := E) (k := k) hR hi51 hi52 hi53 hF hY hP (hEP) (hN) (hmj) (by omega)) (fun v31 M32 q33 => ?_)
                        obtain ⟨rfl, rfl⟩ := q33
                        show pl _ _ _ (263, [(0, .ref m0), (1, .int (nI k))], [.int (nI (se f E k)), .ref m0], M) _
                        have hix_260 := se_lt f E k
                        refine ps_st (S' := (265, [(0, .ref m0), (1, .int (nI k))], [.int 12, .int (nI (se f E k)), .ref m0], M)) rfl rfl rfl ?_
                        refine ps_st (S' := (266, [(0, .ref m0), (1, .int (nI k))], [.int 0, .int 12, .int (nI (se f E k)), .ref m0], M)) rfl rfl rfl ?_
                        refine pl_call (a := [.ref m0, .int (nI (se f E k)), .int 12, .int 0]) (rest := []) rfl rfl rfl (rd_ix12 (n := n) (f := f) (tx := tx) (cN := cN) (A := A) (N := N) (mj := mj) (E := E) (k := (se f E k)) hR hi51 hi52 hi53 hF hY hP (hEP) (hN) (hmj) (by omega)) (fun v34 M35 q36 => ?_)
                        obtain ⟨rfl, rfl⟩ := q36
                        show pl _ _ _ (269, [(0, .ref m0), (1, .int (nI k))], [.int (nI (pairN f E (se f E k)))], M) _
                        refine ps_if (S1 := (276, [], [], M)) (S2 := (272, [(0, .ref m0), (1, .int (nI k))], [], M)) rfl rfl rfl (fun c_269 => ?_) (fun c_269 => ?_)
                        · have c_269 : (nI (pairN f E (se f E k))) = 0 := of_decide_eq_true c_269
                          have n_269 : pairN f E (se f E k) = 0 := (eq_nI (p := pairN f E (se f E k)) (n := 0) (Nat.lt_trans (le1_pair _ _ _) (by decide)) (by decide)).mp c_269
                          refine ps_st (S' := (277, [], [.int 0], M)) rfl rfl rfl ?_
                          exact ps_ret rfl rfl (⟨congrArg (fun x => some (Value.int (nI x))) (show 0 = lnkN f E k from by
                              have e11 := pair_9 (f := f) (E := E) (k := se f E k)
                              have b3 := le1_pair f E (se f E k)
                              unfold lnkN
                              first | ((repeat first | rw [if_pos (by omega)] | rw [if_neg (by omega)]) <;> first | rfl | omega) | ((repeat' split) <;> first | rfl | (exfalso; omega) | omega)), rfl⟩)
                        · have c_269 : ¬ ((nI (pairN f E (se f E k))) = 0) := of_decide_eq_false c_269
                          have n_269 : ¬ (pairN f E (se f E k) = 0) := fun h9 => c_269 ((eq_nI (p := pairN f E (se f E k)) (n := 0) (Nat.lt_trans (le1_pair _ _ _) (by decide)) (by decide)).mpr h9)
                          refine ps_st (S' := (273, [(0, .ref m0), (1, .int (nI k))], [.int 1], M)) rfl rfl rfl ?_
                          refine ps_st (S' := (277, [], [.int 1], M)) rfl rfl rfl ?_
                          exact ps_ret rfl rfl (⟨congrArg (fun x => some (Value.int (nI x))) (show 1 = lnkN f E k from by
                              have e11 := pair_9 (f := f) (E := E) (k := se f E k)
                              have b3 := le1_pair f E (se f E k)
                              unfold lnkN
                              first | ((repeat first | rw [if_pos (by omega)] | rw [if_neg (by omega)]) <;> first | rfl | omega) | ((repeat' split) <;> first | rfl | (exfalso; omega) | omega)), rfl⟩)
                    · have c_232 : ¬ ((nI t) = 17) := of_decide_eq_false c_232
                      have n_232 : ¬ (t = 17) := fun h9 => c_232 ((eq_nI (p := t) (n := 17) (by omega) (by decide)).mpr h9)
                      refine ps_st (S' := (236, [(0, .ref m0), (1, .int (nI k)), (2, .int (nI t))], [.int (nI t)], M)) rfl rfl rfl ?_
                      refine ps_st (S' := (238, [(0, .ref m0), (1, .int (nI k)), (2, .int (nI t))], [.int 18, .int (nI t)], M)) rfl rfl rfl ?_
                      refine ps_if2 (S1 := (278, [(0, .ref m0), (1, .int (nI k)), (2, .int (nI t))], [], M)) (S2 := (241, [(0, .ref m0), (1, .int (nI k))], [], M)) rfl rfl rfl (fun c_238 => ?_) (fun c_238 => ?_)
                      · have c_238 : ¬ (nI t) = 18 := of_decide_eq_true c_238
                        have n_238 : ¬ (t = 18) := fun h9 => c_238 ((eq_nI (p := t) (n := 18) (by omega) (by decide)).mpr h9)
                        refine ps_st (S' := (279, [(0, .ref m0), (1, .int (nI k)), (2, .int (nI t))], [.int 1], M)) rfl rfl rfl ?_
                        exact ps_ret rfl rfl (⟨congrArg (fun x => some (Value.int (nI x))) (show 1 = lnkN f E k from by
                            unfold lnkN
                            first | ((repeat first | rw [if_pos (by omega)] | rw [if_neg (by omega)]) <;> first | rfl | omega) | ((repeat' split) <;> first | rfl | (exfalso; omega) | omega)), rfl⟩)
                      · have c_238 : ¬ (¬ (nI t) = 18) := of_decide_eq_false c_238
                        have n_238 : t = 18 := (eq_nI (p := t) (n := 18) (by omega) (by decide)).mp (Decidable.not_not.mp c_238)
                        refine ps_st (S' := (242, [(0, .ref m0), (1, .int (nI k))], [.ref m0], M)) rfl rfl rfl ?_
                        refine ps_st (S' := (243, [(0, .ref m0), (1, .int (nI k))], [.ref m0, .ref m0], M)) rfl rfl rfl ?_
                        refine ps_st (S' := (244, [(0, .ref m0), (1, .int (nI k))], [.int (nI k), .ref m0, .ref m0], M)) rfl rfl rfl ?_
                        refine ps_st (S' := (245, [(0, .ref m0), (1, .int (nI k))], [.int 3, .int (nI k), .ref m0, .ref m0], M)) rfl rfl rfl ?_
                        refine pl_call (a := [.ref m0, .int (nI k), .int 3]) (rest := [.ref m0]) rfl rfl rfl (rd_idx3 (n := n) (f := f) (tx := tx) (cN := cN) (A := A) (N := N) (mj := mj) (E := E) (k := k) hR hi51 hi52 hi53 hF hY hP (hEP) (hN) (hmj) (by omega)) (fun v37 M38 q39 => ?_)
                        obtain ⟨rfl, rfl⟩ := q39
                        show pl _ _ _ (248, [(0, .ref m0), (1, .int (nI k))], [.int (nI (se f E k)), .ref m0], M) _
                        have hix_245 := se_lt f E k
                        refine pl_call (a := [.ref m0, .int (nI (se f E k))]) (rest := []) rfl rfl rfl (rd_tag (n := n) (f := f) (tx := tx) (cN := cN) (A := A) (N := N) (mj := mj) (E := E) (k := (se f E k)) hR hi51 hi52 hi53 hF hY hP (hEP) (hN) (hmj) (se_lt _ _ _)) (fun v40 M41 q42 => ?_)
                        obtain ⟨rfl, rfl⟩ := q42
                        show pl _ _ _ (251, [(0, .ref m0), (1, .int (nI k))], [.int (nI (tg f E (se f E k)))], M) _
                        have htg_248 := tg_lt f E (se f E k)
                        refine ps_st (S' := (253, [(0, .ref m0), (1, .int (nI k))], [.int 12, .int (nI (tg f E (se f E k)))], M)) rfl rfl rfl ?_
                        refine ps_if2 (S1 := (276, [], [], M)) (S2 := (256, [(0, .ref m0), (1, .int (nI k))], [], M)) rfl rfl rfl (fun c_253 => ?_) (fun c_253 => ?_)
                        · have c_253 : ¬ (nI (tg f E (se f E k))) = 12 := of_decide_eq_true c_253
                          have n_253 : ¬ (tg f E (se f E k) = 12) := fun h9 => c_253 ((eq_nI (p := tg f E (se f E k)) (n := 12) (Nat.lt_trans (tg_lt _ _ _) (by decide)) (by decide)).mpr h9)
                          refine ps_st (S' := (277, [], [.int 0], M)) rfl rfl rfl ?_
                          exact ps_ret rfl rfl (⟨congrArg (fun x => some (Value.int (nI x))) (show 0 = lnkN f E k from by
                              have e11 := pair_9 (f := f) (E := E) (k := se f E k)
                              have b3 := le1_pair f E (se f E k)
                              unfold lnkN
                              first | ((repeat first | rw [if_pos (by omega)] | rw [if_neg (by omega)]) <;> first | rfl | omega) | ((repeat' split) <;> first | rfl | (exfalso; omega) | omega)), rfl⟩)
                        · have c_253 : ¬ (¬ (nI (tg f E (se f E k))) = 12) := of_decide_eq_false c_253
                          have n_253 : tg f E (se f E k) = 12 := (eq_nI (p := tg f E (se f E k)) (n := 12) (Nat.lt_trans (tg_lt _ _ _) (by decide)) (by decide)).mp (Decidable.not_not.mp c_253)
                          refine ps_st (S' := (257, [(0, .ref m0), (1, .int (nI k))], [.ref m0], M)) rfl rfl rfl ?_
                          refine ps_st (S' := (258, [(0, .ref m0), (1, .int (nI k))], [.ref m0, .ref m0], M)) rfl rfl rfl ?_
                          refine ps_st (S' := (259, [(0, .ref m0), (1, .int (nI k))], [.int (nI k), .ref m0, .ref m0], M)) rfl rfl rfl ?_
                          refine ps_st (S' := (260, [(0, .ref m0), (1, .int (nI k))], [.int 3, .int (nI k), .ref m0, .ref m0], M)) rfl rfl rfl ?_
                          refine pl_call (a := [.ref m0, .int (nI k), .int 3]) (rest := [.ref m0]) rfl rfl rfl (rd_idx3 (n := n) (f := f) (tx := tx) (cN := cN) (A := A) (N := N) (mj := mj) (E := E) (k := k) hR hi51 hi52 hi53 hF hY hP (hEP) (hN) (hmj) (by omega)) (fun v43 M44 q45 => ?_)
                          obtain ⟨rfl, rfl⟩ := q45
                          show pl _ _ _ (263, [(0, .ref m0), (1, .int (nI k))], [.int (nI (se f E k)), .ref m0], M) _
                          have hix_260 := se_lt f E k
                          refine ps_st (S' := (265, [(0, .ref m0), (1, .int (nI k))], [.int 12, .int (nI (se f E k)), .ref m0], M)) rfl rfl rfl ?_
                          refine ps_st (S' := (266, [(0, .ref m0), (1, .int (nI k))], [.int 0, .int 12, .int (nI (se f E k)), .ref m0], M)) rfl rfl rfl ?_
                          refine pl_call (a := [.ref m0, .int (nI (se f E k)), .int 12, .int 0]) (rest := []) rfl rfl rfl (rd_ix12 (n := n) (f := f) (tx := tx) (cN := cN) (A := A) (N := N) (mj := mj) (E := E) (k := (se f E k)) hR hi51 hi52 hi53 hF hY hP (hEP) (hN) (hmj) (by omega)) (fun v46 M47 q48 => ?_)
                          obtain ⟨rfl, rfl⟩ := q48
                          show pl _ _ _ (269, [(0, .ref m0), (1, .int (nI k))], [.int (nI (pairN f E (se f E k)))], M) _
                          refine ps_if (S1 := (276, [], [], M)) (S2 := (272, [(0, .ref m0), (1, .int (nI k))], [], M)) rfl rfl rfl (fun c_269 => ?_) (fun c_269 => ?_)
                          · have c_269 : (nI (pairN f E (se f E k))) = 0 := of_decide_eq_true c_269
                            have n_269 : pairN f E (se f E k) = 0 := (eq_nI (p := pairN f E (se f E k)) (n := 0) (Nat.lt_trans (le1_pair _ _ _) (by decide)) (by decide)).mp c_269
                            refine ps_st (S' := (277, [], [.int 0], M)) rfl rfl rfl ?_
                            exact ps_ret rfl rfl (⟨congrArg (fun x => some (Value.int (nI x))) (show 0 = lnkN f E k from by
                                have e11 := pair_9 (f := f) (E := E) (k := se f E k)
                                have b3 := le1_pair f E (se f E k)
                                unfold lnkN
                                first | ((repeat first | rw [if_pos (by omega)] | rw [if_neg (by omega)]) <;> first | rfl | omega) | ((repeat' split) <;> first | rfl | (exfalso; omega) | omega)), rfl⟩)
                          · have c_269 : ¬ ((nI (pairN f E (se f E k))) = 0) := of_decide_eq_false c_269
                            have n_269 : ¬ (pairN f E (se f E k) = 0) := fun h9 => c_269 ((eq_nI (p := pairN f E (se f E k)) (n := 0) (Nat.lt_trans (le1_pair _ _ _) (by decide)) (by decide)).mpr h9)
                            refine ps_st (S' := (273, [(0, .ref m0), (1, .int (nI k))], [.int 1], M)) rfl rfl rfl ?_
                            refine ps_st (S' := (277, [], [.int 1], M)) rfl rfl rfl ?_
                            exact ps_ret rfl rfl (⟨congrArg (fun x => some (Value.int (nI x))) (show 1 = lnkN f E k from by
                                have e11 := pair_9 (f := f) (E := E) (k := se f E k)
                                have b3 := le1_pair f E (se f E k)
                                unfold lnkN
                                first | ((repeat first | rw [if_pos (by omega)] | rw [if_neg (by omega)]) <;> first | rfl | omega) | ((repeat' split) <;> first | rfl | (exfalso; omega) | omega)), rfl⟩)
                  · have c_173 : ¬ (¬ (nI t) = 15) := of_decide_eq_false c_173
                    have n_173 : t = 15 := (eq_nI (p := t) (n := 15) (by omega) (by decide)).mp (Decidable.not_not.mp c_173)
                    refine ps_st (S' := (177, [(0, .ref m0), (1, .int (nI k)), (2, .int (nI t))], [.ref m0], M)) rfl rfl rfl ?_
                    refine ps_st (S' := (178, [(0, .ref m0), (1, .int (nI k)), (2, .int (nI t))], [.ref m0, .ref m0], M)) rfl rfl rfl ?_
                    refine ps_st (S' := (179, [(0, .ref m0), (1, .int (nI k)), (2, .int (nI t))], [.int (nI k), .ref m0, .ref m0], M)) rfl rfl rfl ?_
                    refine ps_st (S' := (180, [(0, .ref m0), (1, .int (nI k)), (2, .int (nI t))], [.int 2, .int (nI k), .ref m0, .ref m0], M)) rfl rfl rfl ?_
                    refine pl_call (a := [.ref m0, .int (nI k), .int 2]) (rest := [.ref m0]) rfl rfl rfl (rd_idx2 (n := n) (f := f) (tx := tx) (cN := cN) (A := A) (N := N) (mj := mj) (E := E) (k := k) hR hi51 hi52 hi53 hF hY hP (hEP) (hN) (hmj) (by omega)) (fun v49 M50 q51 => ?_)
                    obtain ⟨rfl, rfl⟩ := q51
                    show pl _ _ _ (183, [(0, .ref m0), (1, .int (nI k)), (2, .int (nI t))], [.int (nI (se f E k)), .ref m0], M) _
                    have hix_180 := se_lt f E k
                    refine pl_call (a := [.ref m0, .int (nI (se f E k))]) (rest := []) rfl rfl rfl (rd_tag (n := n) (f := f) (tx := tx) (cN := cN) (A := A) (N := N) (mj := mj) (E := E) (k := (se f E k)) hR hi51 hi52 hi53 hF hY hP (hEP) (hN) (hmj) (se_lt _ _ _)) (fun v52 M53 q54 => ?_)
                    obtain ⟨rfl, rfl⟩ := q54
                    show pl _ _ _ (186, [(0, .ref m0), (1, .int (nI k)), (2, .int (nI t))], [.int (nI (tg f E (se f E k)))], M) _
                    have htg_183 := tg_lt f E (se f E k)
                    refine ps_st (S' := (188, [(4, .int (nI (tg f E (se f E k)))), (0, .ref m0), (1, .int (nI k)), (2, .int (nI t))], [], M)) rfl rfl rfl ?_
                    refine ps_st (S' := (190, [(4, .int (nI (tg f E (se f E k)))), (0, .ref m0), (1, .int (nI k)), (2, .int (nI t))], [.int (nI (tg f E (se f E k)))], M)) rfl rfl rfl ?_
                    refine ps_if (S1 := (227, [], [], M)) (S2 := (193, [(4, .int (nI (tg f E (se f E k)))), (0, .ref m0), (1, .int (nI k)), (2, .int (nI t))], [], M)) rfl rfl rfl (fun c_190 => ?_) (fun c_190 => ?_)
                    · have c_190 : (nI (tg f E (se f E k))) = 0 := of_decide_eq_true c_190
                      have n_190 : tg f E (se f E k) = 0 := (eq_nI (p := tg f E (se f E k)) (n := 0) (Nat.lt_trans (tg_lt _ _ _) (by decide)) (by decide)).mp c_190
                      refine ps_st (S' := (228, [], [.int 0], M)) rfl rfl rfl ?_
                      exact ps_ret rfl rfl (⟨congrArg (fun x => some (Value.int (nI x))) (show 0 = lnkN f E k from by
                          have e8 := ism_9 (f := f) (E := E) (k := se f E k)
                          have b4 := le1_mem f E (se f E k)
                          unfold lnkN
                          first | ((repeat first | rw [if_pos (by omega)] | rw [if_neg (by omega)]) <;> first | rfl | omega) | ((repeat' split) <;> first | rfl | (exfalso; omega) | omega)), rfl⟩)
                    · have c_190 : ¬ ((nI (tg f E (se f E k))) = 0) := of_decide_eq_false c_190
                      have n_190 : ¬ (tg f E (se f E k) = 0) := fun h9 => c_190 ((eq_nI (p := tg f E (se f E k)) (n := 0) (Nat.lt_trans (tg_lt _ _ _) (by decide)) (by decide)).mpr h9)
                      refine ps_st (S' := (195, [(4, .int (nI (tg f E (se f E k)))), (0, .ref m0), (1, .int (nI k)), (2, .int (nI t))], [.int (nI (tg f E (se f E k)))], M)) rfl rfl rfl ?_
                      refine ps_st (S' := (197, [(4, .int (nI (tg f E (se f E k)))), (0, .ref m0), (1, .int (nI k)), (2, .int (nI t))], [.int 9, .int (nI (tg f E (se f E k)))], M)) rfl rfl rfl ?_
                      refine ps_if2 (S1 := (223, [], [], M)) (S2 := (200, [(4, .int (nI (tg f E (se f E k)))), (0, .ref m0), (1, .int (nI k)), (2, .int (nI t))], [], M)) rfl rfl rfl (fun c_197 => ?_) (fun c_197 => ?_)
                      · have c_197 : (nI (tg f E (se f E k))) < 9 := of_decide_eq_true c_197
                        have n_197 : tg f E (se f E k) < 9 := (lt_nI (p := tg f E (se f E k)) (n := 9) (Nat.lt_trans (tg_lt _ _ _) (by decide)) (by decide)).mp c_197
                        refine ps_st (S' := (224, [], [.int 1], M)) rfl rfl rfl ?_
                        refine ps_st (S' := (228, [], [.int 1], M)) rfl rfl rfl ?_
                        exact ps_ret rfl rfl (⟨congrArg (fun x => some (Value.int (nI x))) (show 1 = lnkN f E k from by
                            have e8 := ism_9 (f := f) (E := E) (k := se f E k)
                            have b4 := le1_mem f E (se f E k)
                            unfold lnkN
                            first | ((repeat first | rw [if_pos (by omega)] | rw [if_neg (by omega)]) <;> first | rfl | omega) | ((repeat' split) <;> first | rfl | (exfalso; omega) | omega)), rfl⟩)
                      · have c_197 : ¬ ((nI (tg f E (se f E k))) < 9) := of_decide_eq_false c_197
                        have n_197 : ¬ (tg f E (se f E k) < 9) := fun h9 => c_197 ((lt_nI (p := tg f E (se f E k)) (n := 9) (Nat.lt_trans (tg_lt _ _ _) (by decide)) (by decide)).mpr h9)
                        refine ps_st (S' := (202, [(4, .int (nI (tg f E (se f E k)))), (0, .ref m0), (1, .int (nI k)), (2, .int (nI t))], [.int (nI (tg f E (se f E k)))], M)) rfl rfl rfl ?_
                        refine ps_st (S' := (204, [(4, .int (nI (tg f E (se f E k)))), (0, .ref m0), (1, .int (nI k)), (2, .int (nI t))], [.int 11, .int (nI (tg f E (se f E k)))], M)) rfl rfl rfl ?_
                        refine ps_if2 (S1 := (223, [], [], M)) (S2 := (207, [(4, .int (nI (tg f E (se f E k)))), (0, .ref m0), (1, .int (nI k)), (2, .int (nI t))], [], M)) rfl rfl rfl (fun c_204 => ?_) (fun c_204 => ?_)
                        · have c_204 : 11 < (nI (tg f E (se f E k))) := of_decide_eq_true c_204
                          have n_204 : 11 < tg f E (se f E k) := (lt_nI (p := 11) (n := tg f E (se f E k)) (by decide) (Nat.lt_trans (tg_lt _ _ _) (by decide))).mp c_204
                          refine ps_st (S' := (224, [], [.int 1], M)) rfl rfl rfl ?_
                          refine ps_st (S' := (228, [], [.int 1], M)) rfl rfl rfl ?_
                          exact ps_ret rfl rfl (⟨congrArg (fun x => some (Value.int (nI x))) (show 1 = lnkN f E k from by
                              have e8 := ism_9 (f := f) (E := E) (k := se f E k)
                              have b4 := le1_mem f E (se f E k)
                              unfold lnkN
                              first | ((repeat first | rw [if_pos (by omega)] | rw [if_neg (by omega)]) <;> first | rfl | omega) | ((repeat' split) <;> first | rfl | (exfalso; omega) | omega)), rfl⟩)
                        · have c_204 : ¬ (11 < (nI (tg f E (se f E k)))) := of_decide_eq_false c_204
                          have n_204 : ¬ (11 < tg f E (se f E k)) := fun h9 => c_204 ((lt_nI (p := 11) (n := tg f E (se f E k)) (by decide) (Nat.lt_trans (tg_lt _ _ _) (by decide))).mpr h9)
                          refine ps_st (S' := (208, [(4, .int (nI (tg f E (se f E k)))), (0, .ref m0), (1, .int (nI k)), (2, .int (nI t))], [.ref m0], M)) rfl rfl rfl ?_
                          refine ps_st (S' := (209, [(4, .int (nI (tg f E (se f E k)))), (0, .ref m0), (1, .int (nI k)), (2, .int (nI t))], [.ref m0, .ref m0], M)) rfl rfl rfl ?_
                          refine ps_st (S' := (210, [(4, .int (nI (tg f E (se f E k)))), (0, .ref m0), (1, .int (nI k)), (2, .int (nI t))], [.int (nI k), .ref m0, .ref m0], M)) rfl rfl rfl ?_
                          refine ps_st (S' := (211, [(4, .int (nI (tg f E (se f E k)))), (0, .ref m0), (1, .int (nI k)), (2, .int (nI t))], [.int 2, .int (nI k), .ref m0, .ref m0], M)) rfl rfl rfl ?_
                          refine pl_call (a := [.ref m0, .int (nI k), .int 2]) (rest := [.ref m0]) rfl rfl rfl (rd_idx2 (n := n) (f := f) (tx := tx) (cN := cN) (A := A) (N := N) (mj := mj) (E := E) (k := k) hR hi51 hi52 hi53 hF hY hP (hEP) (hN) (hmj) (by omega)) (fun v55 M56 q57 => ?_)
                          obtain ⟨rfl, rfl⟩ := q57
                          show pl _ _ _ (214, [(4, .int (nI (tg f E (se f E k)))), (0, .ref m0), (1, .int (nI k)), (2, .int (nI t))], [.int (nI (se f E k)), .ref m0], M) _
                          have hix_211 := se_lt f E k
                          refine ps_st (S' := (216, [(4, .int (nI (tg f E (se f E k)))), (0, .ref m0), (1, .int (nI k)), (2, .int (nI t))], [.int (nI (tg f E (se f E k))), .int (nI (se f E k)), .ref m0], M)) rfl rfl rfl ?_
                          refine ps_st (S' := (217, [(4, .int (nI (tg f E (se f E k)))), (0, .ref m0), (1, .int (nI k)), (2, .int (nI t))], [.int 0, .int (nI (tg f E (se f E k))), .int (nI (se f E k)), .ref m0], M)) rfl rfl rfl ?_
                          refine pl_call (a := [.ref m0, .int (nI (se f E k)), .int (nI (tg f E (se f E k))), .int 0]) (rest := []) rfl rfl rfl (rd_ixM (n := n) (f := f) (tx := tx) (cN := cN) (A := A) (N := N) (mj := mj) (E := E) (k := (se f E k)) (t := (tg f E (se f E k))) hR hi51 hi52 hi53 hF hY hP (hEP) (hN) (hmj) (rfl) (by omega)) (fun v58 M59 q60 => ?_)
                          obtain ⟨rfl, rfl⟩ := q60
                          show pl _ _ _ (220, [(4, .int (nI (tg f E (se f E k)))), (0, .ref m0), (1, .int (nI k)), (2, .int (nI t))], [.int (nI (memN f E (se f E k)))], M) _
                          refine ps_if (S1 := (227, [], [], M)) (S2 := (223, [], [], M)) rfl rfl rfl (fun c_220 => ?_) (fun c_220 => ?_)
                          · have c_220 : (nI (memN f E (se f E k))) = 0 := of_decide_eq_true c_220
                            have n_220 : memN f E (se f E k) = 0 := (eq_nI (p := memN f E (se f E k)) (n := 0) (Nat.lt_trans (le1_mem _ _ _) (by decide)) (by decide)).mp c_220
                            refine ps_st (S' := (228, [], [.int 0], M)) rfl rfl rfl ?_
                            exact ps_ret rfl rfl (⟨congrArg (fun x => some (Value.int (nI x))) (show 0 = lnkN f E k from by
                                have e8 := ism_9 (f := f) (E := E) (k := se f E k)
                                have b4 := le1_mem f E (se f E k)
                                unfold lnkN
                                first | ((repeat first | rw [if_pos (by omega)] | rw [if_neg (by omega)]) <;> first | rfl | omega) | ((repeat' split) <;> first | rfl | (exfalso; omega) | omega)), rfl⟩)
                          · have c_220 : ¬ ((nI (memN f E (se f E k))) = 0) := of_decide_eq_false c_220
                            have n_220 : ¬ (memN f E (se f E k) = 0) := fun h9 => c_220 ((eq_nI (p := memN f E (se f E k)) (n := 0) (Nat.lt_trans (le1_mem _ _ _) (by decide)) (by decide)).mpr h9)
                            refine ps_st (S' := (224, [], [.int 1], M)) rfl rfl rfl ?_
                            refine ps_st (S' := (228, [], [.int 1], M)) rfl rfl rfl ?_
                            exact ps_ret rfl rfl (⟨congrArg (fun x => some (Value.int (nI x))) (show 1 = lnkN f E k from by
                                have e8 := ism_9 (f := f) (E := E) (k := se f E k)
                                have b4 := le1_mem f E (se f E k)
                                unfold lnkN
                                first | ((repeat first | rw [if_pos (by omega)] | rw [if_neg (by omega)]) <;> first | rfl | omega) | ((repeat' split) <;> first | rfl | (exfalso; omega) | omega)), rfl⟩)
                · have c_133 : ¬ (¬ (nI t) = 12) := of_decide_eq_false c_133
                  have n_133 : t = 12 := (eq_nI (p := t) (n := 12) (by omega) (by decide)).mp (Decidable.not_not.mp c_133)
                  refine ps_st (S' := (137, [(0, .ref m0), (1, .int (nI k)), (2, .int (nI t))], [.ref m0], M)) rfl rfl rfl ?_
                  refine ps_st (S' := (138, [(0, .ref m0), (1, .int (nI k)), (2, .int (nI t))], [.ref m0, .ref m0], M)) rfl rfl rfl ?_
                  refine ps_st (S' := (139, [(0, .ref m0), (1, .int (nI k)), (2, .int (nI t))], [.int (nI k), .ref m0, .ref m0], M)) rfl rfl rfl ?_
                  refine ps_st (S' := (140, [(0, .ref m0), (1, .int (nI k)), (2, .int (nI t))], [.int 1, .int (nI k), .ref m0, .ref m0], M)) rfl rfl rfl ?_
                  refine pl_call (a := [.ref m0, .int (nI k), .int 1]) (rest := [.ref m0]) rfl rfl rfl (rd_idx1 (n := n) (f := f) (tx := tx) (cN := cN) (A := A) (N := N) (mj := mj) (E := E) (k := k) hR hi51 hi52 hi53 hF hY hP (hEP) (hN) (hmj) (by omega)) (fun v61 M62 q63 => ?_)
                  obtain ⟨rfl, rfl⟩ := q63
                  show pl _ _ _ (143, [(0, .ref m0), (1, .int (nI k)), (2, .int (nI t))], [.int (nI (fi f E k)), .ref m0], M) _
                  have hix_140 := fi_lt f E k
                  refine pl_call (a := [.ref m0, .int (nI (fi f E k))]) (rest := []) rfl rfl rfl (rd_tag (n := n) (f := f) (tx := tx) (cN := cN) (A := A) (N := N) (mj := mj) (E := E) (k := (fi f E k)) hR hi51 hi52 hi53 hF hY hP (hEP) (hN) (hmj) (fi_lt _ _ _)) (fun v64 M65 q66 => ?_)
                  obtain ⟨rfl, rfl⟩ := q66
                  show pl _ _ _ (146, [(0, .ref m0), (1, .int (nI k)), (2, .int (nI t))], [.int (nI (tg f E (fi f E k)))], M) _
                  have htg_143 := tg_lt f E (fi f E k)
                  refine ps_st (S' := (147, [(0, .ref m0), (1, .int (nI k)), (2, .int (nI t))], [.int 1, .int (nI (tg f E (fi f E k)))], M)) rfl rfl rfl ?_
                  refine ps_if2 (S1 := (168, [], [], M)) (S2 := (150, [(0, .ref m0), (1, .int (nI k)), (2, .int (nI t))], [], M)) rfl rfl rfl (fun c_147 => ?_) (fun c_147 => ?_)
                  · have c_147 : ¬ (nI (tg f E (fi f E k))) = 1 := of_decide_eq_true c_147
                    have n_147 : ¬ (tg f E (fi f E k) = 1) := fun h9 => c_147 ((eq_nI (p := tg f E (fi f E k)) (n := 1) (Nat.lt_trans (tg_lt _ _ _) (by decide)) (by decide)).mpr h9)
                    refine ps_st (S' := (169, [], [.int 0], M)) rfl rfl rfl ?_
                    exact ps_ret rfl rfl (⟨congrArg (fun x => some (Value.int (nI x))) (show 0 = lnkN f E k from by
                        have e9 := pair_9 (f := f) (E := E) (k := k)
                        have b1 := le1_pair f E k
                        unfold lnkN
                        first | ((repeat first | rw [if_pos (by omega)] | rw [if_neg (by omega)]) <;> first | rfl | omega) | ((repeat' split) <;> first | rfl | (exfalso; omega) | omega)), rfl⟩)
                  · have c_147 : ¬ (¬ (nI (tg f E (fi f E k))) = 1) := of_decide_eq_false c_147
                    have n_147 : tg f E (fi f E k) = 1 := (eq_nI (p := tg f E (fi f E k)) (n := 1) (Nat.lt_trans (tg_lt _ _ _) (by decide)) (by decide)).mp (Decidable.not_not.mp c_147)
                    refine ps_st (S' := (151, [(0, .ref m0), (1, .int (nI k)), (2, .int (nI t))], [.ref m0], M)) rfl rfl rfl ?_
                    refine ps_st (S' := (152, [(0, .ref m0), (1, .int (nI k)), (2, .int (nI t))], [.ref m0, .ref m0], M)) rfl rfl rfl ?_
                    refine ps_st (S' := (153, [(0, .ref m0), (1, .int (nI k)), (2, .int (nI t))], [.int (nI k), .ref m0, .ref m0], M)) rfl rfl rfl ?_
                    refine ps_st (S' := (154, [(0, .ref m0), (1, .int (nI k)), (2, .int (nI t))], [.int 3, .int (nI k), .ref m0, .ref m0], M)) rfl rfl rfl ?_
                    refine pl_call (a := [.ref m0, .int (nI k), .int 3]) (rest := [.ref m0]) rfl rfl rfl (rd_idx3 (n := n) (f := f) (tx := tx) (cN := cN) (A := A) (N := N) (mj := mj) (E := E) (k := k) hR hi51 hi52 hi53 hF hY hP (hEP) (hN) (hmj) (by omega)) (fun v67 M68 q69 => ?_)
                    obtain ⟨rfl, rfl⟩ := q69
                    show pl _ _ _ (157, [(0, .ref m0), (1, .int (nI k)), (2, .int (nI t))], [.int (nI (se f E k)), .ref m0], M) _
                    have hix_154 := se_lt f E k
                    refine pl_call (a := [.ref m0, .int (nI (se f E k))]) (rest := []) rfl rfl rfl (rd_tag (n := n) (f := f) (tx := tx) (cN := cN) (A := A) (N := N) (mj := mj) (E := E) (k := (se f E k)) hR hi51 hi52 hi53 hF hY hP (hEP) (hN) (hmj) (se_lt _ _ _)) (fun v70 M71 q72 => ?_)
                    obtain ⟨rfl, rfl⟩ := q72
                    show pl _ _ _ (160, [(0, .ref m0), (1, .int (nI k)), (2, .int (nI t))], [.int (nI (tg f E (se f E k)))], M) _
                    have htg_157 := tg_lt f E (se f E k)
                    refine ps_st (S' := (161, [(0, .ref m0), (1, .int (nI k)), (2, .int (nI t))], [.int 1, .int (nI (tg f E (se f E k)))], M)) rfl rfl rfl ?_
                    refine ps_if2 (S1 := (168, [], [], M)) (S2 := (164, [(0, .ref m0), (1, .int (nI k)), (2, .int (nI t))], [], M)) rfl rfl rfl (fun c_161 => ?_) (fun c_161 => ?_)
                    · have c_161 : ¬ (nI (tg f E (se f E k))) = 1 := of_decide_eq_true c_161
                      have n_161 : ¬ (tg f E (se f E k) = 1) := fun h9 => c_161 ((eq_nI (p := tg f E (se f E k)) (n := 1) (Nat.lt_trans (tg_lt _ _ _) (by decide)) (by decide)).mpr h9)
                      refine ps_st (S' := (169, [], [.int 0], M)) rfl rfl rfl ?_
                      exact ps_ret rfl rfl (⟨congrArg (fun x => some (Value.int (nI x))) (show 0 = lnkN f E k from by
                          have e9 := pair_9 (f := f) (E := E) (k := k)
                          have b1 := le1_pair f E k
                          unfold lnkN
                          first | ((repeat first | rw [if_pos (by omega)] | rw [if_neg (by omega)]) <;> first | rfl | omega) | ((repeat' split) <;> first | rfl | (exfalso; omega) | omega)), rfl⟩)
                    · have c_161 : ¬ (¬ (nI (tg f E (se f E k))) = 1) := of_decide_eq_false c_161
                      have n_161 : tg f E (se f E k) = 1 := (eq_nI (p := tg f E (se f E k)) (n := 1) (Nat.lt_trans (tg_lt _ _ _) (by decide)) (by decide)).mp (Decidable.not_not.mp c_161)
                      refine ps_st (S' := (165, [(0, .ref m0), (1, .int (nI k)), (2, .int (nI t))], [.int 1], M)) rfl rfl rfl ?_
                      refine ps_st (S' := (169, [], [.int 1], M)) rfl rfl rfl ?_
                      exact ps_ret rfl rfl (⟨congrArg (fun x => some (Value.int (nI x))) (show 1 = lnkN f E k from by
                          have e9 := pair_9 (f := f) (E := E) (k := k)
                          have b1 := le1_pair f E k
                          unfold lnkN
                          first | ((repeat first | rw [if_pos (by omega)] | rw [if_neg (by omega)]) <;> first | rfl | omega) | ((repeat' split) <;> first | rfl | (exfalso; omega) | omega)), rfl⟩)
              · have c_59 : ¬ (11 < (nI t)) := of_decide_eq_false c_59
                have n_59 : ¬ (11 < t) := fun h9 => c_59 ((lt_nI (p := 11) (n := t) (by decide) (by omega)).mpr h9)
                refine ps_st (S' := (63, [(0, .ref m0), (1, .int (nI k)), (2, .int (nI t)), (3, .int 1)], [.ref m0], M)) rfl rfl rfl ?_
                refine ps_st (S' := (64, [(0, .ref m0), (1, .int (nI k)), (2, .int (nI t)), (3, .int 1)], [.ref m0, .ref m0], M)) rfl rfl rfl ?_
                refine ps_st (S' := (65, [(0, .ref m0), (1, .int (nI k)), (2, .int (nI t)), (3, .int 1)], [.int (nI k), .ref m0, .ref m0], M)) rfl rfl rfl ?_
                refine ps_st (S' := (66, [(0, .ref m0), (1, .int (nI k)), (2, .int (nI t)), (3, .int 1)], [.int 1, .int (nI k), .ref m0, .ref m0], M)) rfl rfl rfl ?_
                refine pl_call (a := [.ref m0, .int (nI k), .int 1]) (rest := [.ref m0]) rfl rfl rfl (rd_idx1 (n := n) (f := f) (tx := tx) (cN := cN) (A := A) (N := N) (mj := mj) (E := E) (k := k) hR hi51 hi52 hi53 hF hY hP (hEP) (hN) (hmj) (by omega)) (fun v73 M74 q75 => ?_)
                obtain ⟨rfl, rfl⟩ := q75
                show pl _ _ _ (69, [(0, .ref m0), (1, .int (nI k)), (2, .int (nI t)), (3, .int 1)], [.int (nI (fi f E k)), .ref m0], M) _
                have hix_66 := fi_lt f E k
                refine pl_call (a := [.ref m0, .int (nI (fi f E k))]) (rest := []) rfl rfl rfl (rd_tag (n := n) (f := f) (tx := tx) (cN := cN) (A := A) (N := N) (mj := mj) (E := E) (k := (fi f E k)) hR hi51 hi52 hi53 hF hY hP (hEP) (hN) (hmj) (fi_lt _ _ _)) (fun v76 M77 q78 => ?_)
                obtain ⟨rfl, rfl⟩ := q78
                show pl _ _ _ (72, [(0, .ref m0), (1, .int (nI k)), (2, .int (nI t)), (3, .int 1)], [.int (nI (tg f E (fi f E k)))], M) _
                have htg_69 := tg_lt f E (fi f E k)
                refine ps_st (S' := (74, [(0, .ref m0), (1, .int (nI k)), (2, .int (nI t)), (3, .int 1)], [.int 7, .int (nI (tg f E (fi f E k)))], M)) rfl rfl rfl ?_
                refine ps_if2 (S1 := (128, [], [], M)) (S2 := (77, [(0, .ref m0), (1, .int (nI k)), (2, .int (nI t)), (3, .int 1)], [], M)) rfl rfl rfl (fun c_74 => ?_) (fun c_74 => ?_)
                · have c_74 : ¬ (nI (tg f E (fi f E k))) = 7 := of_decide_eq_true c_74
                  have n_74 : ¬ (tg f E (fi f E k) = 7) := fun h9 => c_74 ((eq_nI (p := tg f E (fi f E k)) (n := 7) (Nat.lt_trans (tg_lt _ _ _) (by decide)) (by decide)).mpr h9)
                  refine ps_st (S' := (129, [], [.int 0], M)) rfl rfl rfl ?_
                  exact ps_ret rfl rfl (⟨congrArg (fun x => some (Value.int (nI x))) (show 0 = lnkN f E k from by
                      have e7 := lnk_7 (f := f) (E := E) (k := fi f E k)
                      have e10 := mem_9 (f := f) (E := E) (k := k)
                      have e11 := pair_9 (f := f) (E := E) (k := se f E k)
                      have b2 := le1_mem f E k
                      unfold lnkN
                      first | ((repeat first | rw [if_pos (by omega)] | rw [if_neg (by omega)]) <;> first | rfl | omega) | ((repeat' split) <;> first | rfl | (exfalso; omega) | omega)), rfl⟩)
                · have c_74 : ¬ (¬ (nI (tg f E (fi f E k))) = 7) := of_decide_eq_false c_74
                  have n_74 : tg f E (fi f E k) = 7 := (eq_nI (p := tg f E (fi f E k)) (n := 7) (Nat.lt_trans (tg_lt _ _ _) (by decide)) (by decide)).mp (Decidable.not_not.mp c_74)
                  refine ps_st (S' := (78, [(0, .ref m0), (1, .int (nI k)), (2, .int (nI t)), (3, .int 1)], [.ref m0], M)) rfl rfl rfl ?_
                  refine ps_st (S' := (79, [(0, .ref m0), (1, .int (nI k)), (2, .int (nI t)), (3, .int 1)], [.ref m0, .ref m0], M)) rfl rfl rfl ?_
                  refine ps_st (S' := (80, [(0, .ref m0), (1, .int (nI k)), (2, .int (nI t)), (3, .int 1)], [.int (nI k), .ref m0, .ref m0], M)) rfl rfl rfl ?_
                  refine ps_st (S' := (81, [(0, .ref m0), (1, .int (nI k)), (2, .int (nI t)), (3, .int 1)], [.int 1, .int (nI k), .ref m0, .ref m0], M)) rfl rfl rfl ?_
                  refine pl_call (a := [.ref m0, .int (nI k), .int 1]) (rest := [.ref m0]) rfl rfl rfl (rd_idx1 (n := n) (f := f) (tx := tx) (cN := cN) (A := A) (N := N) (mj := mj) (E := E) (k := k) hR hi51 hi52 hi53 hF hY hP (hEP) (hN) (hmj) (by omega)) (fun v79 M80 q81 => ?_)
                  obtain ⟨rfl, rfl⟩ := q81
                  show pl _ _ _ (84, [(0, .ref m0), (1, .int (nI k)), (2, .int (nI t)), (3, .int 1)], [.int (nI (fi f E k)), .ref m0], M) _
                  have hix_81 := fi_lt f E k
                  refine ps_st (S' := (86, [(0, .ref m0), (1, .int (nI k)), (2, .int (nI t)), (3, .int 1)], [.int 7, .int (nI (fi f E k)), .ref m0], M)) rfl rfl rfl ?_
                  refine ps_st (S' := (87, [(0, .ref m0), (1, .int (nI k)), (2, .int (nI t)), (3, .int 1)], [.int 0, .int 7, .int (nI (fi f E k)), .ref m0], M)) rfl rfl rfl ?_
                  refine pl_call (a := [.ref m0, .int (nI (fi f E k)), .int 7, .int 0]) (rest := []) rfl rfl rfl (rd_ix7 (n := n) (f := f) (tx := tx) (cN := cN) (A := A) (N := N) (mj := mj) (E := E) (k := (fi f E k)) hR hi51 hi52 hi53 hF hY hP (hEP) (hN) (hmj) (by omega)) (fun v82 M83 q84 => ?_)
                  obtain ⟨rfl, rfl⟩ := q84
                  show pl _ _ _ (90, [(0, .ref m0), (1, .int (nI k)), (2, .int (nI t)), (3, .int 1)], [.int (nI (lnkN f E (fi f E k)))], M) _
                  refine ps_if (S1 := (128, [], [], M)) (S2 := (93, [(0, .ref m0), (1, .int (nI k)), (2, .int (nI t)), (3, .int 1)], [], M)) rfl rfl rfl (fun c_90 => ?_) (fun c_90 => ?_)
                  · have c_90 : (nI (lnkN f E (fi f E k))) = 0 := of_decide_eq_true c_90
                    have n_90 : lnkN f E (fi f E k) = 0 := (eq_nI (p := lnkN f E (fi f E k)) (n := 0) (Nat.lt_trans (le1_lnk _ _ _) (by decide)) (by decide)).mp c_90
                    refine ps_st (S' := (129, [], [.int 0], M)) rfl rfl rfl ?_
                    exact ps_ret rfl rfl (⟨congrArg (fun x => some (Value.int (nI x))) (show 0 = lnkN f E k from by
                        have e7 := lnk_7 (f := f) (E := E) (k := fi f E k)
                        have e10 := mem_9 (f := f) (E := E) (k := k)
                        have e11 := pair_9 (f := f) (E := E) (k := se f E k)
                        have b2 := le1_mem f E k
                        unfold lnkN
                        first | ((repeat first | rw [if_pos (by omega)] | rw [if_neg (by omega)]) <;> first | rfl | omega) | ((repeat' split) <;> first | rfl | (exfalso; omega) | omega)), rfl⟩)
                  · have c_90 : ¬ ((nI (lnkN f E (fi f E k))) = 0) := of_decide_eq_false c_90
                    have n_90 : ¬ (lnkN f E (fi f E k) = 0) := fun h9 => c_90 ((eq_nI (p := lnkN f E (fi f E k)) (n := 0) (Nat.lt_trans (le1_lnk _ _ _) (by decide)) (by decide)).mpr h9)
                    refine ps_st (S' := (94, [(0, .ref m0), (1, .int (nI k)), (2, .int (nI t)), (3, .int 1)], [.ref m0], M)) rfl rfl rfl ?_
                    refine ps_st (S' := (95, [(0, .ref m0), (1, .int (nI k)), (2, .int (nI t)), (3, .int 1)], [.ref m0, .ref m0], M)) rfl rfl rfl ?_
                    refine ps_st (S' := (96, [(0, .ref m0), (1, .int (nI k)), (2, .int (nI t)), (3, .int 1)], [.int (nI k), .ref m0, .ref m0], M)) rfl rfl rfl ?_
                    refine ps_st (S' := (97, [(0, .ref m0), (1, .int (nI k)), (2, .int (nI t)), (3, .int 1)], [.int 3, .int (nI k), .ref m0, .ref m0], M)) rfl rfl rfl ?_
                    refine pl_call (a := [.ref m0, .int (nI k), .int 3]) (rest := [.ref m0]) rfl rfl rfl (rd_idx3 (n := n) (f := f) (tx := tx) (cN := cN) (A := A) (N := N) (mj := mj) (E := E) (k := k) hR hi51 hi52 hi53 hF hY hP (hEP) (hN) (hmj) (by omega)) (fun v85 M86 q87 => ?_)
                    obtain ⟨rfl, rfl⟩ := q87
                    show pl _ _ _ (100, [(0, .ref m0), (1, .int (nI k)), (2, .int (nI t)), (3, .int 1)], [.int (nI (se f E k)), .ref m0], M) _
                    have hix_97 := se_lt f E k
                    refine pl_call (a := [.ref m0, .int (nI (se f E k))]) (rest := []) rfl rfl rfl (rd_tag (n := n) (f := f) (tx := tx) (cN := cN) (A := A) (N := N) (mj := mj) (E := E) (k := (se f E k)) hR hi51 hi52 hi53 hF hY hP (hEP) (hN) (hmj) (se_lt _ _ _)) (fun v88 M89 q90 => ?_)
                    obtain ⟨rfl, rfl⟩ := q90
                    show pl _ _ _ (103, [(0, .ref m0), (1, .int (nI k)), (2, .int (nI t)), (3, .int 1)], [.int (nI (tg f E (se f E k)))], M) _
                    have htg_100 := tg_lt f E (se f E k)
                    refine ps_st (S' := (105, [(0, .ref m0), (1, .int (nI k)), (2, .int (nI t)), (3, .int 1)], [.int 12, .int (nI (tg f E (se f E k)))], M)) rfl rfl rfl ?_
                    refine ps_if2 (S1 := (128, [], [], M)) (S2 := (108, [(0, .ref m0), (1, .int (nI k)), (2, .int (nI t)), (3, .int 1)], [], M)) rfl rfl rfl (fun c_105 => ?_) (fun c_105 => ?_)
                    · have c_105 : ¬ (nI (tg f E (se f E k))) = 12 := of_decide_eq_true c_105
                      have n_105 : ¬ (tg f E (se f E k) = 12) := fun h9 => c_105 ((eq_nI (p := tg f E (se f E k)) (n := 12) (Nat.lt_trans (tg_lt _ _ _) (by decide)) (by decide)).mpr h9)
                      refine ps_st (S' := (129, [], [.int 0], M)) rfl rfl rfl ?_
                      exact ps_ret rfl rfl (⟨congrArg (fun x => some (Value.int (nI x))) (show 0 = lnkN f E k from by
                          have e7 := lnk_7 (f := f) (E := E) (k := fi f E k)
                          have e10 := mem_9 (f := f) (E := E) (k := k)
                          have e11 := pair_9 (f := f) (E := E) (k := se f E k)
                          have b2 := le1_mem f E k
                          unfold lnkN
                          first | ((repeat first | rw [if_pos (by omega)] | rw [if_neg (by omega)]) <;> first | rfl | omega) | ((repeat' split) <;> first | rfl | (exfalso; omega) | omega)), rfl⟩)
                    · have c_105 : ¬ (¬ (nI (tg f E (se f E k))) = 12) := of_decide_eq_false c_105
                      have n_105 : tg f E (se f E k) = 12 := (eq_nI (p := tg f E (se f E k)) (n := 12) (Nat.lt_trans (tg_lt _ _ _) (by decide)) (by decide)).mp (Decidable.not_not.mp c_105)
                      refine ps_st (S' := (109, [(0, .ref m0), (1, .int (nI k)), (2, .int (nI t)), (3, .int 1)], [.ref m0], M)) rfl rfl rfl ?_
                      refine ps_st (S' := (110, [(0, .ref m0), (1, .int (nI k)), (2, .int (nI t)), (3, .int 1)], [.ref m0, .ref m0], M)) rfl rfl rfl ?_
                      refine ps_st (S' := (111, [(0, .ref m0), (1, .int (nI k)), (2, .int (nI t)), (3, .int 1)], [.int (nI k), .ref m0, .ref m0], M)) rfl rfl rfl ?_
                      refine ps_st (S' := (112, [(0, .ref m0), (1, .int (nI k)), (2, .int (nI t)), (3, .int 1)], [.int 3, .int (nI k), .ref m0, .ref m0], M)) rfl rfl rfl ?_
                      refine pl_call (a := [.ref m0, .int (nI k), .int 3]) (rest := [.ref m0]) rfl rfl rfl (rd_idx3 (n := n) (f := f) (tx := tx) (cN := cN) (A := A) (N := N) (mj := mj) (E := E) (k := k) hR hi51 hi52 hi53 hF hY hP (hEP) (hN) (hmj) (by omega)) (fun v91 M92 q93 => ?_)
                      obtain ⟨rfl, rfl⟩ := q93
                      show pl _ _ _ (115, [(0, .ref m0), (1, .int (nI k)), (2, .int (nI t)), (3, .int 1)], [.int (nI (se f E k)), .ref m0], M) _
                      have hix_112 := se_lt f E k
                      refine ps_st (S' := (117, [(0, .ref m0), (1, .int (nI k)), (2, .int (nI t)), (3, .int 1)], [.int 12, .int (nI (se f E k)), .ref m0], M)) rfl rfl rfl ?_
                      refine ps_st (S' := (118, [(0, .ref m0), (1, .int (nI k)), (2, .int (nI t)), (3, .int 1)], [.int 0, .int 12, .int (nI (se f E k)), .ref m0], M)) rfl rfl rfl ?_
                      refine pl_call (a := [.ref m0, .int (nI (se f E k)), .int 12, .int 0]) (rest := []) rfl rfl rfl (rd_ix12 (n := n) (f := f) (tx := tx) (cN := cN) (A := A) (N := N) (mj := mj) (E := E) (k := (se f E k)) hR hi51 hi52 hi53 hF hY hP (hEP) (hN) (hmj) (by omega)) (fun v94 M95 q96 => ?_)
                      obtain ⟨rfl, rfl⟩ := q96
                      show pl _ _ _ (121, [(0, .ref m0), (1, .int (nI k)), (2, .int (nI t)), (3, .int 1)], [.int (nI (pairN f E (se f E k)))], M) _
                      refine ps_if (S1 := (128, [], [], M)) (S2 := (124, [(0, .ref m0), (1, .int (nI k)), (2, .int (nI t)), (3, .int 1)], [], M)) rfl rfl rfl (fun c_121 => ?_) (fun c_121 => ?_)
                      · have c_121 : (nI (pairN f E (se f E k))) = 0 := of_decide_eq_true c_121
                        have n_121 : pairN f E (se f E k) = 0 := (eq_nI (p := pairN f E (se f E k)) (n := 0) (Nat.lt_trans (le1_pair _ _ _) (by decide)) (by decide)).mp c_121
                        refine ps_st (S' := (129, [], [.int 0], M)) rfl rfl rfl ?_
                        exact ps_ret rfl rfl (⟨congrArg (fun x => some (Value.int (nI x))) (show 0 = lnkN f E k from by
                            have e7 := lnk_7 (f := f) (E := E) (k := fi f E k)
                            have e10 := mem_9 (f := f) (E := E) (k := k)
                            have e11 := pair_9 (f := f) (E := E) (k := se f E k)
                            have b2 := le1_mem f E k
                            unfold lnkN
                            first | ((repeat first | rw [if_pos (by omega)] | rw [if_neg (by omega)]) <;> first | rfl | omega) | ((repeat' split) <;> first | rfl | (exfalso; omega) | omega)), rfl⟩)
                      · have c_121 : ¬ ((nI (pairN f E (se f E k))) = 0) := of_decide_eq_false c_121
                        have n_121 : ¬ (pairN f E (se f E k) = 0) := fun h9 => c_121 ((eq_nI (p := pairN f E (se f E k)) (n := 0) (Nat.lt_trans (le1_pair _ _ _) (by decide)) (by decide)).mpr h9)
                        refine ps_st (S' := (125, [(0, .ref m0), (1, .int (nI k)), (2, .int (nI t)), (3, .int 1)], [.int 1], M)) rfl rfl rfl ?_
                        refine ps_st (S' := (129, [], [.int 1], M)) rfl rfl rfl ?_
                        exact ps_ret rfl rfl (⟨congrArg (fun x => some (Value.int (nI x))) (show 1 = lnkN f E k from by
                            have e7 := lnk_7 (f := f) (E := E) (k := fi f E k)
                            have e10 := mem_9 (f := f) (E := E) (k := k)
                            have e11 := pair_9 (f := f) (E := E) (k := se f E k)
                            have b2 := le1_mem f E k
                            unfold lnkN
                            first | ((repeat first | rw [if_pos (by omega)] | rw [if_neg (by omega)]) <;> first | rfl | omega) | ((repeat' split) <;> first | rfl | (exfalso; omega) | omega)), rfl⟩)
          · have c_27 : ¬ (¬ (nI t) = 20) := of_decide_eq_false c_27
            have n_27 : t = 20 := (eq_nI (p := t) (n := 20) (by omega) (by decide)).mp (Decidable.not_not.mp c_27)
            refine ps_st (S' := (31, [(0, .ref m0), (1, .int (nI k))], [.ref m0], M)) rfl rfl rfl ?_
            refine ps_st (S' := (32, [(0, .ref m0), (1, .int (nI k))], [.ref m0, .ref m0], M)) rfl rfl rfl ?_
            refine ps_st (S' := (33, [(0, .ref m0), (1, .int (nI k))], [.int (nI k), .ref m0, .ref m0], M)) rfl rfl rfl ?_
            refine ps_st (S' := (34, [(0, .ref m0), (1, .int (nI k))], [.int 1, .int (nI k), .ref m0, .ref m0], M)) rfl rfl rfl ?_
            refine pl_call (a := [.ref m0, .int (nI k), .int 1]) (rest := [.ref m0]) rfl rfl rfl (rd_idx1 (n := n) (f := f) (tx := tx) (cN := cN) (A := A) (N := N) (mj := mj) (E := E) (k := k) hR hi51 hi52 hi53 hF hY hP (hEP) (hN) (hmj) (by omega)) (fun v97 M98 q99 => ?_)
            obtain ⟨rfl, rfl⟩ := q99
            show pl _ _ _ (37, [(0, .ref m0), (1, .int (nI k))], [.int (nI (fi f E k)), .ref m0], M) _
            have hix_34 := fi_lt f E k
            refine pl_call (a := [.ref m0, .int (nI (fi f E k))]) (rest := []) rfl rfl rfl (rd_tag (n := n) (f := f) (tx := tx) (cN := cN) (A := A) (N := N) (mj := mj) (E := E) (k := (fi f E k)) hR hi51 hi52 hi53 hF hY hP (hEP) (hN) (hmj) (fi_lt _ _ _)) (fun v100 M101 q102 => ?_)
            obtain ⟨rfl, rfl⟩ := q102
            show pl _ _ _ (40, [(0, .ref m0), (1, .int (nI k))], [.int (nI (tg f E (fi f E k)))], M) _
            have htg_37 := tg_lt f E (fi f E k)
            refine ps_st (S' := (41, [(0, .ref m0), (1, .int (nI k))], [.int 1, .int (nI (tg f E (fi f E k)))], M)) rfl rfl rfl ?_
            refine ps_if2 (S1 := (48, [(0, .ref m0), (1, .int (nI k))], [], M)) (S2 := (44, [(0, .ref m0), (1, .int (nI k))], [], M)) rfl rfl rfl (fun c_41 => ?_) (fun c_41 => ?_)
            · have c_41 : ¬ (nI (tg f E (fi f E k))) = 1 := of_decide_eq_true c_41
              have n_41 : ¬ (tg f E (fi f E k) = 1) := fun h9 => c_41 ((eq_nI (p := tg f E (fi f E k)) (n := 1) (Nat.lt_trans (tg_lt _ _ _) (by decide)) (by decide)).mpr h9)
              refine ps_st (S' := (49, [], [.int 0], M)) rfl rfl rfl ?_
              exact ps_ret rfl rfl (⟨congrArg (fun x => some (Value.int (nI x))) (show 0 = lnkN f E k from by
                  unfold lnkN
                  first | ((repeat first | rw [if_pos (by omega)] | rw [if_neg (by omega)]) <;> first | rfl | omega) | ((repeat' split) <;> first | rfl | (exfalso; omega) | omega)), rfl⟩)
            · have c_41 : ¬ (¬ (nI (tg f E (fi f E k))) = 1) := of_decide_eq_false c_41
              have n_41 : tg f E (fi f E k) = 1 := (eq_nI (p := tg f E (fi f E k)) (n := 1) (Nat.lt_trans (tg_lt _ _ _) (by decide)) (by decide)).mp (Decidable.not_not.mp c_41)
              refine ps_st (S' := (45, [(0, .ref m0), (1, .int (nI k))], [.int 1], M)) rfl rfl rfl ?_
              refine ps_st (S' := (49, [], [.int 1], M)) rfl rfl rfl ?_
              exact ps_ret rfl rfl (⟨congrArg (fun x => some (Value.int (nI x))) (show 1 = lnkN f E k from by
                  unfold lnkN
                  first | ((repeat first | rw [if_pos (by omega)] | rw [if_neg (by omega)]) <;> first | rfl | omega) | ((repeat' split) <;> first | rfl | (exfalso; omega) | omega)), rfl⟩)
end
