section
/-! all methods, with what they tell (laid by wip/p4/e40.py) -/
set_option maxHeartbeats 8000000 in
theorem rd_checkMethods7 {g : xe_G} {m0 : Nat} {q : Nat → Nat} {z : Nat × Nat} {I : rI} {R : rR} {M : mi_H} {n : Nat} {f : Nat → Int32} {tx : List (List Nat)} {cN : Nat} {A : Nat → Nat} {N mj : Nat} {E : List (Nat × Nat)} {pM f0 cf si sc : Nat} {B : List Nat} {E1 : Nat → Nat} (hR : RS g m0 q z I R M) (hi51 : I 51 = some 0) (hi52 : I 52 = some (nI N)) (hi53 : I 53 = some (nI mj)) (hi58 : I 58 = some (nI cf)) (hi56 : I 56 = some (nI pM)) (hi26 : I 26 = some (nI f0)) (hi9 : I 9 = some (nI si)) (hi10 : I 10 = some (nI sc)) (hF : FK n f I R) (hY : SYT tx cN A I R) (hP : RPV f n E tx N I R) (hK : KX I R) (hEP : EP f n E) (hN : N < 65536) (hmj : mj < 65536) (hMB : MBS f n B pM E1) (hf0 : f0 ≤ 8300) (hcf : cf < 65536) (hsi : si < tx.length ∧ tx.getD si [] = ltx 12) (hsc : sc < tx.length ∧ tx.getD sc [] = ltx 13) : pt (mT g) 191 [.ref m0] M (fun v M' => (∃  (I' : rI) (R' : rR), (mtS f n E cf mj B B.length 0 = none) ∧ v = some (.int 1) ∧ RS g m0 q z I' R' M' ∧ eqI [26, 47, 48] I I' ∧ eqR [34, 35, 36, 37, 38, 39, 40, 41, 42, 43, 44, 45, 46] R R' ∧ I' 26 = some (nI (f0 + B.length)) ∧ FN 35 36 f n E tx B f0 B.length I' R' ∧ MQX f n E B f0 B.length I' R') ∨ (∃ (e9 : Nat × Nat) (I' : rI) (R' : rR), (mtS f n E cf mj B B.length 0 = some e9) ∧ v = some (.int 0) ∧ RS g m0 q z I' R' M' ∧ eqI [26, 47, 48] I I' ∧ eqR [34, 35, 36, 37, 38, 39, 40, 41, 42, 43, 44, 45, 46] R R' ∧ I' 47 = some (nI e9.1) ∧ I' 48 = some (nI e9.2))) := by
  refine pt_in (b := mb_191 g) rfl (fun kf => ?_)
  show pl (mT g) kf (mb_191 g).2 (0, [(0, .ref m0)], [], M) _
  have hEI : eqI [26, 47, 48] I I := eqI.rf
  have hER : eqR [34, 35, 36, 37, 38, 39, 40, 41, 42, 43, 44, 45, 46] R R := eqR.rf
  have hn := hF.1
  have hBl := hMB.1
  have hp2 := hMB.2.1
  have hFN0 : FN 35 36 f n E tx B f0 0 I R := fun j hj => absurd hj (Nat.not_lt_zero _)
  have hFQ0 : MQX f n E B f0 0 I R := fun j hj => absurd hj (Nat.not_lt_zero _)
  have LL : ∀ (kf : Nat), (∀ (k p ib : Nat) (M1 : mi_H) (I1 : rI) (R1 : rR), (RS g m0 q z I1 R1 M1) → (eqI [26, 47, 48] I I1) → (eqR [34, 35, 36, 37, 38, 39, 40, 41, 42, 43, 44, 45, 46] R R1) → (I1 51 = some 0) → (I1 52 = some (nI N)) → (I1 53 = some (nI mj)) → (I1 58 = some (nI cf)) → (I1 56 = some (nI pM)) → (I1 26 = some (nI (f0 + k))) → (I1 9 = some (nI si)) → (I1 10 = some (nI sc)) → (FK n f I1 R1) → (SYT tx cN A I1 R1) → (RPV f n E tx N I1 R1) → (KX I1 R1) → (FN 35 36 f n E tx B f0 k I1 R1) → (MQX f n E B f0 k I1 R1) → (k ≤ by2 f pM) → (k < by2 f pM → p = B.getD k 0) → (p ≤ n) → (mtS f n E cf mj B (B.length - k) k = mtS f n E cf mj B B.length 0) → ((ib = 0 ∧ aN cf 512 = 0) ∨ (ib = 1 ∧ ¬ aN cf 512 = 0)) →  pl (mT g) kf (mb_191 g).2 (40, [(0, .ref m0), (1, .int (nI p)), (2, .int (nI (by2 f pM))), (3, .int (nI f0)), (4, .int (nI ib)), (5, .int (nI k))], [], M1) (fun v M' => (∃  (I' : rI) (R' : rR), (mtS f n E cf mj B B.length 0 = none) ∧ v = some (.int 1) ∧ RS g m0 q z I' R' M' ∧ eqI [26, 47, 48] I I' ∧ eqR [34, 35, 36, 37, 38, 39, 40, 41, 42, 43, 44, 45, 46] R R' ∧ I' 26 = some (nI (f0 + B.length)) ∧ FN 35 36 f n E tx B f0 B.length I' R' ∧ MQX f n E B f0 B.length I' R') ∨ (∃ (e9 : Nat × Nat) (I' : rI) (R' : rR), (mtS f n E cf mj B B.length 0 = some e9) ∧ v = some (.int 0) ∧ RS g m0 q z I' R' M' ∧ eqI [26, 47, 48] I I' ∧ eqR [34, 35, 36, 37, 38, 39, 40, 41, 42, 43, 44, 45, 46] R R' ∧ I' 47 = some (nI e9.1) ∧ I' 48 = some (nI e9.2)))) ∧ (∀ (k p ib a i9 i8 : Nat) (M1 : mi_H) (I1 : rI) (R1 : rR), (RS g m0 q z I1 R1 M1) → (eqI [26, 47, 48] I I1) → (eqR [34, 35, 36, 37, 38, 39, 40, 41, 42, 43, 44, 45, 46] R R1) → (I1 51 = some 0) → (I1 52 = some (nI N)) → (I1 53 = some (nI mj)) → (I1 58 = some (nI cf)) → (I1 56 = some (nI pM)) → (I1 26 = some (nI (f0 + k))) → (I1 9 = some (nI si)) → (I1 10 = some (nI sc)) → (FK n f I1 R1) → (SYT tx cN A I1 R1) → (RPV f n E tx N I1 R1) → (KX I1 R1) → (FN 35 36 f n E tx B f0 k I1 R1) → (MQX f n E B f0 k I1 R1) → (k < by2 f pM) → (p = B.getD k 0) → (p + 8 ≤ n) → (mtS f n E cf mj B (B.length - k) k = mtS f n E cf mj B B.length 0) → ((ib = 0 ∧ aN cf 512 = 0) ∨ (ib = 1 ∧ ¬ aN cf 512 = 0)) → (a < tx.length ∧ tx.getD a [] = tX f n E (by2 f (p + 2))) → (tg f E (by2 f (p + 2)) = 1) → (¬ mnmN f n E cf (by2 f (p + 2)) = 0) → (¬ mflN f n E cf mj (by2 f p) (by2 f (p + 2)) = 0) → ((i9 = 1 ∧ ¬ eqN (tX f n E (by2 f (p + 2))) (ltx 13) = 0) ∨ (i9 = 0 ∧ eqN (tX f n E (by2 f (p + 2))) (ltx 13) = 0)) → ((i8 = 1 ∧ ¬ eqN (tX f n E (by2 f (p + 2))) (ltx 12) = 0) ∨ (i8 = 0 ∧ eqN (tX f n E (by2 f (p + 2))) (ltx 12) = 0)) →  pl (mT g) kf (mb_191 g).2 (183, [(0, .ref m0), (1, .int (nI p)), (2, .int (nI (by2 f pM))), (3, .int (nI f0)), (4, .int (nI ib)), (5, .int (nI k)), (6, .int (nI (by2 f p))), (7, .int (nI a)), (8, .int (nI i8)), (9, .int (nI i9))], [], M1) (fun v M' => (∃  (I' : rI) (R' : rR), (mtS f n E cf mj B B.length 0 = none) ∧ v = some (.int 1) ∧ RS g m0 q z I' R' M' ∧ eqI [26, 47, 48] I I' ∧ eqR [34, 35, 36, 37, 38, 39, 40, 41, 42, 43, 44, 45, 46] R R' ∧ I' 26 = some (nI (f0 + B.length)) ∧ FN 35 36 f n E tx B f0 B.length I' R' ∧ MQX f n E B f0 B.length I' R') ∨ (∃ (e9 : Nat × Nat) (I' : rI) (R' : rR), (mtS f n E cf mj B B.length 0 = some e9) ∧ v = some (.int 0) ∧ RS g m0 q z I' R' M' ∧ eqI [26, 47, 48] I I' ∧ eqR [34, 35, 36, 37, 38, 39, 40, 41, 42, 43, 44, 45, 46] R R' ∧ I' 47 = some (nI e9.1) ∧ I' 48 = some (nI e9.2)))) ∧ (∀ (k p ib a i9 d : Nat) (M1 : mi_H) (I1 : rI) (R1 : rR), (RS g m0 q z I1 R1 M1) → (eqI [26, 47, 48] I I1) → (eqR [34, 35, 36, 37, 38, 39, 40, 41, 42, 43, 44, 45, 46] R R1) → (I1 51 = some 0) → (I1 52 = some (nI N)) → (I1 53 = some (nI mj)) → (I1 58 = some (nI cf)) → (I1 56 = some (nI pM)) → (I1 26 = some (nI (f0 + k))) → (I1 9 = some (nI si)) → (I1 10 = some (nI sc)) → (FK n f I1 R1) → (SYT tx cN A I1 R1) → (RPV f n E tx N I1 R1) → (KX I1 R1) → (FN 35 36 f n E tx B f0 k I1 R1) → (MQX f n E B f0 k I1 R1) → (k < by2 f pM) → (p = B.getD k 0) → (p + 8 ≤ n) → (mtS f n E cf mj B (B.length - k) k = mtS f n E cf mj B B.length 0) → ((ib = 0 ∧ aN cf 512 = 0) ∨ (ib = 1 ∧ ¬ aN cf 512 = 0)) → (a < tx.length ∧ tx.getD a [] = tX f n E (by2 f (p + 2))) → (tg f E (by2 f (p + 2)) = 1) → (¬ mnmN f n E cf (by2 f (p + 2)) = 0) → (¬ mflN f n E cf mj (by2 f p) (by2 f (p + 2)) = 0) → ((i9 = 1 ∧ ¬ eqN (tX f n E (by2 f (p + 2))) (ltx 13) = 0) ∨ (i9 = 0 ∧ eqN (tX f n E (by2 f (p + 2))) (ltx 13) = 0)) → (d < tx.length ∧ tx.getD d [] = tX f n E (by2 f (p + 4))) → (tg f E (by2 f (p + 4)) = 1) → (¬ mthN (tX f n E (by2 f (p + 4))) = 0) → (¬ mdsN f n E (by2 f (p + 2)) (by2 f (p + 4)) (apN f n E p) = 0) →  pl (mT g) kf (mb_191 g).2 (279, [(0, .ref m0), (1, .int (nI p)), (2, .int (nI (by2 f pM))), (3, .int (nI f0)), (4, .int (nI ib)), (5, .int (nI k)), (6, .int (nI (by2 f p))), (7, .int (nI a)), (9, .int (nI i9)), (10, .int (nI d))], [], M1) (fun v M' => (∃  (I' : rI) (R' : rR), (mtS f n E cf mj B B.length 0 = none) ∧ v = some (.int 1) ∧ RS g m0 q z I' R' M' ∧ eqI [26, 47, 48] I I' ∧ eqR [34, 35, 36, 37, 38, 39, 40, 41, 42, 43, 44, 45, 46] R R' ∧ I' 26 = some (nI (f0 + B.length)) ∧ FN 35 36 f n E tx B f0 B.length I' R' ∧ MQX f n E B f0 B.length I' R') ∨ (∃ (e9 : Nat × Nat) (I' : rI) (R' : rR), (mtS f n E cf mj B B.length 0 = some e9) ∧ v = some (.int 0) ∧ RS g m0 q z I' R' M' ∧ eqI [26, 47, 48] I I' ∧ eqR [34, 35, 36, 37, 38, 39, 40, 41, 42, 43, 44, 45, 46] R R' ∧ I' 47 = some (nI e9.1) ∧ I' 48 = some (nI e9.2)))) ∧ (∀ (k p ib a i9 d j : Nat) (M1 : mi_H) (I1 : rI) (R1 : rR), (RS g m0 q z I1 R1 M1) → (eqI [26, 47, 48] I I1) → (eqR [34, 35, 36, 37, 38, 39, 40, 41, 42, 43, 44, 45, 46] R R1) → (I1 51 = some 0) → (I1 52 = some (nI N)) → (I1 53 = some (nI mj)) → (I1 58 = some (nI cf)) → (I1 56 = some (nI pM)) → (I1 26 = some (nI (f0 + k))) → (I1 9 = some (nI si)) → (I1 10 = some (nI sc)) → (FK n f I1 R1) → (SYT tx cN A I1 R1) → (RPV f n E tx N I1 R1) → (KX I1 R1) → (FN 35 36 f n E tx B f0 k I1 R1) → (CE 34 (f0 + k) (nI (by2 f p)) I1 R1) → (CE 35 (f0 + k) (nI a) I1 R1) → (CE 36 (f0 + k) (nI d) I1 R1) → (CX 0 (f0 + k) I1 R1) → (MQX f n E B f0 k I1 R1) → (MWc f (f0 + k) (0, 0, 0) I1 R1) → (CE 45 (f0 + k) (nI (by2 f (p + 2))) I1 R1) → (CE 46 (f0 + k) (nI (by2 f (p + 4))) I1 R1) → (k < by2 f pM) → (p = B.getD k 0) → (p + 8 ≤ n) → (mtS f n E cf mj B (B.length - k) k = mtS f n E cf mj B B.length 0) → ((ib = 0 ∧ aN cf 512 = 0) ∨ (ib = 1 ∧ ¬ aN cf 512 = 0)) → (a < tx.length ∧ tx.getD a [] = tX f n E (by2 f (p + 2))) → (tg f E (by2 f (p + 2)) = 1) → (¬ mnmN f n E cf (by2 f (p + 2)) = 0) → (¬ mflN f n E cf mj (by2 f p) (by2 f (p + 2)) = 0) → ((i9 = 1 ∧ ¬ eqN (tX f n E (by2 f (p + 2))) (ltx 13) = 0) ∨ (i9 = 0 ∧ eqN (tX f n E (by2 f (p + 2))) (ltx 13) = 0)) → (d < tx.length ∧ tx.getD d [] = tX f n E (by2 f (p + 4))) → (tg f E (by2 f (p + 4)) = 1) → (¬ mthN (tX f n E (by2 f (p + 4))) = 0) → (¬ mdsN f n E (by2 f (p + 2)) (by2 f (p + 4)) (apN f n E p) = 0) → (j ≤ k) → (f0 + k < 8300) → (smeS f n E B (by2 f (p + 2)) (by2 f (p + 4)) (k - j) j = smeS f n E B (by2 f (p + 2)) (by2 f (p + 4)) k 0) →  pl (mT g) kf (mb_191 g).2 (399, [(0, .ref m0), (1, .int (nI p)), (2, .int (nI (by2 f pM))), (3, .int (nI f0)), (4, .int (nI ib)), (5, .int (nI k)), (6, .int (nI (by2 f p))), (7, .int (nI a)), (9, .int (nI i9)), (10, .int (nI d)), (11, .int (nI (f0 + k))), (12, .int (nI (f0 + j)))], [], M1) (fun v M' => (∃  (I' : rI) (R' : rR), (mtS f n E cf mj B B.length 0 = none) ∧ v = some (.int 1) ∧ RS g m0 q z I' R' M' ∧ eqI [26, 47, 48] I I' ∧ eqR [34, 35, 36, 37, 38, 39, 40, 41, 42, 43, 44, 45, 46] R R' ∧ I' 26 = some (nI (f0 + B.length)) ∧ FN 35 36 f n E tx B f0 B.length I' R' ∧ MQX f n E B f0 B.length I' R') ∨ (∃ (e9 : Nat × Nat) (I' : rI) (R' : rR), (mtS f n E cf mj B B.length 0 = some e9) ∧ v = some (.int 0) ∧ RS g m0 q z I' R' M' ∧ eqI [26, 47, 48] I I' ∧ eqR [34, 35, 36, 37, 38, 39, 40, 41, 42, 43, 44, 45, 46] R R' ∧ I' 47 = some (nI e9.1) ∧ I' 48 = some (nI e9.2)))) := by
    intro kf
    induction kf with
    | zero => exact ⟨by intros; exact pl_0, by intros; exact pl_0, by intros; exact pl_0, by intros; exact pl_0⟩
    | succ kf ih =>
      refine ⟨?_, ?_, ?_, ?_⟩
      · skip
        intro k p ib M1 I1 R1 hR1 hEI1 hER1 hl51 hl52 hl53 hl58 hl56 hl26 hl9 hl10 hF1 hY1 hP1 hK1 hN91 hQ1 hk hp hpn hs hib
        have hn := hF1.1
        have hu9 := by2_lt f pM
        have htl := hY1.1.2.2.1
        have hBl := hMB.1
        have hi7 := hsi.1
        have hc7 := hsc.1
        refine ps_st1 (S' := (42, [(0, .ref m0), (1, .int (nI p)), (2, .int (nI (by2 f pM))), (3, .int (nI f0)), (4, .int (nI ib)), (5, .int (nI k))], [.int (nI k)], M1)) rfl rfl rfl ?_
        refine ps_st (S' := (43, [(0, .ref m0), (1, .int (nI p)), (2, .int (nI (by2 f pM))), (3, .int (nI f0)), (4, .int (nI ib)), (5, .int (nI k))], [.int (nI (by2 f pM)), .int (nI k)], M1)) rfl rfl rfl ?_
        refine ps_if2 (S1 := (532, [(0, .ref m0), (1, .int (nI p)), (2, .int (nI (by2 f pM))), (3, .int (nI f0)), (4, .int (nI ib)), (5, .int (nI k))], [], M1)) (S2 := (46, [(0, .ref m0), (1, .int (nI p)), (2, .int (nI (by2 f pM))), (3, .int (nI f0)), (4, .int (nI ib)), (5, .int (nI k))], [], M1)) rfl rfl rfl (fun c_43 => ?_) (fun c_43 => ?_)
        · have c_43 : (nI (by2 f pM)) ≤ (nI k) := of_decide_eq_true c_43
          have n_43 : by2 f pM ≤ k := (le_nI (p := by2 f pM) (n := k) (Nat.lt_trans (by2_lt _ _) (by decide)) (by omega)).mp c_43
          refine ps_st (S' := (533, [(0, .ref m0), (1, .int (nI p)), (2, .int (nI (by2 f pM))), (3, .int (nI f0)), (4, .int (nI ib)), (5, .int (nI k))], [.int 1], M1)) rfl rfl rfl ?_
          exact ps_ret rfl rfl (Or.inl ⟨I1, R1, by
              rw [← hs, show B.length - k = 0 by omega]
              rfl, rfl, hR1, hEI1, hER1, by rw [show B.length = k by omega]; exact hl26, by rw [show B.length = k by omega]; exact hN91, by rw [show B.length = k by omega]; exact hQ1⟩)
        · have c_43 : ¬ ((nI (by2 f pM)) ≤ (nI k)) := of_decide_eq_false c_43
          have n_43 : ¬ (by2 f pM ≤ k) := fun h9 => c_43 ((le_nI (p := by2 f pM) (n := k) (Nat.lt_trans (by2_lt _ _) (by decide)) (by omega)).mpr h9)
          have hpk := hp (by omega)
          have hm8 := (hMB.2.2.2 k (by omega)).1
          have hm7 := (hMB.2.2.2 k (by omega)).2.1
          rw [← hpk] at hm8
          have hpe : p + 8 ≤ n := by omega
          have hu8 := by2_lt f p
          refine ps_st (S' := (47, [(0, .ref m0), (1, .int (nI p)), (2, .int (nI (by2 f pM))), (3, .int (nI f0)), (4, .int (nI ib)), (5, .int (nI k))], [.ref m0], M1)) rfl rfl rfl ?_
          refine ps_st (S' := (48, [(0, .ref m0), (1, .int (nI p)), (2, .int (nI (by2 f pM))), (3, .int (nI f0)), (4, .int (nI ib)), (5, .int (nI k))], [.int (nI p), .ref m0], M1)) rfl rfl rfl ?_
          refine pl_call (a := [.ref m0, .int (nI p)]) (rest := []) rfl rfl rfl (rd_u2 (n := n) (f := f) (p := p) hR1 hF1 (by omega)) (fun v1 M2 q3 => ?_)
          obtain ⟨rfl, rfl⟩ := q3
          show pl _ _ _ (51, [(0, .ref m0), (1, .int (nI p)), (2, .int (nI (by2 f pM))), (3, .int (nI f0)), (4, .int (nI ib)), (5, .int (nI k))], [.int (nI (by2 f p))], M1) _
          have hu_48 := by2_lt f p
          refine ps_st (S' := (53, [(6, .int (nI (by2 f p))), (0, .ref m0), (1, .int (nI p)), (2, .int (nI (by2 f pM))), (3, .int (nI f0)), (4, .int (nI ib)), (5, .int (nI k))], [], M1)) rfl rfl rfl ?_
          refine ps_st (S' := (54, [(6, .int (nI (by2 f p))), (0, .ref m0), (1, .int (nI p)), (2, .int (nI (by2 f pM))), (3, .int (nI f0)), (4, .int (nI ib)), (5, .int (nI k))], [.ref m0], M1)) rfl rfl rfl ?_
          refine ps_st (S' := (55, [(6, .int (nI (by2 f p))), (0, .ref m0), (1, .int (nI p)), (2, .int (nI (by2 f pM))), (3, .int (nI f0)), (4, .int (nI ib)), (5, .int (nI k))], [.ref m0, .ref m0], M1)) rfl rfl rfl ?_
          refine ps_st (S' := (56, [(6, .int (nI (by2 f p))), (0, .ref m0), (1, .int (nI p)), (2, .int (nI (by2 f pM))), (3, .int (nI f0)), (4, .int (nI ib)), (5, .int (nI k))], [.int (nI p), .ref m0, .ref m0], M1)) rfl rfl rfl ?_
          refine ps_st (S' := (57, [(6, .int (nI (by2 f p))), (0, .ref m0), (1, .int (nI p)), (2, .int (nI (by2 f pM))), (3, .int (nI f0)), (4, .int (nI ib)), (5, .int (nI k))], [.int 2, .int (nI p), .ref m0, .ref m0], M1)) rfl rfl rfl ?_
          refine ps_st (S' := (58, [(6, .int (nI (by2 f p))), (0, .ref m0), (1, .int (nI p)), (2, .int (nI (by2 f pM))), (3, .int (nI f0)), (4, .int (nI ib)), (5, .int (nI k))], [.int ((nI p) + 2), .ref m0, .ref m0], M1)) rfl rfl rfl ?_
          rw [nI_add1 (p := p) (k := 2) (x := 2) rfl (by omega)]
          show pl _ _ _ (_, [(6, .int (nI (by2 f p))), (0, .ref m0), (1, .int (nI p)), (2, .int (nI (by2 f pM))), (3, .int (nI f0)), (4, .int (nI ib)), (5, .int (nI k))], [.int (nI (p + 2)), .ref m0, .ref m0], M1) _
          refine pl_call (a := [.ref m0, .int (nI (p + 2))]) (rest := [.ref m0]) rfl rfl rfl (rd_u2 (n := n) (f := f) (p := (p + 2)) hR1 hF1 (by omega)) (fun v4 M5 q6 => ?_)
          obtain ⟨rfl, rfl⟩ := q6
          show pl _ _ _ (61, [(6, .int (nI (by2 f p))), (0, .ref m0), (1, .int (nI p)), (2, .int (nI (by2 f pM))), (3, .int (nI f0)), (4, .int (nI ib)), (5, .int (nI k))], [.int (nI (by2 f (p + 2))), .ref m0], M1) _
          have hu_58 := by2_lt f (p + 2)
          refine pl_call (a := [.ref m0, .int (nI (by2 f (p + 2)))]) (rest := []) rfl rfl rfl (rd_tag (n := n) (f := f) (tx := tx) (cN := cN) (A := A) (N := N) (mj := mj) (E := E) (k := (by2 f (p + 2))) hR1 hl51 hl52 hl53 hF1 hY1 hP1 (hEP) (hN) (hmj) (by2_lt _ _)) (fun v7 M8 q9 => ?_)
          obtain ⟨rfl, rfl⟩ := q9
          show pl _ _ _ (64, [(6, .int (nI (by2 f p))), (0, .ref m0), (1, .int (nI p)), (2, .int (nI (by2 f pM))), (3, .int (nI f0)), (4, .int (nI ib)), (5, .int (nI k))], [.int (nI (tg f E (by2 f (p + 2))))], M1) _
          have htg_61 := tg_lt f E (by2 f (p + 2))
          refine ps_st (S' := (65, [(6, .int (nI (by2 f p))), (0, .ref m0), (1, .int (nI p)), (2, .int (nI (by2 f pM))), (3, .int (nI f0)), (4, .int (nI ib)), (5, .int (nI k))], [.int 1, .int (nI (tg f E (by2 f (p + 2))))], M1)) rfl rfl rfl ?_
          refine ps_if2 (S1 := (82, [(6, .int (nI (by2 f p))), (0, .ref m0), (1, .int (nI p)), (2, .int (nI (by2 f pM))), (3, .int (nI f0)), (4, .int (nI ib)), (5, .int (nI k))], [], M1)) (S2 := (68, [(6, .int (nI (by2 f p))), (0, .ref m0), (1, .int (nI p)), (2, .int (nI (by2 f pM))), (3, .int (nI f0)), (4, .int (nI ib)), (5, .int (nI k))], [], M1)) rfl rfl rfl (fun c_65 => ?_) (fun c_65 => ?_)
          · have c_65 : ¬ (nI (tg f E (by2 f (p + 2)))) = 1 := of_decide_eq_true c_65
            have n_65 : ¬ (tg f E (by2 f (p + 2)) = 1) := fun h9 => c_65 ((eq_nI (p := tg f E (by2 f (p + 2))) (n := 1) (Nat.lt_trans (tg_lt _ _ _) (by decide)) (by decide)).mpr h9)
            refine ps_st (S' := (83, [(0, .ref m0), (1, .int (nI p)), (2, .int (nI (by2 f pM))), (3, .int (nI f0)), (4, .int (nI ib)), (5, .int (nI k)), (6, .int (nI (by2 f p)))], [.int (-1)], M1)) rfl rfl rfl ?_
            refine ps_st (S' := (85, [(7, .int (-1)), (0, .ref m0), (1, .int (nI p)), (2, .int (nI (by2 f pM))), (3, .int (nI f0)), (4, .int (nI ib)), (5, .int (nI k)), (6, .int (nI (by2 f p)))], [], M1)) rfl rfl rfl ?_
            refine ps_st (S' := (87, [(7, .int (-1)), (0, .ref m0), (1, .int (nI p)), (2, .int (nI (by2 f pM))), (3, .int (nI f0)), (4, .int (nI ib)), (5, .int (nI k)), (6, .int (nI (by2 f p)))], [.int (-1)], M1)) rfl rfl rfl ?_
            refine ps_st (S' := (88, [(7, .int (-1)), (0, .ref m0), (1, .int (nI p)), (2, .int (nI (by2 f pM))), (3, .int (nI f0)), (4, .int (nI ib)), (5, .int (nI k)), (6, .int (nI (by2 f p)))], [.ref m0, .int (-1)], M1)) rfl rfl rfl ?_
            refine pr_int (j := 9) (S' := (91, [(7, .int (-1)), (0, .ref m0), (1, .int (nI p)), (2, .int (nI (by2 f pM))), (3, .int (nI f0)), (4, .int (nI ib)), (5, .int (nI k)), (6, .int (nI (by2 f p)))], [.int (nI si), .int (-1)], M1)) rfl hR1 rfl hl9 rfl ?_
            refine ps_if2 (S1 := (98, [(7, .int (-1)), (0, .ref m0), (1, .int (nI p)), (2, .int (nI (by2 f pM))), (3, .int (nI f0)), (4, .int (nI ib)), (5, .int (nI k)), (6, .int (nI (by2 f p)))], [], M1)) (S2 := (94, [(7, .int (-1)), (0, .ref m0), (1, .int (nI p)), (2, .int (nI (by2 f pM))), (3, .int (nI f0)), (4, .int (nI ib)), (5, .int (nI k)), (6, .int (nI (by2 f p)))], [], M1)) rfl rfl rfl (fun c_91 => ?_) (fun c_91 => ?_)
            rotate_left
            · exact absurd (m1_ne (by omega)) (of_decide_eq_false c_91)
            refine ps_st (S' := (99, [(0, .ref m0), (1, .int (nI p)), (2, .int (nI (by2 f pM))), (3, .int (nI f0)), (4, .int (nI ib)), (5, .int (nI k)), (6, .int (nI (by2 f p))), (7, .int (-1))], [.int 0], M1)) rfl rfl rfl ?_
            refine ps_st (S' := (101, [(8, .int 0), (0, .ref m0), (1, .int (nI p)), (2, .int (nI (by2 f pM))), (3, .int (nI f0)), (4, .int (nI ib)), (5, .int (nI k)), (6, .int (nI (by2 f p))), (7, .int (-1))], [], M1)) rfl rfl rfl ?_
            refine ps_st (S' := (103, [(8, .int 0), (0, .ref m0), (1, .int (nI p)), (2, .int (nI (by2 f pM))), (3, .int (nI f0)), (4, .int (nI ib)), (5, .int (nI k)), (6, .int (nI (by2 f p))), (7, .int (-1))], [.int (-1)], M1)) rfl rfl rfl ?_
            refine ps_st (S' := (104, [(8, .int 0), (0, .ref m0), (1, .int (nI p)), (2, .int (nI (by2 f pM))), (3, .int (nI f0)), (4, .int (nI ib)), (5, .int (nI k)), (6, .int (nI (by2 f p))), (7, .int (-1))], [.ref m0, .int (-1)], M1)) rfl rfl rfl ?_
            refine pr_int (j := 10) (S' := (107, [(8, .int 0), (0, .ref m0), (1, .int (nI p)), (2, .int (nI (by2 f pM))), (3, .int (nI f0)), (4, .int (nI ib)), (5, .int (nI k)), (6, .int (nI (by2 f p))), (7, .int (-1))], [.int (nI sc), .int (-1)], M1)) rfl hR1 rfl hl10 rfl ?_
            refine ps_if2 (S1 := (114, [(8, .int 0), (0, .ref m0), (1, .int (nI p)), (2, .int (nI (by2 f pM))), (3, .int (nI f0)), (4, .int (nI ib)), (5, .int (nI k)), (6, .int (nI (by2 f p))), (7, .int (-1))], [], M1)) (S2 := (110, [(8, .int 0), (0, .ref m0), (1, .int (nI p)), (2, .int (nI (by2 f pM))), (3, .int (nI f0)), (4, .int (nI ib)), (5, .int (nI k)), (6, .int (nI (by2 f p))), (7, .int (-1))], [], M1)) rfl rfl rfl (fun c_107 => ?_) (fun c_107 => ?_)
            rotate_left
            · exact absurd (m1_ne (by omega)) (of_decide_eq_false c_107)
            refine ps_st (S' := (115, [(0, .ref m0), (1, .int (nI p)), (2, .int (nI (by2 f pM))), (3, .int (nI f0)), (4, .int (nI ib)), (5, .int (nI k)), (6, .int (nI (by2 f p))), (7, .int (-1)), (8, .int 0)], [.int 0], M1)) rfl rfl rfl ?_
            refine ps_st (S' := (117, [(9, .int 0), (0, .ref m0), (1, .int (nI p)), (2, .int (nI (by2 f pM))), (3, .int (nI f0)), (4, .int (nI ib)), (5, .int (nI k)), (6, .int (nI (by2 f p))), (7, .int (-1)), (8, .int 0)], [], M1)) rfl rfl rfl ?_
            refine ps_st (S' := (119, [(9, .int 0), (0, .ref m0), (1, .int (nI p)), (2, .int (nI (by2 f pM))), (3, .int (nI f0)), (4, .int (nI ib)), (5, .int (nI k)), (6, .int (nI (by2 f p))), (7, .int (-1)), (8, .int 0)], [.int (-1)], M1)) rfl rfl rfl ?_
            refine ps_if (S1 := (147, [(0, .ref m0), (1, .int (nI p))], [], M1)) (S2 := (122, [(9, .int 0), (0, .ref m0), (1, .int (nI p)), (2, .int (nI (by2 f pM))), (3, .int (nI f0)), (4, .int (nI ib)), (5, .int (nI k)), (6, .int (nI (by2 f p))), (7, .int (-1)), (8, .int 0)], [], M1)) rfl rfl rfl (fun c_119 => ?_) (fun c_119 => ?_)
            rotate_left
            · exact absurd (by decide) (of_decide_eq_false c_119)
            refine ps_st (S' := (148, [(0, .ref m0), (1, .int (nI p))], [.ref m0], M1)) rfl rfl rfl ?_
            refine ps_st (S' := (150, [(0, .ref m0), (1, .int (nI p))], [.int 24, .ref m0], M1)) rfl rfl rfl ?_
            refine ps_st (S' := (151, [(0, .ref m0), (1, .int (nI p))], [.int (nI p), .int 24, .ref m0], M1)) rfl rfl rfl ?_
            refine ps_st (S' := (152, [(0, .ref m0), (1, .int (nI p))], [.int 2, .int (nI p), .int 24, .ref m0], M1)) rfl rfl rfl ?_
            refine ps_st (S' := (153, [(0, .ref m0), (1, .int (nI p))], [.int ((nI p) + 2), .int 24, .ref m0], M1)) rfl rfl rfl ?_
            rw [nI_add1 (p := p) (k := 2) (x := 2) rfl (by omega)]
            show pl _ _ _ (_, [(0, .ref m0), (1, .int (nI p))], [.int (nI (p + 2)), .int 24, .ref m0], M1) _
            refine pl_call (a := [.ref m0, .int 24, .int (nI (p + 2))]) (rest := []) rfl rfl rfl (rd_wrong (x1 := 24) (x2 := (nI (p + 2))) hR1) (fun v10 M11 q12 => ?_)
            obtain ⟨I13, R14, rfl, hR15, hI16, hX17, hi18, hi19⟩ := q12
            have hi20 := (hI16 51 (by decide)).trans hl51
            have hi21 := (hI16 52 (by decide)).trans hl52
            have hi22 := (hI16 53 (by decide)).trans hl53
            have hi23 := (hI16 58 (by decide)).trans hl58
            have hi24 := (hI16 56 (by decide)).trans hl56
            have hi25 := (hI16 26 (by decide)).trans hl26
            have hi27 := (hI16 9 (by decide)).trans hl9
            have hi28 := (hI16 10 (by decide)).trans hl10
            have hF_29 := hF1.mono (cIx hI16 (by decide)) (cRx hX17 (by decide))
            have hY_30 := hY1.mono (cIx hI16 (by decide)) (cRx hX17 (by decide))
            have hP_31 := hP1.mono (cIx hI16 (by decide)) (cRx hX17 (by decide))
            have hK_32 := hK1.mono (cIx hI16 (by decide)) (cRx hX17 (by decide))
            have hN9_33 := hN91.mono (cIx hI16 (by decide)) (cRx hX17 (by decide))
            have hQ_34 := hQ1.mono (cIx hI16 (by decide)) (cRx hX17 (by decide))
            have hEI35 := hEI1.tr hI16 (by decide)
            have hER36 := hER1.tr hX17 (by decide)
            show pl _ _ _ (156, [(0, .ref m0), (1, .int (nI p))], [.int 0], M11) _
            exact ps_ret rfl rfl (Or.inr ⟨(24, p + 2), I13, R14, by
                rw [← hs, mtS_st (i := k) (by omega), ← hpk, mh_24 (mnm_no (by omega))], rfl, hR15, hEI35, hER36, hi18, hi19⟩)
          · have c_65 : ¬ (¬ (nI (tg f E (by2 f (p + 2)))) = 1) := of_decide_eq_false c_65
            have n_65 : tg f E (by2 f (p + 2)) = 1 := (eq_nI (p := tg f E (by2 f (p + 2))) (n := 1) (Nat.lt_trans (tg_lt _ _ _) (by decide)) (by decide)).mp (Decidable.not_not.mp c_65)
            refine ps_st (S' := (69, [(6, .int (nI (by2 f p))), (0, .ref m0), (1, .int (nI p)), (2, .int (nI (by2 f pM))), (3, .int (nI f0)), (4, .int (nI ib)), (5, .int (nI k))], [.ref m0], M1)) rfl rfl rfl ?_
            refine ps_st (S' := (70, [(6, .int (nI (by2 f p))), (0, .ref m0), (1, .int (nI p)), (2, .int (nI (by2 f pM))), (3, .int (nI f0)), (4, .int (nI ib)), (5, .int (nI k))], [.ref m0, .ref m0], M1)) rfl rfl rfl ?_
            refine ps_st (S' := (71, [(6, .int (nI (by2 f p))), (0, .ref m0), (1, .int (nI p)), (2, .int (nI (by2 f pM))), (3, .int (nI f0)), (4, .int (nI ib)), (5, .int (nI k))], [.int (nI p), .ref m0, .ref m0], M1)) rfl rfl rfl ?_
            refine ps_st (S' := (72, [(6, .int (nI (by2 f p))), (0, .ref m0), (1, .int (nI p)), (2, .int (nI (by2 f pM))), (3, .int (nI f0)), (4, .int (nI ib)), (5, .int (nI k))], [.int 2, .int (nI p), .ref m0, .ref m0], M1)) rfl rfl rfl ?_
            refine ps_st (S' := (73, [(6, .int (nI (by2 f p))), (0, .ref m0), (1, .int (nI p)), (2, .int (nI (by2 f pM))), (3, .int (nI f0)), (4, .int (nI ib)), (5, .int (nI k))], [.int ((nI p) + 2), .ref m0, .ref m0], M1)) rfl rfl rfl ?_
            rw [nI_add1 (p := p) (k := 2) (x := 2) rfl (by omega)]
            show pl _ _ _ (_, [(6, .int (nI (by2 f p))), (0, .ref m0), (1, .int (nI p)), (2, .int (nI (by2 f pM))), (3, .int (nI f0)), (4, .int (nI ib)), (5, .int (nI k))], [.int (nI (p + 2)), .ref m0, .ref m0], M1) _
            refine pl_call (a := [.ref m0, .int (nI (p + 2))]) (rest := [.ref m0]) rfl rfl rfl (rd_u2 (n := n) (f := f) (p := (p + 2)) hR1 hF1 (by omega)) (fun v37 M38 q39 => ?_)
            obtain ⟨rfl, rfl⟩ := q39
            show pl _ _ _ (76, [(6, .int (nI (by2 f p))), (0, .ref m0), (1, .int (nI p)), (2, .int (nI (by2 f pM))), (3, .int (nI f0)), (4, .int (nI ib)), (5, .int (nI k))], [.int (nI (by2 f (p + 2))), .ref m0], M1) _
            have hu_73 := by2_lt f (p + 2)
            refine pl_call (a := [.ref m0, .int (nI (by2 f (p + 2)))]) (rest := []) rfl rfl rfl (rd_symOf (n := n) (f := f) (tx := tx) (cN := cN) (A := A) (N := N) (mj := mj) (E := E) (k := (by2 f (p + 2))) hR1 hl51 hl52 hl53 hF1 hY1 hP1 (hEP) (hN) (hmj) (by omega)) (fun v40 M41 q42 => ?_)
            obtain ⟨s43, q76_s, rfl, rfl⟩ := q42
            show pl _ _ _ (79, [(6, .int (nI (by2 f p))), (0, .ref m0), (1, .int (nI p)), (2, .int (nI (by2 f pM))), (3, .int (nI f0)), (4, .int (nI ib)), (5, .int (nI k))], [.int (nI s43)], M1) _
            have hsl_76 := q76_s.1
            have htl_76 := hY1.1.2.2.1
            refine ps_st (S' := (83, [(0, .ref m0), (1, .int (nI p)), (2, .int (nI (by2 f pM))), (3, .int (nI f0)), (4, .int (nI ib)), (5, .int (nI k)), (6, .int (nI (by2 f p)))], [.int (nI s43)], M1)) rfl rfl rfl ?_
            refine ps_st (S' := (85, [(7, .int (nI s43)), (0, .ref m0), (1, .int (nI p)), (2, .int (nI (by2 f pM))), (3, .int (nI f0)), (4, .int (nI ib)), (5, .int (nI k)), (6, .int (nI (by2 f p)))], [], M1)) rfl rfl rfl ?_
            have he1 := sym_eq hY1 q76_s hsi
            have he2 := sym_eq hY1 q76_s hsc
            have hic := ic_no (l := tX f n E (by2 f (p + 2)))
            have hiu := ic_unq (l := tX f n E (by2 f (p + 2)))
            refine ps_st (S' := (87, [(7, .int (nI s43)), (0, .ref m0), (1, .int (nI p)), (2, .int (nI (by2 f pM))), (3, .int (nI f0)), (4, .int (nI ib)), (5, .int (nI k)), (6, .int (nI (by2 f p)))], [.int (nI s43)], M1)) rfl rfl rfl ?_
            refine ps_st (S' := (88, [(7, .int (nI s43)), (0, .ref m0), (1, .int (nI p)), (2, .int (nI (by2 f pM))), (3, .int (nI f0)), (4, .int (nI ib)), (5, .int (nI k)), (6, .int (nI (by2 f p)))], [.ref m0, .int (nI s43)], M1)) rfl rfl rfl ?_
            refine pr_int (j := 9) (S' := (91, [(7, .int (nI s43)), (0, .ref m0), (1, .int (nI p)), (2, .int (nI (by2 f pM))), (3, .int (nI f0)), (4, .int (nI ib)), (5, .int (nI k)), (6, .int (nI (by2 f p)))], [.int (nI si), .int (nI s43)], M1)) rfl hR1 rfl hl9 rfl ?_
            refine ps_if2 (S1 := (98, [(7, .int (nI s43)), (0, .ref m0), (1, .int (nI p)), (2, .int (nI (by2 f pM))), (3, .int (nI f0)), (4, .int (nI ib)), (5, .int (nI k)), (6, .int (nI (by2 f p)))], [], M1)) (S2 := (94, [(7, .int (nI s43)), (0, .ref m0), (1, .int (nI p)), (2, .int (nI (by2 f pM))), (3, .int (nI f0)), (4, .int (nI ib)), (5, .int (nI k)), (6, .int (nI (by2 f p)))], [], M1)) rfl rfl rfl (fun c_91 => ?_) (fun c_91 => ?_)
            · have c_91 : ¬ (nI s43) = (nI si) := of_decide_eq_true c_91
              have n_91 : ¬ (s43 = si) := fun h9 => c_91 ((eq_nI (p := s43) (n := si) (by omega) (by omega)).mpr h9)
              refine ps_st (S' := (99, [(0, .ref m0), (1, .int (nI p)), (2, .int (nI (by2 f pM))), (3, .int (nI f0)), (4, .int (nI ib)), (5, .int (nI k)), (6, .int (nI (by2 f p))), (7, .int (nI s43))], [.int 0], M1)) rfl rfl rfl ?_
              refine ps_st (S' := (101, [(8, .int 0), (0, .ref m0), (1, .int (nI p)), (2, .int (nI (by2 f pM))), (3, .int (nI f0)), (4, .int (nI ib)), (5, .int (nI k)), (6, .int (nI (by2 f p))), (7, .int (nI s43))], [], M1)) rfl rfl rfl ?_
              refine ps_st (S' := (103, [(8, .int 0), (0, .ref m0), (1, .int (nI p)), (2, .int (nI (by2 f pM))), (3, .int (nI f0)), (4, .int (nI ib)), (5, .int (nI k)), (6, .int (nI (by2 f p))), (7, .int (nI s43))], [.int (nI s43)], M1)) rfl rfl rfl ?_
              refine ps_st (S' := (104, [(8, .int 0), (0, .ref m0), (1, .int (nI p)), (2, .int (nI (by2 f pM))), (3, .int (nI f0)), (4, .int (nI ib)), (5, .int (nI k)), (6, .int (nI (by2 f p))), (7, .int (nI s43))], [.ref m0, .int (nI s43)], M1)) rfl rfl rfl ?_
              refine pr_int (j := 10) (S' := (107, [(8, .int 0), (0, .ref m0), (1, .int (nI p)), (2, .int (nI (by2 f pM))), (3, .int (nI f0)), (4, .int (nI ib)), (5, .int (nI k)), (6, .int (nI (by2 f p))), (7, .int (nI s43))], [.int (nI sc), .int (nI s43)], M1)) rfl hR1 rfl hl10 rfl ?_
              refine ps_if2 (S1 := (114, [(8, .int 0), (0, .ref m0), (1, .int (nI p)), (2, .int (nI (by2 f pM))), (3, .int (nI f0)), (4, .int (nI ib)), (5, .int (nI k)), (6, .int (nI (by2 f p))), (7, .int (nI s43))], [], M1)) (S2 := (110, [(8, .int 0), (0, .ref m0), (1, .int (nI p)), (2, .int (nI (by2 f pM))), (3, .int (nI f0)), (4, .int (nI ib)), (5, .int (nI k)), (6, .int (nI (by2 f p))), (7, .int (nI s43))], [], M1)) rfl rfl rfl (fun c_107 => ?_) (fun c_107 => ?_)
              · have c_107 : ¬ (nI s43) = (nI sc) := of_decide_eq_true c_107
                have n_107 : ¬ (s43 = sc) := fun h9 => c_107 ((eq_nI (p := s43) (n := sc) (by omega) (by omega)).mpr h9)
                refine ps_st (S' := (115, [(0, .ref m0), (1, .int (nI p)), (2, .int (nI (by2 f pM))), (3, .int (nI f0)), (4, .int (nI ib)), (5, .int (nI k)), (6, .int (nI (by2 f p))), (7, .int (nI s43)), (8, .int 0)], [.int 0], M1)) rfl rfl rfl ?_
                refine ps_st (S' := (117, [(9, .int 0), (0, .ref m0), (1, .int (nI p)), (2, .int (nI (by2 f pM))), (3, .int (nI f0)), (4, .int (nI ib)), (5, .int (nI k)), (6, .int (nI (by2 f p))), (7, .int (nI s43)), (8, .int 0)], [], M1)) rfl rfl rfl ?_
                refine ps_st (S' := (119, [(9, .int 0), (0, .ref m0), (1, .int (nI p)), (2, .int (nI (by2 f pM))), (3, .int (nI f0)), (4, .int (nI ib)), (5, .int (nI k)), (6, .int (nI (by2 f p))), (7, .int (nI s43)), (8, .int 0)], [.int (nI s43)], M1)) rfl rfl rfl ?_
                refine ps_if (S1 := (147, [(0, .ref m0), (1, .int (nI p))], [], M1)) (S2 := (122, [(9, .int 0), (0, .ref m0), (1, .int (nI p)), (2, .int (nI (by2 f pM))), (3, .int (nI f0)), (4, .int (nI ib)), (5, .int (nI k)), (6, .int (nI (by2 f p))), (7, .int (nI s43)), (8, .int 0)], [], M1)) rfl rfl rfl (fun c_119 => ?_) (fun c_119 => ?_)
                · exact absurd (of_decide_eq_true c_119) (show ¬ ((nI s43) < 0) from fun h9 => absurd ((lt_nI (p := s43) (n := 0) (by omega) (by decide)).mp h9) (by omega))
                refine ps_st (S' := (124, [(9, .int 0), (0, .ref m0), (1, .int (nI p)), (2, .int (nI (by2 f pM))), (3, .int (nI f0)), (4, .int (nI ib)), (5, .int (nI k)), (6, .int (nI (by2 f p))), (7, .int (nI s43)), (8, .int 0)], [.int 0], M1)) rfl rfl rfl ?_
                refine ps_if (S1 := (157, [(0, .ref m0), (1, .int (nI p)), (2, .int (nI (by2 f pM))), (3, .int (nI f0)), (4, .int (nI ib)), (5, .int (nI k)), (6, .int (nI (by2 f p))), (7, .int (nI s43)), (8, .int 0), (9, .int 0)], [], M1)) (S2 := (127, [(9, .int 0), (0, .ref m0), (1, .int (nI p)), (2, .int (nI (by2 f pM))), (3, .int (nI f0)), (4, .int (nI ib)), (5, .int (nI k)), (6, .int (nI (by2 f p))), (7, .int (nI s43)), (8, .int 0)], [], M1)) rfl rfl rfl (fun c_124 => ?_) (fun c_124 => ?_)
                · exact absurd (of_decide_eq_true c_124) (by decide)
                refine ps_st (S' := (129, [(9, .int 0), (0, .ref m0), (1, .int (nI p)), (2, .int (nI (by2 f pM))), (3, .int (nI f0)), (4, .int (nI ib)), (5, .int (nI k)), (6, .int (nI (by2 f p))), (7, .int (nI s43)), (8, .int 0)], [.int 0], M1)) rfl rfl rfl ?_
                refine ps_if (S1 := (137, [(0, .ref m0), (1, .int (nI p)), (2, .int (nI (by2 f pM))), (3, .int (nI f0)), (4, .int (nI ib)), (5, .int (nI k)), (6, .int (nI (by2 f p))), (7, .int (nI s43)), (8, .int 0), (9, .int 0)], [], M1)) (S2 := (132, [(9, .int 0), (0, .ref m0), (1, .int (nI p)), (2, .int (nI (by2 f pM))), (3, .int (nI f0)), (4, .int (nI ib)), (5, .int (nI k)), (6, .int (nI (by2 f p))), (7, .int (nI s43)), (8, .int 0)], [], M1)) rfl rfl rfl (fun c_129 => ?_) (fun c_129 => ?_)
                rotate_left
                · exact absurd (by decide) (of_decide_eq_false c_129)
                refine ps_st (S' := (138, [(0, .ref m0), (1, .int (nI p)), (2, .int (nI (by2 f pM))), (3, .int (nI f0)), (4, .int (nI ib)), (5, .int (nI k)), (6, .int (nI (by2 f p))), (7, .int (nI s43)), (8, .int 0), (9, .int 0)], [.ref m0], M1)) rfl rfl rfl ?_
                refine ps_st (S' := (140, [(0, .ref m0), (1, .int (nI p)), (2, .int (nI (by2 f pM))), (3, .int (nI f0)), (4, .int (nI ib)), (5, .int (nI k)), (6, .int (nI (by2 f p))), (7, .int (nI s43)), (8, .int 0), (9, .int 0)], [.int (nI s43), .ref m0], M1)) rfl rfl rfl ?_
                refine ps_st (S' := (141, [(0, .ref m0), (1, .int (nI p)), (2, .int (nI (by2 f pM))), (3, .int (nI f0)), (4, .int (nI ib)), (5, .int (nI k)), (6, .int (nI (by2 f p))), (7, .int (nI s43)), (8, .int 0), (9, .int 0)], [.int 0, .int (nI s43), .ref m0], M1)) rfl rfl rfl ?_
                refine pl_call (a := [.ref m0, .int (nI s43), .int 0]) (rest := []) rfl rfl rfl (rd_unq0 (tx := tx) (cN := cN) (A := A) (s := s43) (l := (tX f n E (by2 f (p + 2)))) hR1 hY1 (q76_s)) (fun v44 M45 q46 => ?_)
                obtain ⟨rfl, rfl⟩ := q46
                show pl _ _ _ (144, [(0, .ref m0), (1, .int (nI p)), (2, .int (nI (by2 f pM))), (3, .int (nI f0)), (4, .int (nI ib)), (5, .int (nI k)), (6, .int (nI (by2 f p))), (7, .int (nI s43)), (8, .int 0), (9, .int 0)], [.int (nI (unq0 (tX f n E (by2 f (p + 2)))))], M1) _
                refine ps_if (S1 := (157, [(0, .ref m0), (1, .int (nI p)), (2, .int (nI (by2 f pM))), (3, .int (nI f0)), (4, .int (nI ib)), (5, .int (nI k)), (6, .int (nI (by2 f p))), (7, .int (nI s43)), (8, .int 0), (9, .int 0)], [], M1)) (S2 := (147, [(0, .ref m0), (1, .int (nI p))], [], M1)) rfl rfl rfl (fun c_144 => ?_) (fun c_144 => ?_)
                · have c_144 : ¬ (nI (unq0 (tX f n E (by2 f (p + 2))))) = 0 := of_decide_eq_true c_144
                  have n_144 : ¬ (unq0 (tX f n E (by2 f (p + 2))) = 0) := fun h9 => c_144 ((eq_nI (p := unq0 (tX f n E (by2 f (p + 2)))) (n := 0) (Nat.lt_trans (le1_unq0 _) (by decide)) (by decide)).mpr h9)
                  refine ps_st (S' := (159, [(0, .ref m0), (1, .int (nI p)), (2, .int (nI (by2 f pM))), (3, .int (nI f0)), (4, .int (nI ib)), (5, .int (nI k)), (6, .int (nI (by2 f p))), (7, .int (nI s43)), (8, .int 0), (9, .int 0)], [.int 0], M1)) rfl rfl rfl ?_
                  refine ps_if (S1 := (183, [(0, .ref m0), (1, .int (nI p)), (2, .int (nI (by2 f pM))), (3, .int (nI f0)), (4, .int (nI ib)), (5, .int (nI k)), (6, .int (nI (by2 f p))), (7, .int (nI s43)), (8, .int 0), (9, .int 0)], [], M1)) (S2 := (162, [(0, .ref m0), (1, .int (nI p)), (2, .int (nI (by2 f pM))), (3, .int (nI f0)), (4, .int (nI ib)), (5, .int (nI k)), (6, .int (nI (by2 f p))), (7, .int (nI s43)), (8, .int 0), (9, .int 0)], [], M1)) rfl rfl rfl (fun c_159 => ?_) (fun c_159 => ?_)
                  · exact absurd (of_decide_eq_true c_159) (by decide)
                  refine ps_st (S' := (163, [(0, .ref m0), (1, .int (nI p)), (2, .int (nI (by2 f pM))), (3, .int (nI f0)), (4, .int (nI ib)), (5, .int (nI k)), (6, .int (nI (by2 f p))), (7, .int (nI s43)), (8, .int 0), (9, .int 0)], [.ref m0], M1)) rfl rfl rfl ?_
                  refine ps_st (S' := (165, [(0, .ref m0), (1, .int (nI p)), (2, .int (nI (by2 f pM))), (3, .int (nI f0)), (4, .int (nI ib)), (5, .int (nI k)), (6, .int (nI (by2 f p))), (7, .int (nI s43)), (8, .int 0), (9, .int 0)], [.int (nI (by2 f p)), .ref m0], M1)) rfl rfl rfl ?_
                  refine ps_st (S' := (167, [(0, .ref m0), (1, .int (nI p)), (2, .int (nI (by2 f pM))), (3, .int (nI f0)), (4, .int (nI ib)), (5, .int (nI k)), (6, .int (nI (by2 f p))), (7, .int (nI s43)), (8, .int 0), (9, .int 0)], [.int 0, .int (nI (by2 f p)), .ref m0], M1)) rfl rfl rfl ?_
                  refine ps_st (S' := (169, [(0, .ref m0), (1, .int (nI p)), (2, .int (nI (by2 f pM))), (3, .int (nI f0)), (4, .int (nI ib)), (5, .int (nI k)), (6, .int (nI (by2 f p))), (7, .int (nI s43)), (8, .int 0), (9, .int 0)], [.int (nI ib), .int 0, .int (nI (by2 f p)), .ref m0], M1)) rfl rfl rfl ?_
                  refine pl_call (a := [.ref m0, .int (nI (by2 f p)), .int 0, .int (nI ib)]) (rest := []) rfl rfl rfl (rd_fitX (mj := mj) (x := (by2 f p)) (c := cf) (i := 0) (ib := ib) hR1 hl53 (hmj) (hu8) (by decide) (hib)) (fun v47 M48 q49 => ?_)
                  obtain ⟨rfl, rfl⟩ := q49
                  show pl _ _ _ (172, [(0, .ref m0), (1, .int (nI p)), (2, .int (nI (by2 f pM))), (3, .int (nI f0)), (4, .int (nI ib)), (5, .int (nI k)), (6, .int (nI (by2 f p))), (7, .int (nI s43)), (8, .int 0), (9, .int 0)], [.int (nI (fitN mj cf (by2 f p) 0))], M1) _
                  have hft := le1_fit mj cf (by2 f p) 0
                  refine ps_if (S1 := (183, [(0, .ref m0), (1, .int (nI p)), (2, .int (nI (by2 f pM))), (3, .int (nI f0)), (4, .int (nI ib)), (5, .int (nI k)), (6, .int (nI (by2 f p))), (7, .int (nI s43)), (8, .int 0), (9, .int 0)], [], M1)) (S2 := (175, [(0, .ref m0), (1, .int (nI p)), (2, .int (nI (by2 f pM))), (3, .int (nI f0)), (4, .int (nI ib)), (5, .int (nI k)), (6, .int (nI (by2 f p))), (7, .int (nI s43)), (8, .int 0), (9, .int 0)], [], M1)) rfl rfl rfl (fun c_172 => ?_) (fun c_172 => ?_)
                  · have c_172 : ¬ (nI (fitN mj cf (by2 f p) 0)) = 0 := of_decide_eq_true c_172
                    have n_172 : ¬ (fitN mj cf (by2 f p) 0 = 0) := fun h9 => c_172 ((eq_nI (p := fitN mj cf (by2 f p) 0) (n := 0) (Nat.lt_trans (le1_fit _ _ _ _) (by decide)) (by decide)).mpr h9)
                    have hnm : ¬ mnmN f n E cf (by2 f (p + 2)) = 0 := by
                      have m0_ := mnm_0 (f := f) (n := n) (E := E) (c := cf) (x := by2 f (p + 2))
                      have u0_ := uq0 (l := tX f n E (by2 f (p + 2)))
                      omega
                    have hfl : ¬ mflN f n E cf mj (by2 f p) (by2 f (p + 2)) = 0 := by
                      rw [mfl_n (by omega) (by omega)]
                      omega
                    exact ih.2.1 (k) (p) (ib) (s43) (0) (0) M1 I1 R1 hR1 hEI1 hER1 hl51 hl52 hl53 hl58 hl56 hl26 hl9 hl10 hF1 hY1 hP1 hK1 hN91 hQ1 (by omega) (hpk) (hpe) (hs) (hib) (q76_s) (by omega) (hnm) (hfl) (by omega) (by omega)
                  · have c_172 : ¬ (¬ (nI (fitN mj cf (by2 f p) 0)) = 0) := of_decide_eq_false c_172
                    have n_172 : fitN mj cf (by2 f p) 0 = 0 := (eq_nI (p := fitN mj cf (by2 f p) 0) (n := 0) (Nat.lt_trans (le1_fit _ _ _ _) (by decide)) (by decide)).mp (Decidable.not_not.mp c_172)
                    refine ps_st (S' := (176, [(0, .ref m0), (1, .int (nI p)), (2, .int (nI (by2 f pM))), (3, .int (nI f0)), (4, .int (nI ib)), (5, .int (nI k)), (6, .int (nI (by2 f p))), (7, .int (nI s43)), (8, .int 0), (9, .int 0)], [.ref m0], M1)) rfl rfl rfl ?_
                    refine ps_st (S' := (178, [(0, .ref m0), (1, .int (nI p)), (2, .int (nI (by2 f pM))), (3, .int (nI f0)), (4, .int (nI ib)), (5, .int (nI k)), (6, .int (nI (by2 f p))), (7, .int (nI s43)), (8, .int 0), (9, .int 0)], [.int 23, .ref m0], M1)) rfl rfl rfl ?_
                    refine ps_st (S' := (179, [(0, .ref m0), (1, .int (nI p)), (2, .int (nI (by2 f pM))), (3, .int (nI f0)), (4, .int (nI ib)), (5, .int (nI k)), (6, .int (nI (by2 f p))), (7, .int (nI s43)), (8, .int 0), (9, .int 0)], [.int (nI p), .int 23, .ref m0], M1)) rfl rfl rfl ?_
                    refine pl_call (a := [.ref m0, .int 23, .int (nI p)]) (rest := []) rfl rfl rfl (rd_wrong (x1 := 23) (x2 := (nI p)) hR1) (fun v50 M51 q52 => ?_)
                    obtain ⟨I53, R54, rfl, hR55, hI56, hX57, hi59, hi60⟩ := q52
                    have hi61 := (hI56 51 (by decide)).trans hl51
                    have hi62 := (hI56 52 (by decide)).trans hl52
                    have hi63 := (hI56 53 (by decide)).trans hl53
                    have hi64 := (hI56 58 (by decide)).trans hl58
                    have hi65 := (hI56 56 (by decide)).trans hl56
                    have hi66 := (hI56 26 (by decide)).trans hl26
                    have hi67 := (hI56 9 (by decide)).trans hl9
                    have hi68 := (hI56 10 (by decide)).trans hl10
                    have hF_69 := hF1.mono (cIx hI56 (by decide)) (cRx hX57 (by decide))
                    have hY_70 := hY1.mono (cIx hI56 (by decide)) (cRx hX57 (by decide))
                    have hP_71 := hP1.mono (cIx hI56 (by decide)) (cRx hX57 (by decide))
                    have hK_72 := hK1.mono (cIx hI56 (by decide)) (cRx hX57 (by decide))
                    have hN9_73 := hN91.mono (cIx hI56 (by decide)) (cRx hX57 (by decide))
                    have hQ_74 := hQ1.mono (cIx hI56 (by decide)) (cRx hX57 (by decide))
                    have hEI75 := hEI1.tr hI56 (by decide)
                    have hER76 := hER1.tr hX57 (by decide)
                    show pl _ _ _ (182, [(0, .ref m0), (1, .int (nI p)), (2, .int (nI (by2 f pM))), (3, .int (nI f0)), (4, .int (nI ib)), (5, .int (nI k)), (6, .int (nI (by2 f p))), (7, .int (nI s43)), (8, .int 0), (9, .int 0)], [.int 0], M51) _
                    exact ps_ret rfl rfl (Or.inr ⟨(23, p), I53, R54, by
                        have m0_ := mnm_0 (f := f) (n := n) (E := E) (c := cf) (x := by2 f (p + 2))
                        have u0_ := uq0 (l := tX f n E (by2 f (p + 2)))
                        rw [← hs, mtS_st (i := k) (by omega), ← hpk, mh_23 (by omega) (by rw [mfl_n (by omega) (by omega)]; omega)], rfl, hR55, hEI75, hER76, hi59, hi60⟩)
                · have c_144 : ¬ (¬ (nI (unq0 (tX f n E (by2 f (p + 2))))) = 0) := of_decide_eq_false c_144
                  have n_144 : unq0 (tX f n E (by2 f (p + 2))) = 0 := (eq_nI (p := unq0 (tX f n E (by2 f (p + 2)))) (n := 0) (Nat.lt_trans (le1_unq0 _) (by decide)) (by decide)).mp (Decidable.not_not.mp c_144)
                  refine ps_st (S' := (148, [(0, .ref m0), (1, .int (nI p))], [.ref m0], M1)) rfl rfl rfl ?_
                  refine ps_st (S' := (150, [(0, .ref m0), (1, .int (nI p))], [.int 24, .ref m0], M1)) rfl rfl rfl ?_
                  refine ps_st (S' := (151, [(0, .ref m0), (1, .int (nI p))], [.int (nI p), .int 24, .ref m0], M1)) rfl rfl rfl ?_
                  refine ps_st (S' := (152, [(0, .ref m0), (1, .int (nI p))], [.int 2, .int (nI p), .int 24, .ref m0], M1)) rfl rfl rfl ?_
                  refine ps_st (S' := (153, [(0, .ref m0), (1, .int (nI p))], [.int ((nI p) + 2), .int 24, .ref m0], M1)) rfl rfl rfl ?_
                  rw [nI_add1 (p := p) (k := 2) (x := 2) rfl (by omega)]
                  show pl _ _ _ (_, [(0, .ref m0), (1, .int (nI p))], [.int (nI (p + 2)), .int 24, .ref m0], M1) _
                  refine pl_call (a := [.ref m0, .int 24, .int (nI (p + 2))]) (rest := []) rfl rfl rfl (rd_wrong (x1 := 24) (x2 := (nI (p + 2))) hR1) (fun v77 M78 q79 => ?_)
                  obtain ⟨I80, R81, rfl, hR82, hI83, hX84, hi85, hi86⟩ := q79
                  have hi87 := (hI83 51 (by decide)).trans hl51
                  have hi88 := (hI83 52 (by decide)).trans hl52
                  have hi89 := (hI83 53 (by decide)).trans hl53
                  have hi90 := (hI83 58 (by decide)).trans hl58
                  have hi91 := (hI83 56 (by decide)).trans hl56
                  have hi92 := (hI83 26 (by decide)).trans hl26
                  have hi93 := (hI83 9 (by decide)).trans hl9
                  have hi94 := (hI83 10 (by decide)).trans hl10
                  have hF_95 := hF1.mono (cIx hI83 (by decide)) (cRx hX84 (by decide))
                  have hY_96 := hY1.mono (cIx hI83 (by decide)) (cRx hX84 (by decide))
                  have hP_97 := hP1.mono (cIx hI83 (by decide)) (cRx hX84 (by decide))
                  have hK_98 := hK1.mono (cIx hI83 (by decide)) (cRx hX84 (by decide))
                  have hN9_99 := hN91.mono (cIx hI83 (by decide)) (cRx hX84 (by decide))
                  have hQ_100 := hQ1.mono (cIx hI83 (by decide)) (cRx hX84 (by decide))
                  have hEI101 := hEI1.tr hI83 (by decide)
                  have hER102 := hER1.tr hX84 (by decide)
                  show pl _ _ _ (156, [(0, .ref m0), (1, .int (nI p))], [.int 0], M78) _
                  exact ps_ret rfl rfl (Or.inr ⟨(24, p + 2), I80, R81, by
                      rw [← hs, mtS_st (i := k) (by omega), ← hpk, mh_24 (by have m0_ := mnm_0 (f := f) (n := n) (E := E) (c := cf) (x := by2 f (p + 2)); have u0_ := uq0 (l := tX f n E (by2 f (p + 2))); omega)], rfl, hR82, hEI101, hER102, hi85, hi86⟩)
              · have c_107 : ¬ (¬ (nI s43) = (nI sc)) := of_decide_eq_false c_107
                have n_107 : s43 = sc := (eq_nI (p := s43) (n := sc) (by omega) (by omega)).mp (Decidable.not_not.mp c_107)
                refine ps_st (S' := (111, [(8, .int 0), (0, .ref m0), (1, .int (nI p)), (2, .int (nI (by2 f pM))), (3, .int (nI f0)), (4, .int (nI ib)), (5, .int (nI k)), (6, .int (nI (by2 f p))), (7, .int (nI s43))], [.int 1], M1)) rfl rfl rfl ?_
                refine ps_st (S' := (115, [(0, .ref m0), (1, .int (nI p)), (2, .int (nI (by2 f pM))), (3, .int (nI f0)), (4, .int (nI ib)), (5, .int (nI k)), (6, .int (nI (by2 f p))), (7, .int (nI s43)), (8, .int 0)], [.int 1], M1)) rfl rfl rfl ?_
                refine ps_st (S' := (117, [(9, .int 1), (0, .ref m0), (1, .int (nI p)), (2, .int (nI (by2 f pM))), (3, .int (nI f0)), (4, .int (nI ib)), (5, .int (nI k)), (6, .int (nI (by2 f p))), (7, .int (nI s43)), (8, .int 0)], [], M1)) rfl rfl rfl ?_
                refine ps_st (S' := (119, [(9, .int 1), (0, .ref m0), (1, .int (nI p)), (2, .int (nI (by2 f pM))), (3, .int (nI f0)), (4, .int (nI ib)), (5, .int (nI k)), (6, .int (nI (by2 f p))), (7, .int (nI s43)), (8, .int 0)], [.int (nI s43)], M1)) rfl rfl rfl ?_
                refine ps_if (S1 := (147, [(0, .ref m0), (1, .int (nI p))], [], M1)) (S2 := (122, [(9, .int 1), (0, .ref m0), (1, .int (nI p)), (2, .int (nI (by2 f pM))), (3, .int (nI f0)), (4, .int (nI ib)), (5, .int (nI k)), (6, .int (nI (by2 f p))), (7, .int (nI s43)), (8, .int 0)], [], M1)) rfl rfl rfl (fun c_119 => ?_) (fun c_119 => ?_)
                · exact absurd (of_decide_eq_true c_119) (show ¬ ((nI s43) < 0) from fun h9 => absurd ((lt_nI (p := s43) (n := 0) (by omega) (by decide)).mp h9) (by omega))
                refine ps_st (S' := (124, [(9, .int 1), (0, .ref m0), (1, .int (nI p)), (2, .int (nI (by2 f pM))), (3, .int (nI f0)), (4, .int (nI ib)), (5, .int (nI k)), (6, .int (nI (by2 f p))), (7, .int (nI s43)), (8, .int 0)], [.int 1], M1)) rfl rfl rfl ?_
                refine ps_if (S1 := (157, [(0, .ref m0), (1, .int (nI p)), (2, .int (nI (by2 f pM))), (3, .int (nI f0)), (4, .int (nI ib)), (5, .int (nI k)), (6, .int (nI (by2 f p))), (7, .int (nI s43)), (8, .int 0), (9, .int 1)], [], M1)) (S2 := (127, [(9, .int 1), (0, .ref m0), (1, .int (nI p)), (2, .int (nI (by2 f pM))), (3, .int (nI f0)), (4, .int (nI ib)), (5, .int (nI k)), (6, .int (nI (by2 f p))), (7, .int (nI s43)), (8, .int 0)], [], M1)) rfl rfl rfl (fun c_124 => ?_) (fun c_124 => ?_)
                rotate_left
                · exact absurd (by decide) (of_decide_eq_false c_124)
                refine ps_st (S' := (159, [(0, .ref m0), (1, .int (nI p)), (2, .int (nI (by2 f pM))), (3, .int (nI f0)), (4, .int (nI ib)), (5, .int (nI k)), (6, .int (nI (by2 f p))), (7, .int (nI s43)), (8, .int 0), (9, .int 1)], [.int 1], M1)) rfl rfl rfl ?_
                refine ps_if (S1 := (183, [(0, .ref m0), (1, .int (nI p)), (2, .int (nI (by2 f pM))), (3, .int (nI f0)), (4, .int (nI ib)), (5, .int (nI k)), (6, .int (nI (by2 f p))), (7, .int (nI s43)), (8, .int 0), (9, .int 1)], [], M1)) (S2 := (162, [(0, .ref m0), (1, .int (nI p)), (2, .int (nI (by2 f pM))), (3, .int (nI f0)), (4, .int (nI ib)), (5, .int (nI k)), (6, .int (nI (by2 f p))), (7, .int (nI s43)), (8, .int 0), (9, .int 1)], [], M1)) rfl rfl rfl (fun c_159 => ?_) (fun c_159 => ?_)
                rotate_left
                · exact absurd (by decide) (of_decide_eq_false c_159)
                have hnm : ¬ mnmN f n E cf (by2 f (p + 2)) = 0 := by
                  have m0_ := mnm_0 (f := f) (n := n) (E := E) (c := cf) (x := by2 f (p + 2))
                  have u0_ := uq0 (l := tX f n E (by2 f (p + 2)))
                  omega
                have hfl : ¬ mflN f n E cf mj (by2 f p) (by2 f (p + 2)) = 0 := by
                  rw [mfl_c (by omega)]
                  omega
                exact ih.2.1 (k) (p) (ib) (s43) (1) (0) M1 I1 R1 hR1 hEI1 hER1 hl51 hl52 hl53 hl58 hl56 hl26 hl9 hl10 hF1 hY1 hP1 hK1 hN91 hQ1 (by omega) (hpk) (hpe) (hs) (hib) (q76_s) (by omega) (hnm) (hfl) (by omega) (by omega)
            · have c_91 : ¬ (¬ (nI s43) = (nI si)) := of_decide_eq_false c_91
              have n_91 : s43 = si := (eq_nI (p := s43) (n := si) (by omega) (by omega)).mp (Decidable.not_not.mp c_91)
              refine ps_st (S' := (95, [(7, .int (nI s43)), (0, .ref m0), (1, .int (nI p)), (2, .int (nI (by2 f pM))), (3, .int (nI f0)), (4, .int (nI ib)), (5, .int (nI k)), (6, .int (nI (by2 f p)))], [.int 1], M1)) rfl rfl rfl ?_
              refine ps_st (S' := (99, [(0, .ref m0), (1, .int (nI p)), (2, .int (nI (by2 f pM))), (3, .int (nI f0)), (4, .int (nI ib)), (5, .int (nI k)), (6, .int (nI (by2 f p))), (7, .int (nI s43))], [.int 1], M1)) rfl rfl rfl ?_
              refine ps_st (S' := (101, [(8, .int 1), (0, .ref m0), (1, .int (nI p)), (2, .int (nI (by2 f pM))), (3, .int (nI f0)), (4, .int (nI ib)), (5, .int (nI k)), (6, .int (nI (by2 f p))), (7, .int (nI s43))], [], M1)) rfl rfl rfl ?_
              refine ps_st (S' := (103, [(8, .int 1), (0, .ref m0), (1, .int (nI p)), (2, .int (nI (by2 f pM))), (3, .int (nI f0)), (4, .int (nI ib)), (5, .int (nI k)), (6, .int (nI (by2 f p))), (7, .int (nI s43))], [.int (nI s43)], M1)) rfl rfl rfl ?_
              refine ps_st (S' := (104, [(8, .int 1), (0, .ref m0), (1, .int (nI p)), (2, .int (nI (by2 f pM))), (3, .int (nI f0)), (4, .int (nI ib)), (5, .int (nI k)), (6, .int (nI (by2 f p))), (7, .int (nI s43))], [.ref m0, .int (nI s43)], M1)) rfl rfl rfl ?_
              refine pr_int (j := 10) (S' := (107, [(8, .int 1), (0, .ref m0), (1, .int (nI p)), (2, .int (nI (by2 f pM))), (3, .int (nI f0)), (4, .int (nI ib)), (5, .int (nI k)), (6, .int (nI (by2 f p))), (7, .int (nI s43))], [.int (nI sc), .int (nI s43)], M1)) rfl hR1 rfl hl10 rfl ?_
              refine ps_if2 (S1 := (114, [(8, .int 1), (0, .ref m0), (1, .int (nI p)), (2, .int (nI (by2 f pM))), (3, .int (nI f0)), (4, .int (nI ib)), (5, .int (nI k)), (6, .int (nI (by2 f p))), (7, .int (nI s43))], [], M1)) (S2 := (110, [(8, .int 1), (0, .ref m0), (1, .int (nI p)), (2, .int (nI (by2 f pM))), (3, .int (nI f0)), (4, .int (nI ib)), (5, .int (nI k)), (6, .int (nI (by2 f p))), (7, .int (nI s43))], [], M1)) rfl rfl rfl (fun c_107 => ?_) (fun c_107 => ?_)
              · have c_107 : ¬ (nI s43) = (nI sc) := of_decide_eq_true c_107
                have n_107 : ¬ (s43 = sc) := fun h9 => c_107 ((eq_nI (p := s43) (n := sc) (by omega) (by omega)).mpr h9)
                refine ps_st (S' := (115, [(0, .ref m0), (1, .int (nI p)), (2, .int (nI (by2 f pM))), (3, .int (nI f0)), (4, .int (nI ib)), (5, .int (nI k)), (6, .int (nI (by2 f p))), (7, .int (nI s43)), (8, .int 1)], [.int 0], M1)) rfl rfl rfl ?_
                refine ps_st (S' := (117, [(9, .int 0), (0, .ref m0), (1, .int (nI p)), (2, .int (nI (by2 f pM))), (3, .int (nI f0)), (4, .int (nI ib)), (5, .int (nI k)), (6, .int (nI (by2 f p))), (7, .int (nI s43)), (8, .int 1)], [], M1)) rfl rfl rfl ?_
                refine ps_st (S' := (119, [(9, .int 0), (0, .ref m0), (1, .int (nI p)), (2, .int (nI (by2 f pM))), (3, .int (nI f0)), (4, .int (nI ib)), (5, .int (nI k)), (6, .int (nI (by2 f p))), (7, .int (nI s43)), (8, .int 1)], [.int (nI s43)], M1)) rfl rfl rfl ?_
                refine ps_if (S1 := (147, [(0, .ref m0), (1, .int (nI p))], [], M1)) (S2 := (122, [(9, .int 0), (0, .ref m0), (1, .int (nI p)), (2, .int (nI (by2 f pM))), (3, .int (nI f0)), (4, .int (nI ib)), (5, .int (nI k)), (6, .int (nI (by2 f p))), (7, .int (nI s43)), (8, .int 1)], [], M1)) rfl rfl rfl (fun c_119 => ?_) (fun c_119 => ?_)
                · exact absurd (of_decide_eq_true c_119) (show ¬ ((nI s43) < 0) from fun h9 => absurd ((lt_nI (p := s43) (n := 0) (by omega) (by decide)).mp h9) (by omega))
                refine ps_st (S' := (124, [(9, .int 0), (0, .ref m0), (1, .int (nI p)), (2, .int (nI (by2 f pM))), (3, .int (nI f0)), (4, .int (nI ib)), (5, .int (nI k)), (6, .int (nI (by2 f p))), (7, .int (nI s43)), (8, .int 1)], [.int 0], M1)) rfl rfl rfl ?_
                refine ps_if (S1 := (157, [(0, .ref m0), (1, .int (nI p)), (2, .int (nI (by2 f pM))), (3, .int (nI f0)), (4, .int (nI ib)), (5, .int (nI k)), (6, .int (nI (by2 f p))), (7, .int (nI s43)), (8, .int 1), (9, .int 0)], [], M1)) (S2 := (127, [(9, .int 0), (0, .ref m0), (1, .int (nI p)), (2, .int (nI (by2 f pM))), (3, .int (nI f0)), (4, .int (nI ib)), (5, .int (nI k)), (6, .int (nI (by2 f p))), (7, .int (nI s43)), (8, .int 1)], [], M1)) rfl rfl rfl (fun c_124 => ?_) (fun c_124 => ?_)
                · exact absurd (of_decide_eq_true c_124) (by decide)
                refine ps_st (S' := (129, [(9, .int 0), (0, .ref m0), (1, .int (nI p)), (2, .int (nI (by2 f pM))), (3, .int (nI f0)), (4, .int (nI ib)), (5, .int (nI k)), (6, .int (nI (by2 f p))), (7, .int (nI s43)), (8, .int 1)], [.int 1], M1)) rfl rfl rfl ?_
                refine ps_if (S1 := (137, [(0, .ref m0), (1, .int (nI p)), (2, .int (nI (by2 f pM))), (3, .int (nI f0)), (4, .int (nI ib)), (5, .int (nI k)), (6, .int (nI (by2 f p))), (7, .int (nI s43)), (8, .int 1), (9, .int 0)], [], M1)) (S2 := (132, [(9, .int 0), (0, .ref m0), (1, .int (nI p)), (2, .int (nI (by2 f pM))), (3, .int (nI f0)), (4, .int (nI ib)), (5, .int (nI k)), (6, .int (nI (by2 f p))), (7, .int (nI s43)), (8, .int 1)], [], M1)) rfl rfl rfl (fun c_129 => ?_) (fun c_129 => ?_)
                · exact absurd (of_decide_eq_true c_129) (by decide)
                refine ps_st (S' := (134, [(9, .int 0), (0, .ref m0), (1, .int (nI p)), (2, .int (nI (by2 f pM))), (3, .int (nI f0)), (4, .int (nI ib)), (5, .int (nI k)), (6, .int (nI (by2 f p))), (7, .int (nI s43)), (8, .int 1)], [.int (nI ib)], M1)) rfl rfl rfl ?_
                refine ps_if (S1 := (157, [(0, .ref m0), (1, .int (nI p)), (2, .int (nI (by2 f pM))), (3, .int (nI f0)), (4, .int (nI ib)), (5, .int (nI k)), (6, .int (nI (by2 f p))), (7, .int (nI s43)), (8, .int 1), (9, .int 0)], [], M1)) (S2 := (137, [(0, .ref m0), (1, .int (nI p)), (2, .int (nI (by2 f pM))), (3, .int (nI f0)), (4, .int (nI ib)), (5, .int (nI k)), (6, .int (nI (by2 f p))), (7, .int (nI s43)), (8, .int 1), (9, .int 0)], [], M1)) rfl rfl rfl (fun c_134 => ?_) (fun c_134 => ?_)
                · have c_134 : (nI ib) = 0 := of_decide_eq_true c_134
                  have n_134 : ib = 0 := (eq_nI (p := ib) (n := 0) (by omega) (by decide)).mp c_134
                  refine ps_st (S' := (159, [(0, .ref m0), (1, .int (nI p)), (2, .int (nI (by2 f pM))), (3, .int (nI f0)), (4, .int (nI ib)), (5, .int (nI k)), (6, .int (nI (by2 f p))), (7, .int (nI s43)), (8, .int 1), (9, .int 0)], [.int 0], M1)) rfl rfl rfl ?_
                  refine ps_if (S1 := (183, [(0, .ref m0), (1, .int (nI p)), (2, .int (nI (by2 f pM))), (3, .int (nI f0)), (4, .int (nI ib)), (5, .int (nI k)), (6, .int (nI (by2 f p))), (7, .int (nI s43)), (8, .int 1), (9, .int 0)], [], M1)) (S2 := (162, [(0, .ref m0), (1, .int (nI p)), (2, .int (nI (by2 f pM))), (3, .int (nI f0)), (4, .int (nI ib)), (5, .int (nI k)), (6, .int (nI (by2 f p))), (7, .int (nI s43)), (8, .int 1), (9, .int 0)], [], M1)) rfl rfl rfl (fun c_159 => ?_) (fun c_159 => ?_)
                  · exact absurd (of_decide_eq_true c_159) (by decide)
                  refine ps_st (S' := (163, [(0, .ref m0), (1, .int (nI p)), (2, .int (nI (by2 f pM))), (3, .int (nI f0)), (4, .int (nI ib)), (5, .int (nI k)), (6, .int (nI (by2 f p))), (7, .int (nI s43)), (8, .int 1), (9, .int 0)], [.ref m0], M1)) rfl rfl rfl ?_
                  refine ps_st (S' := (165, [(0, .ref m0), (1, .int (nI p)), (2, .int (nI (by2 f pM))), (3, .int (nI f0)), (4, .int (nI ib)), (5, .int (nI k)), (6, .int (nI (by2 f p))), (7, .int (nI s43)), (8, .int 1), (9, .int 0)], [.int (nI (by2 f p)), .ref m0], M1)) rfl rfl rfl ?_
                  refine ps_st (S' := (167, [(0, .ref m0), (1, .int (nI p)), (2, .int (nI (by2 f pM))), (3, .int (nI f0)), (4, .int (nI ib)), (5, .int (nI k)), (6, .int (nI (by2 f p))), (7, .int (nI s43)), (8, .int 1), (9, .int 0)], [.int 1, .int (nI (by2 f p)), .ref m0], M1)) rfl rfl rfl ?_
                  refine ps_st (S' := (169, [(0, .ref m0), (1, .int (nI p)), (2, .int (nI (by2 f pM))), (3, .int (nI f0)), (4, .int (nI ib)), (5, .int (nI k)), (6, .int (nI (by2 f p))), (7, .int (nI s43)), (8, .int 1), (9, .int 0)], [.int (nI ib), .int 1, .int (nI (by2 f p)), .ref m0], M1)) rfl rfl rfl ?_
                  refine pl_call (a := [.ref m0, .int (nI (by2 f p)), .int 1, .int (nI ib)]) (rest := []) rfl rfl rfl (rd_fitX (mj := mj) (x := (by2 f p)) (c := cf) (i := 1) (ib := ib) hR1 hl53 (hmj) (hu8) (by decide) (hib)) (fun v103 M104 q105 => ?_)
                  obtain ⟨rfl, rfl⟩ := q105
                  show pl _ _ _ (172, [(0, .ref m0), (1, .int (nI p)), (2, .int (nI (by2 f pM))), (3, .int (nI f0)), (4, .int (nI ib)), (5, .int (nI k)), (6, .int (nI (by2 f p))), (7, .int (nI s43)), (8, .int 1), (9, .int 0)], [.int (nI (fitN mj cf (by2 f p) 1))], M1) _
                  have hft := le1_fit mj cf (by2 f p) 1
                  refine ps_if (S1 := (183, [(0, .ref m0), (1, .int (nI p)), (2, .int (nI (by2 f pM))), (3, .int (nI f0)), (4, .int (nI ib)), (5, .int (nI k)), (6, .int (nI (by2 f p))), (7, .int (nI s43)), (8, .int 1), (9, .int 0)], [], M1)) (S2 := (175, [(0, .ref m0), (1, .int (nI p)), (2, .int (nI (by2 f pM))), (3, .int (nI f0)), (4, .int (nI ib)), (5, .int (nI k)), (6, .int (nI (by2 f p))), (7, .int (nI s43)), (8, .int 1), (9, .int 0)], [], M1)) rfl rfl rfl (fun c_172 => ?_) (fun c_172 => ?_)
                  · have c_172 : ¬ (nI (fitN mj cf (by2 f p) 1)) = 0 := of_decide_eq_true c_172
                    have n_172 : ¬ (fitN mj cf (by2 f p) 1 = 0) := fun h9 => c_172 ((eq_nI (p := fitN mj cf (by2 f p) 1) (n := 0) (Nat.lt_trans (le1_fit _ _ _ _) (by decide)) (by decide)).mpr h9)
                    have hnm : ¬ mnmN f n E cf (by2 f (p + 2)) = 0 := by
                      have m0_ := mnm_0 (f := f) (n := n) (E := E) (c := cf) (x := by2 f (p + 2))
                      have u0_ := uq0 (l := tX f n E (by2 f (p + 2)))
                      omega
                    have hfl : ¬ mflN f n E cf mj (by2 f p) (by2 f (p + 2)) = 0 := by
                      rw [mfl_i (by omega) (by omega)]
                      omega
                    exact ih.2.1 (k) (p) (ib) (s43) (0) (1) M1 I1 R1 hR1 hEI1 hER1 hl51 hl52 hl53 hl58 hl56 hl26 hl9 hl10 hF1 hY1 hP1 hK1 hN91 hQ1 (by omega) (hpk) (hpe) (hs) (hib) (q76_s) (by omega) (hnm) (hfl) (by omega) (by omega)
                  · have c_172 : ¬ (¬ (nI (fitN mj cf (by2 f p) 1)) = 0) := of_decide_eq_false c_172
                    have n_172 : fitN mj cf (by2 f p) 1 = 0 := (eq_nI (p := fitN mj cf (by2 f p) 1) (n := 0) (Nat.lt_trans (le1_fit _ _ _ _) (by decide)) (by decide)).mp (Decidable.not_not.mp c_172)
                    refine ps_st (S' := (176, [(0, .ref m0), (1, .int (nI p)), (2, .int (nI (by2 f pM))), (3, .int (nI f0)), (4, .int (nI ib)), (5, .int (nI k)), (6, .int (nI (by2 f p))), (7, .int (nI s43)), (8, .int 1), (9, .int 0)], [.ref m0], M1)) rfl rfl rfl ?_
                    refine ps_st (S' := (178, [(0, .ref m0), (1, .int (nI p)), (2, .int (nI (by2 f pM))), (3, .int (nI f0)), (4, .int (nI ib)), (5, .int (nI k)), (6, .int (nI (by2 f p))), (7, .int (nI s43)), (8, .int 1), (9, .int 0)], [.int 23, .ref m0], M1)) rfl rfl rfl ?_
                    refine ps_st (S' := (179, [(0, .ref m0), (1, .int (nI p)), (2, .int (nI (by2 f pM))), (3, .int (nI f0)), (4, .int (nI ib)), (5, .int (nI k)), (6, .int (nI (by2 f p))), (7, .int (nI s43)), (8, .int 1), (9, .int 0)], [.int (nI p), .int 23, .ref m0], M1)) rfl rfl rfl ?_
                    refine pl_call (a := [.ref m0, .int 23, .int (nI p)]) (rest := []) rfl rfl rfl (rd_wrong (x1 := 23) (x2 := (nI p)) hR1) (fun v106 M107 q108 => ?_)
                    obtain ⟨I109, R110, rfl, hR111, hI112, hX113, hi114, hi115⟩ := q108
                    have hi116 := (hI112 51 (by decide)).trans hl51
                    have hi117 := (hI112 52 (by decide)).trans hl52
                    have hi118 := (hI112 53 (by decide)).trans hl53
                    have hi119 := (hI112 58 (by decide)).trans hl58
                    have hi120 := (hI112 56 (by decide)).trans hl56
                    have hi121 := (hI112 26 (by decide)).trans hl26
                    have hi122 := (hI112 9 (by decide)).trans hl9
                    have hi123 := (hI112 10 (by decide)).trans hl10
                    have hF_124 := hF1.mono (cIx hI112 (by decide)) (cRx hX113 (by decide))
                    have hY_125 := hY1.mono (cIx hI112 (by decide)) (cRx hX113 (by decide))
                    have hP_126 := hP1.mono (cIx hI112 (by decide)) (cRx hX113 (by decide))
                    have hK_127 := hK1.mono (cIx hI112 (by decide)) (cRx hX113 (by decide))
                    have hN9_128 := hN91.mono (cIx hI112 (by decide)) (cRx hX113 (by decide))
                    have hQ_129 := hQ1.mono (cIx hI112 (by decide)) (cRx hX113 (by decide))
                    have hEI130 := hEI1.tr hI112 (by decide)
                    have hER131 := hER1.tr hX113 (by decide)
                    show pl _ _ _ (182, [(0, .ref m0), (1, .int (nI p)), (2, .int (nI (by2 f pM))), (3, .int (nI f0)), (4, .int (nI ib)), (5, .int (nI k)), (6, .int (nI (by2 f p))), (7, .int (nI s43)), (8, .int 1), (9, .int 0)], [.int 0], M107) _
                    exact ps_ret rfl rfl (Or.inr ⟨(23, p), I109, R110, by
                        have m0_ := mnm_0 (f := f) (n := n) (E := E) (c := cf) (x := by2 f (p + 2))
                        have u0_ := uq0 (l := tX f n E (by2 f (p + 2)))
                        rw [← hs, mtS_st (i := k) (by omega), ← hpk, mh_23 (by omega) (by rw [mfl_i (by omega) (by omega)]; omega)], rfl, hR111, hEI130, hER131, hi114, hi115⟩)
                · have c_134 : ¬ ((nI ib) = 0) := of_decide_eq_false c_134
                  have n_134 : ¬ (ib = 0) := fun h9 => c_134 ((eq_nI (p := ib) (n := 0) (by omega) (by decide)).mpr h9)
                  refine ps_st (S' := (138, [(0, .ref m0), (1, .int (nI p)), (2, .int (nI (by2 f pM))), (3, .int (nI f0)), (4, .int (nI ib)), (5, .int (nI k)), (6, .int (nI (by2 f p))), (7, .int (nI s43)), (8, .int 1), (9, .int 0)], [.ref m0], M1)) rfl rfl rfl ?_
                  refine ps_st (S' := (140, [(0, .ref m0), (1, .int (nI p)), (2, .int (nI (by2 f pM))), (3, .int (nI f0)), (4, .int (nI ib)), (5, .int (nI k)), (6, .int (nI (by2 f p))), (7, .int (nI s43)), (8, .int 1), (9, .int 0)], [.int (nI s43), .ref m0], M1)) rfl rfl rfl ?_
                  refine ps_st (S' := (141, [(0, .ref m0), (1, .int (nI p)), (2, .int (nI (by2 f pM))), (3, .int (nI f0)), (4, .int (nI ib)), (5, .int (nI k)), (6, .int (nI (by2 f p))), (7, .int (nI s43)), (8, .int 1), (9, .int 0)], [.int 0, .int (nI s43), .ref m0], M1)) rfl rfl rfl ?_
                  refine pl_call (a := [.ref m0, .int (nI s43), .int 0]) (rest := []) rfl rfl rfl (rd_unq0 (tx := tx) (cN := cN) (A := A) (s := s43) (l := (tX f n E (by2 f (p + 2)))) hR1 hY1 (q76_s)) (fun v132 M133 q134 => ?_)
                  obtain ⟨rfl, rfl⟩ := q134
                  show pl _ _ _ (144, [(0, .ref m0), (1, .int (nI p)), (2, .int (nI (by2 f pM))), (3, .int (nI f0)), (4, .int (nI ib)), (5, .int (nI k)), (6, .int (nI (by2 f p))), (7, .int (nI s43)), (8, .int 1), (9, .int 0)], [.int (nI (unq0 (tX f n E (by2 f (p + 2)))))], M1) _
                  refine ps_if (S1 := (157, [(0, .ref m0), (1, .int (nI p)), (2, .int (nI (by2 f pM))), (3, .int (nI f0)), (4, .int (nI ib)), (5, .int (nI k)), (6, .int (nI (by2 f p))), (7, .int (nI s43)), (8, .int 1), (9, .int 0)], [], M1)) (S2 := (147, [(0, .ref m0), (1, .int (nI p))], [], M1)) rfl rfl rfl (fun c_144 => ?_) (fun c_144 => ?_)
                  · have c_144 : ¬ (nI (unq0 (tX f n E (by2 f (p + 2))))) = 0 := of_decide_eq_true c_144
                    have n_144 : ¬ (unq0 (tX f n E (by2 f (p + 2))) = 0) := fun h9 => c_144 ((eq_nI (p := unq0 (tX f n E (by2 f (p + 2)))) (n := 0) (Nat.lt_trans (le1_unq0 _) (by decide)) (by decide)).mpr h9)
                    refine ps_st (S' := (159, [(0, .ref m0), (1, .int (nI p)), (2, .int (nI (by2 f pM))), (3, .int (nI f0)), (4, .int (nI ib)), (5, .int (nI k)), (6, .int (nI (by2 f p))), (7, .int (nI s43)), (8, .int 1), (9, .int 0)], [.int 0], M1)) rfl rfl rfl ?_
                    refine ps_if (S1 := (183, [(0, .ref m0), (1, .int (nI p)), (2, .int (nI (by2 f pM))), (3, .int (nI f0)), (4, .int (nI ib)), (5, .int (nI k)), (6, .int (nI (by2 f p))), (7, .int (nI s43)), (8, .int 1), (9, .int 0)], [], M1)) (S2 := (162, [(0, .ref m0), (1, .int (nI p)), (2, .int (nI (by2 f pM))), (3, .int (nI f0)), (4, .int (nI ib)), (5, .int (nI k)), (6, .int (nI (by2 f p))), (7, .int (nI s43)), (8, .int 1), (9, .int 0)], [], M1)) rfl rfl rfl (fun c_159 => ?_) (fun c_159 => ?_)
                    · exact absurd (of_decide_eq_true c_159) (by decide)
                    refine ps_st (S' := (163, [(0, .ref m0), (1, .int (nI p)), (2, .int (nI (by2 f pM))), (3, .int (nI f0)), (4, .int (nI ib)), (5, .int (nI k)), (6, .int (nI (by2 f p))), (7, .int (nI s43)), (8, .int 1), (9, .int 0)], [.ref m0], M1)) rfl rfl rfl ?_
                    refine ps_st (S' := (165, [(0, .ref m0), (1, .int (nI p)), (2, .int (nI (by2 f pM))), (3, .int (nI f0)), (4, .int (nI ib)), (5, .int (nI k)), (6, .int (nI (by2 f p))), (7, .int (nI s43)), (8, .int 1), (9, .int 0)], [.int (nI (by2 f p)), .ref m0], M1)) rfl rfl rfl ?_
                    refine ps_st (S' := (167, [(0, .ref m0), (1, .int (nI p)), (2, .int (nI (by2 f pM))), (3, .int (nI f0)), (4, .int (nI ib)), (5, .int (nI k)), (6, .int (nI (by2 f p))), (7, .int (nI s43)), (8, .int 1), (9, .int 0)], [.int 1, .int (nI (by2 f p)), .ref m0], M1)) rfl rfl rfl ?_
                    refine ps_st (S' := (169, [(0, .ref m0), (1, .int (nI p)), (2, .int (nI (by2 f pM))), (3, .int (nI f0)), (4, .int (nI ib)), (5, .int (nI k)), (6, .int (nI (by2 f p))), (7, .int (nI s43)), (8, .int 1), (9, .int 0)], [.int (nI ib), .int 1, .int (nI (by2 f p)), .ref m0], M1)) rfl rfl rfl ?_
                    refine pl_call (a := [.ref m0, .int (nI (by2 f p)), .int 1, .int (nI ib)]) (rest := []) rfl rfl rfl (rd_fitX (mj := mj) (x := (by2 f p)) (c := cf) (i := 1) (ib := ib) hR1 hl53 (hmj) (hu8) (by decide) (hib)) (fun v135 M136 q137 => ?_)
                    obtain ⟨rfl, rfl⟩ := q137
                    show pl _ _ _ (172, [(0, .ref m0), (1, .int (nI p)), (2, .int (nI (by2 f pM))), (3, .int (nI f0)), (4, .int (nI ib)), (5, .int (nI k)), (6, .int (nI (by2 f p))), (7, .int (nI s43)), (8, .int 1), (9, .int 0)], [.int (nI (fitN mj cf (by2 f p) 1))], M1) _
                    have hft := le1_fit mj cf (by2 f p) 1
                    refine ps_if (S1 := (183, [(0, .ref m0), (1, .int (nI p)), (2, .int (nI (by2 f pM))), (3, .int (nI f0)), (4, .int (nI ib)), (5, .int (nI k)), (6, .int (nI (by2 f p))), (7, .int (nI s43)), (8, .int 1), (9, .int 0)], [], M1)) (S2 := (175, [(0, .ref m0), (1, .int (nI p)), (2, .int (nI (by2 f pM))), (3, .int (nI f0)), (4, .int (nI ib)), (5, .int (nI k)), (6, .int (nI (by2 f p))), (7, .int (nI s43)), (8, .int 1), (9, .int 0)], [], M1)) rfl rfl rfl (fun c_172 => ?_) (fun c_172 => ?_)
                    · have c_172 : ¬ (nI (fitN mj cf (by2 f p) 1)) = 0 := of_decide_eq_true c_172
                      have n_172 : ¬ (fitN mj cf (by2 f p) 1 = 0) := fun h9 => c_172 ((eq_nI (p := fitN mj cf (by2 f p) 1) (n := 0) (Nat.lt_trans (le1_fit _ _ _ _) (by decide)) (by decide)).mpr h9)
                      have hnm : ¬ mnmN f n E cf (by2 f (p + 2)) = 0 := by
                        have m0_ := mnm_0 (f := f) (n := n) (E := E) (c := cf) (x := by2 f (p + 2))
                        have u0_ := uq0 (l := tX f n E (by2 f (p + 2)))
                        omega
                      have hfl : ¬ mflN f n E cf mj (by2 f p) (by2 f (p + 2)) = 0 := by
                        rw [mfl_i (by omega) (by omega)]
                        omega
                      exact ih.2.1 (k) (p) (ib) (s43) (0) (1) M1 I1 R1 hR1 hEI1 hER1 hl51 hl52 hl53 hl58 hl56 hl26 hl9 hl10 hF1 hY1 hP1 hK1 hN91 hQ1 (by omega) (hpk) (hpe) (hs) (hib) (q76_s) (by omega) (hnm) (hfl) (by omega) (by omega)
                    · have c_172 : ¬ (¬ (nI (fitN mj cf (by2 f p) 1)) = 0) := of_decide_eq_false c_172
                      have n_172 : fitN mj cf (by2 f p) 1 = 0 := (eq_nI (p := fitN mj cf (by2 f p) 1) (n := 0) (Nat.lt_trans (le1_fit _ _ _ _) (by decide)) (by decide)).mp (Decidable.not_not.mp c_172)
                      refine ps_st (S' := (176, [(0, .ref m0), (1, .int (nI p)), (2, .int (nI (by2 f pM))), (3, .int (nI f0)), (4, .int (nI ib)), (5, .int (nI k)), (6, .int (nI (by2 f p))), (7, .int (nI s43)), (8, .int 1), (9, .int 0)], [.ref m0], M1)) rfl rfl rfl ?_
                      refine ps_st (S' := (178, [(0, .ref m0), (1, .int (nI p)), (2, .int (nI (by2 f pM))), (3, .int (nI f0)), (4, .int (nI ib)), (5, .int (nI k)), (6, .int (nI (by2 f p))), (7, .int (nI s43)), (8, .int 1), (9, .int 0)], [.int 23, .ref m0], M1)) rfl rfl rfl ?_
                      refine ps_st (S' := (179, [(0, .ref m0), (1, .int (nI p)), (2, .int (nI (by2 f pM))), (3, .int (nI f0)), (4, .int (nI ib)), (5, .int (nI k)), (6, .int (nI (by2 f p))), (7, .int (nI s43)), (8, .int 1), (9, .int 0)], [.int (nI p), .int 23, .ref m0], M1)) rfl rfl rfl ?_
                      refine pl_call (a := [.ref m0, .int 23, .int (nI p)]) (rest := []) rfl rfl rfl (rd_wrong (x1 := 23) (x2 := (nI p)) hR1) (fun v138 M139 q140 => ?_)
                      obtain ⟨I141, R142, rfl, hR143, hI144, hX145, hi146, hi147⟩ := q140
                      have hi148 := (hI144 51 (by decide)).trans hl51
                      have hi149 := (hI144 52 (by decide)).trans hl52
                      have hi150 := (hI144 53 (by decide)).trans hl53
                      have hi151 := (hI144 58 (by decide)).trans hl58
                      have hi152 := (hI144 56 (by decide)).trans hl56
                      have hi153 := (hI144 26 (by decide)).trans hl26
                      have hi154 := (hI144 9 (by decide)).trans hl9
                      have hi155 := (hI144 10 (by decide)).trans hl10
                      have hF_156 := hF1.mono (cIx hI144 (by decide)) (cRx hX145 (by decide))
                      have hY_157 := hY1.mono (cIx hI144 (by decide)) (cRx hX145 (by decide))
                      have hP_158 := hP1.mono (cIx hI144 (by decide)) (cRx hX145 (by decide))
                      have hK_159 := hK1.mono (cIx hI144 (by decide)) (cRx hX145 (by decide))
                      have hN9_160 := hN91.mono (cIx hI144 (by decide)) (cRx hX145 (by decide))
                      have hQ_161 := hQ1.mono (cIx hI144 (by decide)) (cRx hX145 (by decide))
                      have hEI162 := hEI1.tr hI144 (by decide)
                      have hER163 := hER1.tr hX145 (by decide)
                      show pl _ _ _ (182, [(0, .ref m0), (1, .int (nI p)), (2, .int (nI (by2 f pM))), (3, .int (nI f0)), (4, .int (nI ib)), (5, .int (nI k)), (6, .int (nI (by2 f p))), (7, .int (nI s43)), (8, .int 1), (9, .int 0)], [.int 0], M139) _
                      exact ps_ret rfl rfl (Or.inr ⟨(23, p), I141, R142, by
                          have m0_ := mnm_0 (f := f) (n := n) (E := E) (c := cf) (x := by2 f (p + 2))
                          have u0_ := uq0 (l := tX f n E (by2 f (p + 2)))
                          rw [← hs, mtS_st (i := k) (by omega), ← hpk, mh_23 (by omega) (by rw [mfl_i (by omega) (by omega)]; omega)], rfl, hR143, hEI162, hER163, hi146, hi147⟩)
                  · have c_144 : ¬ (¬ (nI (unq0 (tX f n E (by2 f (p + 2))))) = 0) := of_decide_eq_false c_144
                    have n_144 : unq0 (tX f n E (by2 f (p + 2))) = 0 := (eq_nI (p := unq0 (tX f n E (by2 f (p + 2)))) (n := 0) (Nat.lt_trans (le1_unq0 _) (by decide)) (by decide)).mp (Decidable.not_not.mp c_144)
                    refine ps_st (S' := (148, [(0, .ref m0), (1, .int (nI p))], [.ref m0], M1)) rfl rfl rfl ?_
                    refine ps_st (S' := (150, [(0, .ref m0), (1, .int (nI p))], [.int 24, .ref m0], M1)) rfl rfl rfl ?_
                    refine ps_st (S' := (151, [(0, .ref m0), (1, .int (nI p))], [.int (nI p), .int 24, .ref m0], M1)) rfl rfl rfl ?_
                    refine ps_st (S' := (152, [(0, .ref m0), (1, .int (nI p))], [.int 2, .int (nI p), .int 24, .ref m0], M1)) rfl rfl rfl ?_
                    refine ps_st (S' := (153, [(0, .ref m0), (1, .int (nI p))], [.int ((nI p) + 2), .int 24, .ref m0], M1)) rfl rfl rfl ?_
                    rw [nI_add1 (p := p) (k := 2) (x := 2) rfl (by omega)]
                    show pl _ _ _ (_, [(0, .ref m0), (1, .int (nI p))], [.int (nI (p + 2)), .int 24, .ref m0], M1) _
                    refine pl_call (a := [.ref m0, .int 24, .int (nI (p + 2))]) (rest := []) rfl rfl rfl (rd_wrong (x1 := 24) (x2 := (nI (p + 2))) hR1) (fun v164 M165 q166 => ?_)
                    obtain ⟨I167, R168, rfl, hR169, hI170, hX171, hi172, hi173⟩ := q166
                    have hi174 := (hI170 51 (by decide)).trans hl51
                    have hi175 := (hI170 52 (by decide)).trans hl52
                    have hi176 := (hI170 53 (by decide)).trans hl53
                    have hi177 := (hI170 58 (by decide)).trans hl58
                    have hi178 := (hI170 56 (by decide)).trans hl56
                    have hi179 := (hI170 26 (by decide)).trans hl26
                    have hi180 := (hI170 9 (by decide)).trans hl9
                    have hi181 := (hI170 10 (by decide)).trans hl10
                    have hF_182 := hF1.mono (cIx hI170 (by decide)) (cRx hX171 (by decide))
                    have hY_183 := hY1.mono (cIx hI170 (by decide)) (cRx hX171 (by decide))
                    have hP_184 := hP1.mono (cIx hI170 (by decide)) (cRx hX171 (by decide))
                    have hK_185 := hK1.mono (cIx hI170 (by decide)) (cRx hX171 (by decide))
                    have hN9_186 := hN91.mono (cIx hI170 (by decide)) (cRx hX171 (by decide))
                    have hQ_187 := hQ1.mono (cIx hI170 (by decide)) (cRx hX171 (by decide))
                    have hEI188 := hEI1.tr hI170 (by decide)
                    have hER189 := hER1.tr hX171 (by decide)
                    show pl _ _ _ (156, [(0, .ref m0), (1, .int (nI p))], [.int 0], M165) _
                    exact ps_ret rfl rfl (Or.inr ⟨(24, p + 2), I167, R168, by
                        rw [← hs, mtS_st (i := k) (by omega), ← hpk, mh_24 (by have m0_ := mnm_0 (f := f) (n := n) (E := E) (c := cf) (x := by2 f (p + 2)); have u0_ := uq0 (l := tX f n E (by2 f (p + 2))); omega)], rfl, hR169, hEI188, hER189, hi172, hi173⟩)
              · have c_107 : ¬ (¬ (nI s43) = (nI sc)) := of_decide_eq_false c_107
                have n_107 : s43 = sc := (eq_nI (p := s43) (n := sc) (by omega) (by omega)).mp (Decidable.not_not.mp c_107)
                refine ps_st (S' := (111, [(8, .int 1), (0, .ref m0), (1, .int (nI p)), (2, .int (nI (by2 f pM))), (3, .int (nI f0)), (4, .int (nI ib)), (5, .int (nI k)), (6, .int (nI (by2 f p))), (7, .int (nI s43))], [.int 1], M1)) rfl rfl rfl ?_
                refine ps_st (S' := (115, [(0, .ref m0), (1, .int (nI p)), (2, .int (nI (by2 f pM))), (3, .int (nI f0)), (4, .int (nI ib)), (5, .int (nI k)), (6, .int (nI (by2 f p))), (7, .int (nI s43)), (8, .int 1)], [.int 1], M1)) rfl rfl rfl ?_
                refine ps_st (S' := (117, [(9, .int 1), (0, .ref m0), (1, .int (nI p)), (2, .int (nI (by2 f pM))), (3, .int (nI f0)), (4, .int (nI ib)), (5, .int (nI k)), (6, .int (nI (by2 f p))), (7, .int (nI s43)), (8, .int 1)], [], M1)) rfl rfl rfl ?_
                refine ps_st (S' := (119, [(9, .int 1), (0, .ref m0), (1, .int (nI p)), (2, .int (nI (by2 f pM))), (3, .int (nI f0)), (4, .int (nI ib)), (5, .int (nI k)), (6, .int (nI (by2 f p))), (7, .int (nI s43)), (8, .int 1)], [.int (nI s43)], M1)) rfl rfl rfl ?_
                refine ps_if (S1 := (147, [(0, .ref m0), (1, .int (nI p))], [], M1)) (S2 := (122, [(9, .int 1), (0, .ref m0), (1, .int (nI p)), (2, .int (nI (by2 f pM))), (3, .int (nI f0)), (4, .int (nI ib)), (5, .int (nI k)), (6, .int (nI (by2 f p))), (7, .int (nI s43)), (8, .int 1)], [], M1)) rfl rfl rfl (fun c_119 => ?_) (fun c_119 => ?_)
                · exact absurd (of_decide_eq_true c_119) (show ¬ ((nI s43) < 0) from fun h9 => absurd ((lt_nI (p := s43) (n := 0) (by omega) (by decide)).mp h9) (by omega))
                refine ps_st (S' := (124, [(9, .int 1), (0, .ref m0), (1, .int (nI p)), (2, .int (nI (by2 f pM))), (3, .int (nI f0)), (4, .int (nI ib)), (5, .int (nI k)), (6, .int (nI (by2 f p))), (7, .int (nI s43)), (8, .int 1)], [.int 1], M1)) rfl rfl rfl ?_
                refine ps_if (S1 := (157, [(0, .ref m0), (1, .int (nI p)), (2, .int (nI (by2 f pM))), (3, .int (nI f0)), (4, .int (nI ib)), (5, .int (nI k)), (6, .int (nI (by2 f p))), (7, .int (nI s43)), (8, .int 1), (9, .int 1)], [], M1)) (S2 := (127, [(9, .int 1), (0, .ref m0), (1, .int (nI p)), (2, .int (nI (by2 f pM))), (3, .int (nI f0)), (4, .int (nI ib)), (5, .int (nI k)), (6, .int (nI (by2 f p))), (7, .int (nI s43)), (8, .int 1)], [], M1)) rfl rfl rfl (fun c_124 => ?_) (fun c_124 => ?_)
                rotate_left
                · exact absurd (by decide) (of_decide_eq_false c_124)
                refine ps_st (S' := (159, [(0, .ref m0), (1, .int (nI p)), (2, .int (nI (by2 f pM))), (3, .int (nI f0)), (4, .int (nI ib)), (5, .int (nI k)), (6, .int (nI (by2 f p))), (7, .int (nI s43)), (8, .int 1), (9, .int 1)], [.int 1], M1)) rfl rfl rfl ?_
                refine ps_if (S1 := (183, [(0, .ref m0), (1, .int (nI p)), (2, .int (nI (by2 f pM))), (3, .int (nI f0)), (4, .int (nI ib)), (5, .int (nI k)), (6, .int (nI (by2 f p))), (7, .int (nI s43)), (8, .int 1), (9, .int 1)], [], M1)) (S2 := (162, [(0, .ref m0), (1, .int (nI p)), (2, .int (nI (by2 f pM))), (3, .int (nI f0)), (4, .int (nI ib)), (5, .int (nI k)), (6, .int (nI (by2 f p))), (7, .int (nI s43)), (8, .int 1), (9, .int 1)], [], M1)) rfl rfl rfl (fun c_159 => ?_) (fun c_159 => ?_)
                rotate_left
                · exact absurd (by decide) (of_decide_eq_false c_159)
                exfalso; omega
      · skip
        intro k p ib a i9 i8 M1 I1 R1 hR1 hEI1 hER1 hl51 hl52 hl53 hl58 hl56 hl26 hl9 hl10 hF1 hY1 hP1 hK1 hN91 hQ1 hk0 hpk hpe hs hib hsa ht1 hnm hfl h9c h8c
        have hn := hF1.1
        have hu9 := by2_lt f pM
        have htl := hY1.1.2.2.1
        have hBl := hMB.1
        have hi7 := hsi.1
        have hc7 := hsc.1
        have hu8 := by2_lt f p
        have hsa1 := hsa.1
        refine ps_st1 (S' := (184, [(0, .ref m0), (1, .int (nI p)), (2, .int (nI (by2 f pM))), (3, .int (nI f0)), (4, .int (nI ib)), (5, .int (nI k)), (6, .int (nI (by2 f p))), (7, .int (nI a)), (8, .int (nI i8)), (9, .int (nI i9))], [.ref m0], M1)) rfl rfl rfl ?_
        refine ps_st (S' := (185, [(0, .ref m0), (1, .int (nI p)), (2, .int (nI (by2 f pM))), (3, .int (nI f0)), (4, .int (nI ib)), (5, .int (nI k)), (6, .int (nI (by2 f p))), (7, .int (nI a)), (8, .int (nI i8)), (9, .int (nI i9))], [.ref m0, .ref m0], M1)) rfl rfl rfl ?_
        refine ps_st (S' := (186, [(0, .ref m0), (1, .int (nI p)), (2, .int (nI (by2 f pM))), (3, .int (nI f0)), (4, .int (nI ib)), (5, .int (nI k)), (6, .int (nI (by2 f p))), (7, .int (nI a)), (8, .int (nI i8)), (9, .int (nI i9))], [.int (nI p), .ref m0, .ref m0], M1)) rfl rfl rfl ?_
        refine ps_st (S' := (187, [(0, .ref m0), (1, .int (nI p)), (2, .int (nI (by2 f pM))), (3, .int (nI f0)), (4, .int (nI ib)), (5, .int (nI k)), (6, .int (nI (by2 f p))), (7, .int (nI a)), (8, .int (nI i8)), (9, .int (nI i9))], [.int 4, .int (nI p), .ref m0, .ref m0], M1)) rfl rfl rfl ?_
        refine ps_st (S' := (188, [(0, .ref m0), (1, .int (nI p)), (2, .int (nI (by2 f pM))), (3, .int (nI f0)), (4, .int (nI ib)), (5, .int (nI k)), (6, .int (nI (by2 f p))), (7, .int (nI a)), (8, .int (nI i8)), (9, .int (nI i9))], [.int ((nI p) + 4), .ref m0, .ref m0], M1)) rfl rfl rfl ?_
        rw [nI_add1 (p := p) (k := 4) (x := 4) rfl (by omega)]
        show pl _ _ _ (_, [(0, .ref m0), (1, .int (nI p)), (2, .int (nI (by2 f pM))), (3, .int (nI f0)), (4, .int (nI ib)), (5, .int (nI k)), (6, .int (nI (by2 f p))), (7, .int (nI a)), (8, .int (nI i8)), (9, .int (nI i9))], [.int (nI (p + 4)), .ref m0, .ref m0], M1) _
        refine pl_call (a := [.ref m0, .int (nI (p + 4))]) (rest := [.ref m0]) rfl rfl rfl (rd_u2 (n := n) (f := f) (p := (p + 4)) hR1 hF1 (by omega)) (fun v190 M191 q192 => ?_)
        obtain ⟨rfl, rfl⟩ := q192
        show pl _ _ _ (191, [(0, .ref m0), (1, .int (nI p)), (2, .int (nI (by2 f pM))), (3, .int (nI f0)), (4, .int (nI ib)), (5, .int (nI k)), (6, .int (nI (by2 f p))), (7, .int (nI a)), (8, .int (nI i8)), (9, .int (nI i9))], [.int (nI (by2 f (p + 4))), .ref m0], M1) _
        have hu_188 := by2_lt f (p + 4)
        refine pl_call (a := [.ref m0, .int (nI (by2 f (p + 4)))]) (rest := []) rfl rfl rfl (rd_tag (n := n) (f := f) (tx := tx) (cN := cN) (A := A) (N := N) (mj := mj) (E := E) (k := (by2 f (p + 4))) hR1 hl51 hl52 hl53 hF1 hY1 hP1 (hEP) (hN) (hmj) (by2_lt _ _)) (fun v193 M194 q195 => ?_)
        obtain ⟨rfl, rfl⟩ := q195
        show pl _ _ _ (194, [(0, .ref m0), (1, .int (nI p)), (2, .int (nI (by2 f pM))), (3, .int (nI f0)), (4, .int (nI ib)), (5, .int (nI k)), (6, .int (nI (by2 f p))), (7, .int (nI a)), (8, .int (nI i8)), (9, .int (nI i9))], [.int (nI (tg f E (by2 f (p + 4))))], M1) _
        have htg_191 := tg_lt f E (by2 f (p + 4))
        refine ps_st (S' := (195, [(0, .ref m0), (1, .int (nI p)), (2, .int (nI (by2 f pM))), (3, .int (nI f0)), (4, .int (nI ib)), (5, .int (nI k)), (6, .int (nI (by2 f p))), (7, .int (nI a)), (8, .int (nI i8)), (9, .int (nI i9))], [.int 1, .int (nI (tg f E (by2 f (p + 4))))], M1)) rfl rfl rfl ?_
        refine ps_if2 (S1 := (212, [(0, .ref m0), (1, .int (nI p)), (2, .int (nI (by2 f pM))), (3, .int (nI f0)), (4, .int (nI ib)), (5, .int (nI k)), (6, .int (nI (by2 f p))), (7, .int (nI a)), (8, .int (nI i8)), (9, .int (nI i9))], [], M1)) (S2 := (198, [(0, .ref m0), (1, .int (nI p)), (2, .int (nI (by2 f pM))), (3, .int (nI f0)), (4, .int (nI ib)), (5, .int (nI k)), (6, .int (nI (by2 f p))), (7, .int (nI a)), (8, .int (nI i8)), (9, .int (nI i9))], [], M1)) rfl rfl rfl (fun c_195 => ?_) (fun c_195 => ?_)
        · have c_195 : ¬ (nI (tg f E (by2 f (p + 4)))) = 1 := of_decide_eq_true c_195
          have n_195 : ¬ (tg f E (by2 f (p + 4)) = 1) := fun h9 => c_195 ((eq_nI (p := tg f E (by2 f (p + 4))) (n := 1) (Nat.lt_trans (tg_lt _ _ _) (by decide)) (by decide)).mpr h9)
          refine ps_st (S' := (213, [(0, .ref m0), (1, .int (nI p)), (2, .int (nI (by2 f pM))), (3, .int (nI f0)), (4, .int (nI ib)), (5, .int (nI k)), (6, .int (nI (by2 f p))), (7, .int (nI a)), (8, .int (nI i8)), (9, .int (nI i9))], [.int (-1)], M1)) rfl rfl rfl ?_
          refine ps_st (S' := (215, [(10, .int (-1)), (0, .ref m0), (1, .int (nI p)), (2, .int (nI (by2 f pM))), (3, .int (nI f0)), (4, .int (nI ib)), (5, .int (nI k)), (6, .int (nI (by2 f p))), (7, .int (nI a)), (8, .int (nI i8)), (9, .int (nI i9))], [], M1)) rfl rfl rfl ?_
          refine ps_st (S' := (217, [(10, .int (-1)), (0, .ref m0), (1, .int (nI p)), (2, .int (nI (by2 f pM))), (3, .int (nI f0)), (4, .int (nI ib)), (5, .int (nI k)), (6, .int (nI (by2 f p))), (7, .int (nI a)), (8, .int (nI i8)), (9, .int (nI i9))], [.int (-1)], M1)) rfl rfl rfl ?_
          refine ps_if (S1 := (269, [(0, .ref m0), (1, .int (nI p))], [], M1)) (S2 := (220, [(10, .int (-1)), (0, .ref m0), (1, .int (nI p)), (2, .int (nI (by2 f pM))), (3, .int (nI f0)), (4, .int (nI ib)), (5, .int (nI k)), (6, .int (nI (by2 f p))), (7, .int (nI a)), (8, .int (nI i8)), (9, .int (nI i9))], [], M1)) rfl rfl rfl (fun c_217 => ?_) (fun c_217 => ?_)
          rotate_left
          · exact absurd (by decide) (of_decide_eq_false c_217)
          refine ps_st (S' := (270, [(0, .ref m0), (1, .int (nI p))], [.ref m0], M1)) rfl rfl rfl ?_
          refine ps_st (S' := (272, [(0, .ref m0), (1, .int (nI p))], [.int 25, .ref m0], M1)) rfl rfl rfl ?_
          refine ps_st (S' := (273, [(0, .ref m0), (1, .int (nI p))], [.int (nI p), .int 25, .ref m0], M1)) rfl rfl rfl ?_
          refine ps_st (S' := (274, [(0, .ref m0), (1, .int (nI p))], [.int 4, .int (nI p), .int 25, .ref m0], M1)) rfl rfl rfl ?_
          refine ps_st (S' := (275, [(0, .ref m0), (1, .int (nI p))], [.int ((nI p) + 4), .int 25, .ref m0], M1)) rfl rfl rfl ?_
          rw [nI_add1 (p := p) (k := 4) (x := 4) rfl (by omega)]
          show pl _ _ _ (_, [(0, .ref m0), (1, .int (nI p))], [.int (nI (p + 4)), .int 25, .ref m0], M1) _
          refine pl_call (a := [.ref m0, .int 25, .int (nI (p + 4))]) (rest := []) rfl rfl rfl (rd_wrong (x1 := 25) (x2 := (nI (p + 4))) hR1) (fun v196 M197 q198 => ?_)
          obtain ⟨I199, R200, rfl, hR201, hI202, hX203, hi204, hi205⟩ := q198
          have hi206 := (hI202 51 (by decide)).trans hl51
          have hi207 := (hI202 52 (by decide)).trans hl52
          have hi208 := (hI202 53 (by decide)).trans hl53
          have hi209 := (hI202 58 (by decide)).trans hl58
          have hi210 := (hI202 56 (by decide)).trans hl56
          have hi211 := (hI202 26 (by decide)).trans hl26
          have hi212 := (hI202 9 (by decide)).trans hl9
          have hi213 := (hI202 10 (by decide)).trans hl10
          have hF_214 := hF1.mono (cIx hI202 (by decide)) (cRx hX203 (by decide))
          have hY_215 := hY1.mono (cIx hI202 (by decide)) (cRx hX203 (by decide))
          have hP_216 := hP1.mono (cIx hI202 (by decide)) (cRx hX203 (by decide))
          have hK_217 := hK1.mono (cIx hI202 (by decide)) (cRx hX203 (by decide))
          have hN9_218 := hN91.mono (cIx hI202 (by decide)) (cRx hX203 (by decide))
          have hQ_219 := hQ1.mono (cIx hI202 (by decide)) (cRx hX203 (by decide))
          have hEI220 := hEI1.tr hI202 (by decide)
          have hER221 := hER1.tr hX203 (by decide)
          show pl _ _ _ (278, [(0, .ref m0), (1, .int (nI p))], [.int 0], M197) _
          exact ps_ret rfl rfl (Or.inr ⟨(25, p + 4), I199, R200, by
              have h25 : mdsN f n E (by2 f (p + 2)) (by2 f (p + 4)) (apN f n E p) = 0 := by
                have m0_ := mds_0 (f := f) (n := n) (E := E) (x := by2 f (p + 2)) (d := by2 f (p + 4)) (w := apN f n E p)
                have a0_ := ap_9 (f := f) (n := n) (E := E) (p := p)
                exact m0_.mpr (Or.inl (by rw [tx_no (by omega)]; decide))
              rw [← hs, mtS_st (i := k) (by omega), ← hpk, mh_25 hnm hfl h25], rfl, hR201, hEI220, hER221, hi204, hi205⟩)
        · have c_195 : ¬ (¬ (nI (tg f E (by2 f (p + 4)))) = 1) := of_decide_eq_false c_195
          have n_195 : tg f E (by2 f (p + 4)) = 1 := (eq_nI (p := tg f E (by2 f (p + 4))) (n := 1) (Nat.lt_trans (tg_lt _ _ _) (by decide)) (by decide)).mp (Decidable.not_not.mp c_195)
          refine ps_st (S' := (199, [(0, .ref m0), (1, .int (nI p)), (2, .int (nI (by2 f pM))), (3, .int (nI f0)), (4, .int (nI ib)), (5, .int (nI k)), (6, .int (nI (by2 f p))), (7, .int (nI a)), (8, .int (nI i8)), (9, .int (nI i9))], [.ref m0], M1)) rfl rfl rfl ?_
          refine ps_st (S' := (200, [(0, .ref m0), (1, .int (nI p)), (2, .int (nI (by2 f pM))), (3, .int (nI f0)), (4, .int (nI ib)), (5, .int (nI k)), (6, .int (nI (by2 f p))), (7, .int (nI a)), (8, .int (nI i8)), (9, .int (nI i9))], [.ref m0, .ref m0], M1)) rfl rfl rfl ?_
          refine ps_st (S' := (201, [(0, .ref m0), (1, .int (nI p)), (2, .int (nI (by2 f pM))), (3, .int (nI f0)), (4, .int (nI ib)), (5, .int (nI k)), (6, .int (nI (by2 f p))), (7, .int (nI a)), (8, .int (nI i8)), (9, .int (nI i9))], [.int (nI p), .ref m0, .ref m0], M1)) rfl rfl rfl ?_
          refine ps_st (S' := (202, [(0, .ref m0), (1, .int (nI p)), (2, .int (nI (by2 f pM))), (3, .int (nI f0)), (4, .int (nI ib)), (5, .int (nI k)), (6, .int (nI (by2 f p))), (7, .int (nI a)), (8, .int (nI i8)), (9, .int (nI i9))], [.int 4, .int (nI p), .ref m0, .ref m0], M1)) rfl rfl rfl ?_
          refine ps_st (S' := (203, [(0, .ref m0), (1, .int (nI p)), (2, .int (nI (by2 f pM))), (3, .int (nI f0)), (4, .int (nI ib)), (5, .int (nI k)), (6, .int (nI (by2 f p))), (7, .int (nI a)), (8, .int (nI i8)), (9, .int (nI i9))], [.int ((nI p) + 4), .ref m0, .ref m0], M1)) rfl rfl rfl ?_
          rw [nI_add1 (p := p) (k := 4) (x := 4) rfl (by omega)]
          show pl _ _ _ (_, [(0, .ref m0), (1, .int (nI p)), (2, .int (nI (by2 f pM))), (3, .int (nI f0)), (4, .int (nI ib)), (5, .int (nI k)), (6, .int (nI (by2 f p))), (7, .int (nI a)), (8, .int (nI i8)), (9, .int (nI i9))], [.int (nI (p + 4)), .ref m0, .ref m0], M1) _
          refine pl_call (a := [.ref m0, .int (nI (p + 4))]) (rest := [.ref m0]) rfl rfl rfl (rd_u2 (n := n) (f := f) (p := (p + 4)) hR1 hF1 (by omega)) (fun v222 M223 q224 => ?_)
          obtain ⟨rfl, rfl⟩ := q224
          show pl _ _ _ (206, [(0, .ref m0), (1, .int (nI p)), (2, .int (nI (by2 f pM))), (3, .int (nI f0)), (4, .int (nI ib)), (5, .int (nI k)), (6, .int (nI (by2 f p))), (7, .int (nI a)), (8, .int (nI i8)), (9, .int (nI i9))], [.int (nI (by2 f (p + 4))), .ref m0], M1) _
          have hu_203 := by2_lt f (p + 4)
          refine pl_call (a := [.ref m0, .int (nI (by2 f (p + 4)))]) (rest := []) rfl rfl rfl (rd_symOf (n := n) (f := f) (tx := tx) (cN := cN) (A := A) (N := N) (mj := mj) (E := E) (k := (by2 f (p + 4))) hR1 hl51 hl52 hl53 hF1 hY1 hP1 (hEP) (hN) (hmj) (by omega)) (fun v225 M226 q227 => ?_)
          obtain ⟨s228, q206_s, rfl, rfl⟩ := q227
          show pl _ _ _ (209, [(0, .ref m0), (1, .int (nI p)), (2, .int (nI (by2 f pM))), (3, .int (nI f0)), (4, .int (nI ib)), (5, .int (nI k)), (6, .int (nI (by2 f p))), (7, .int (nI a)), (8, .int (nI i8)), (9, .int (nI i9))], [.int (nI s228)], M1) _
          have hsl_206 := q206_s.1
          have htl_206 := hY1.1.2.2.1
          refine ps_st (S' := (213, [(0, .ref m0), (1, .int (nI p)), (2, .int (nI (by2 f pM))), (3, .int (nI f0)), (4, .int (nI ib)), (5, .int (nI k)), (6, .int (nI (by2 f p))), (7, .int (nI a)), (8, .int (nI i8)), (9, .int (nI i9))], [.int (nI s228)], M1)) rfl rfl rfl ?_
          refine ps_st (S' := (215, [(10, .int (nI s228)), (0, .ref m0), (1, .int (nI p)), (2, .int (nI (by2 f pM))), (3, .int (nI f0)), (4, .int (nI ib)), (5, .int (nI k)), (6, .int (nI (by2 f p))), (7, .int (nI a)), (8, .int (nI i8)), (9, .int (nI i9))], [], M1)) rfl rfl rfl ?_
          refine ps_st (S' := (217, [(10, .int (nI s228)), (0, .ref m0), (1, .int (nI p)), (2, .int (nI (by2 f pM))), (3, .int (nI f0)), (4, .int (nI ib)), (5, .int (nI k)), (6, .int (nI (by2 f p))), (7, .int (nI a)), (8, .int (nI i8)), (9, .int (nI i9))], [.int (nI s228)], M1)) rfl rfl rfl ?_
          refine ps_if (S1 := (269, [(0, .ref m0), (1, .int (nI p))], [], M1)) (S2 := (220, [(10, .int (nI s228)), (0, .ref m0), (1, .int (nI p)), (2, .int (nI (by2 f pM))), (3, .int (nI f0)), (4, .int (nI ib)), (5, .int (nI k)), (6, .int (nI (by2 f p))), (7, .int (nI a)), (8, .int (nI i8)), (9, .int (nI i9))], [], M1)) rfl rfl rfl (fun c_217 => ?_) (fun c_217 => ?_)
          · exact absurd (of_decide_eq_true c_217) (show ¬ ((nI s228) < 0) from fun h9 => absurd ((lt_nI (p := s228) (n := 0) (by omega) (by decide)).mp h9) (by omega))
          refine ps_st (S' := (221, [(10, .int (nI s228)), (0, .ref m0), (1, .int (nI p)), (2, .int (nI (by2 f pM))), (3, .int (nI f0)), (4, .int (nI ib)), (5, .int (nI k)), (6, .int (nI (by2 f p))), (7, .int (nI a)), (8, .int (nI i8)), (9, .int (nI i9))], [.ref m0], M1)) rfl rfl rfl ?_
          refine ps_st (S' := (223, [(10, .int (nI s228)), (0, .ref m0), (1, .int (nI p)), (2, .int (nI (by2 f pM))), (3, .int (nI f0)), (4, .int (nI ib)), (5, .int (nI k)), (6, .int (nI (by2 f p))), (7, .int (nI a)), (8, .int (nI i8)), (9, .int (nI i9))], [.int (nI s228), .ref m0], M1)) rfl rfl rfl ?_
          refine pl_call (a := [.ref m0, .int (nI s228)]) (rest := []) rfl rfl rfl (rd_isMethod (tx := tx) (cN := cN) (A := A) (s := s228) (l := (tX f n E (by2 f (p + 4)))) hR1 hY1 (q206_s)) (fun v229 M230 q231 => ?_)
          obtain ⟨rfl, rfl⟩ := q231
          show pl _ _ _ (226, [(10, .int (nI s228)), (0, .ref m0), (1, .int (nI p)), (2, .int (nI (by2 f pM))), (3, .int (nI f0)), (4, .int (nI ib)), (5, .int (nI k)), (6, .int (nI (by2 f p))), (7, .int (nI a)), (8, .int (nI i8)), (9, .int (nI i9))], [.int (nI (mthN (tX f n E (by2 f (p + 4)))))], M1) _
          refine ps_if (S1 := (269, [(0, .ref m0), (1, .int (nI p))], [], M1)) (S2 := (229, [(10, .int (nI s228)), (0, .ref m0), (1, .int (nI p)), (2, .int (nI (by2 f pM))), (3, .int (nI f0)), (4, .int (nI ib)), (5, .int (nI k)), (6, .int (nI (by2 f p))), (7, .int (nI a)), (8, .int (nI i8)), (9, .int (nI i9))], [], M1)) rfl rfl rfl (fun c_226 => ?_) (fun c_226 => ?_)
          · have c_226 : (nI (mthN (tX f n E (by2 f (p + 4))))) = 0 := of_decide_eq_true c_226
            have n_226 : mthN (tX f n E (by2 f (p + 4))) = 0 := (eq_nI (p := mthN (tX f n E (by2 f (p + 4)))) (n := 0) (Nat.lt_trans (le1_mth _) (by decide)) (by decide)).mp c_226
            refine ps_st (S' := (270, [(0, .ref m0), (1, .int (nI p))], [.ref m0], M1)) rfl rfl rfl ?_
            refine ps_st (S' := (272, [(0, .ref m0), (1, .int (nI p))], [.int 25, .ref m0], M1)) rfl rfl rfl ?_
            refine ps_st (S' := (273, [(0, .ref m0), (1, .int (nI p))], [.int (nI p), .int 25, .ref m0], M1)) rfl rfl rfl ?_
            refine ps_st (S' := (274, [(0, .ref m0), (1, .int (nI p))], [.int 4, .int (nI p), .int 25, .ref m0], M1)) rfl rfl rfl ?_
            refine ps_st (S' := (275, [(0, .ref m0), (1, .int (nI p))], [.int ((nI p) + 4), .int 25, .ref m0], M1)) rfl rfl rfl ?_
            rw [nI_add1 (p := p) (k := 4) (x := 4) rfl (by omega)]
            show pl _ _ _ (_, [(0, .ref m0), (1, .int (nI p))], [.int (nI (p + 4)), .int 25, .ref m0], M1) _
            refine pl_call (a := [.ref m0, .int 25, .int (nI (p + 4))]) (rest := []) rfl rfl rfl (rd_wrong (x1 := 25) (x2 := (nI (p + 4))) hR1) (fun v232 M233 q234 => ?_)
            obtain ⟨I235, R236, rfl, hR237, hI238, hX239, hi240, hi241⟩ := q234
            have hi242 := (hI238 51 (by decide)).trans hl51
            have hi243 := (hI238 52 (by decide)).trans hl52
            have hi244 := (hI238 53 (by decide)).trans hl53
            have hi245 := (hI238 58 (by decide)).trans hl58
            have hi246 := (hI238 56 (by decide)).trans hl56
            have hi247 := (hI238 26 (by decide)).trans hl26
            have hi248 := (hI238 9 (by decide)).trans hl9
            have hi249 := (hI238 10 (by decide)).trans hl10
            have hF_250 := hF1.mono (cIx hI238 (by decide)) (cRx hX239 (by decide))
            have hY_251 := hY1.mono (cIx hI238 (by decide)) (cRx hX239 (by decide))
            have hP_252 := hP1.mono (cIx hI238 (by decide)) (cRx hX239 (by decide))
            have hK_253 := hK1.mono (cIx hI238 (by decide)) (cRx hX239 (by decide))
            have hN9_254 := hN91.mono (cIx hI238 (by decide)) (cRx hX239 (by decide))
            have hQ_255 := hQ1.mono (cIx hI238 (by decide)) (cRx hX239 (by decide))
            have hEI256 := hEI1.tr hI238 (by decide)
            have hER257 := hER1.tr hX239 (by decide)
            show pl _ _ _ (278, [(0, .ref m0), (1, .int (nI p))], [.int 0], M233) _
            exact ps_ret rfl rfl (Or.inr ⟨(25, p + 4), I235, R236, by
                have h25 : mdsN f n E (by2 f (p + 2)) (by2 f (p + 4)) (apN f n E p) = 0 := by
                  have m0_ := mds_0 (f := f) (n := n) (E := E) (x := by2 f (p + 2)) (d := by2 f (p + 4)) (w := apN f n E p)
                  have a0_ := ap_9 (f := f) (n := n) (E := E) (p := p)
                  omega
                rw [← hs, mtS_st (i := k) (by omega), ← hpk, mh_25 hnm hfl h25], rfl, hR237, hEI256, hER257, hi240, hi241⟩)
          · have c_226 : ¬ ((nI (mthN (tX f n E (by2 f (p + 4))))) = 0) := of_decide_eq_false c_226
            have n_226 : ¬ (mthN (tX f n E (by2 f (p + 4))) = 0) := fun h9 => c_226 ((eq_nI (p := mthN (tX f n E (by2 f (p + 4)))) (n := 0) (Nat.lt_trans (le1_mth _) (by decide)) (by decide)).mpr h9)
            refine ps_st (S' := (231, [(10, .int (nI s228)), (0, .ref m0), (1, .int (nI p)), (2, .int (nI (by2 f pM))), (3, .int (nI f0)), (4, .int (nI ib)), (5, .int (nI k)), (6, .int (nI (by2 f p))), (7, .int (nI a)), (8, .int (nI i8)), (9, .int (nI i9))], [.int (nI i8)], M1)) rfl rfl rfl ?_
            refine ps_if (S1 := (243, [(0, .ref m0), (1, .int (nI p)), (2, .int (nI (by2 f pM))), (3, .int (nI f0)), (4, .int (nI ib)), (5, .int (nI k)), (6, .int (nI (by2 f p))), (7, .int (nI a)), (9, .int (nI i9)), (10, .int (nI s228))], [], M1)) (S2 := (234, [(10, .int (nI s228)), (0, .ref m0), (1, .int (nI p)), (2, .int (nI (by2 f pM))), (3, .int (nI f0)), (4, .int (nI ib)), (5, .int (nI k)), (6, .int (nI (by2 f p))), (7, .int (nI a)), (8, .int (nI i8)), (9, .int (nI i9))], [], M1)) rfl rfl rfl (fun c_231 => ?_) (fun c_231 => ?_)
            · have c_231 : (nI i8) = 0 := of_decide_eq_true c_231
              have n_231 : i8 = 0 := (eq_nI (p := i8) (n := 0) (by omega) (by decide)).mp c_231
              refine ps_st (S' := (244, [(0, .ref m0), (1, .int (nI p)), (2, .int (nI (by2 f pM))), (3, .int (nI f0)), (4, .int (nI ib)), (5, .int (nI k)), (6, .int (nI (by2 f p))), (7, .int (nI a)), (9, .int (nI i9)), (10, .int (nI s228))], [.ref m0], M1)) rfl rfl rfl ?_
              refine ps_st (S' := (246, [(0, .ref m0), (1, .int (nI p)), (2, .int (nI (by2 f pM))), (3, .int (nI f0)), (4, .int (nI ib)), (5, .int (nI k)), (6, .int (nI (by2 f p))), (7, .int (nI a)), (9, .int (nI i9)), (10, .int (nI s228))], [.int (nI s228), .ref m0], M1)) rfl rfl rfl ?_
              obtain ⟨-, -, k_246, W_246, hq1_246, hq2_246, hq3_246, hq4_246, hq5_246, hq6_246, -⟩ := mth_in (l := (tX f n E (by2 f (p + 4)))) (by omega)
              refine pl_call (a := [.ref m0, .int (nI s228)]) (rest := []) rfl rfl rfl (rd_places0 (tx := tx) (cN := cN) (A := A) (s := s228) (l := (tX f n E (by2 f (p + 4)))) (k0 := k_246) (W := W_246) hR1 hY1 (q206_s) (hq1_246) (⟨by omega, hq5_246⟩)) (fun v258 M259 q260 => ?_)
              obtain ⟨rfl, rfl⟩ := q260
              show pl _ _ _ (249, [(0, .ref m0), (1, .int (nI p)), (2, .int (nI (by2 f pM))), (3, .int (nI f0)), (4, .int (nI ib)), (5, .int (nI k)), (6, .int (nI (by2 f p))), (7, .int (nI a)), (9, .int (nI i9)), (10, .int (nI s228))], [.int (nI (W_246))], M1) _
              rw [← hq6_246]
              show pl _ _ _ (_, [(0, .ref m0), (1, .int (nI p)), (2, .int (nI (by2 f pM))), (3, .int (nI f0)), (4, .int (nI ib)), (5, .int (nI k)), (6, .int (nI (by2 f p))), (7, .int (nI a)), (9, .int (nI i9)), (10, .int (nI s228))], [.int (nI (argN (tX f n E (by2 f (p + 4)))))], M1) _
              have hal_246 := argN_lt (tX f n E (by2 f (p + 4)))
              refine ps_st (S' := (251, [(0, .ref m0), (1, .int (nI p)), (2, .int (nI (by2 f pM))), (3, .int (nI f0)), (4, .int (nI ib)), (5, .int (nI k)), (6, .int (nI (by2 f p))), (7, .int (nI a)), (9, .int (nI i9)), (10, .int (nI s228))], [.int (nI (by2 f p)), .int (nI (argN (tX f n E (by2 f (p + 4)))))], M1)) rfl rfl rfl ?_
              refine ps_st (S' := (253, [(0, .ref m0), (1, .int (nI p)), (2, .int (nI (by2 f pM))), (3, .int (nI f0)), (4, .int (nI ib)), (5, .int (nI k)), (6, .int (nI (by2 f p))), (7, .int (nI a)), (9, .int (nI i9)), (10, .int (nI s228))], [.int 8, .int (nI (by2 f p)), .int (nI (argN (tX f n E (by2 f (p + 4)))))], M1)) rfl rfl rfl ?_
              refine ps_st (S' := (254, [(0, .ref m0), (1, .int (nI p)), (2, .int (nI (by2 f pM))), (3, .int (nI f0)), (4, .int (nI ib)), (5, .int (nI k)), (6, .int (nI (by2 f p))), (7, .int (nI a)), (9, .int (nI i9)), (10, .int (nI s228))], [.int ((nI (by2 f p)) &&& 8), .int (nI (argN (tX f n E (by2 f (p + 4)))))], M1)) rfl rfl rfl ?_
              rw [nI_an (p := by2 f p) (k := 8) (x := 8) rfl]
              show pl _ _ _ (_, [(0, .ref m0), (1, .int (nI p)), (2, .int (nI (by2 f pM))), (3, .int (nI f0)), (4, .int (nI ib)), (5, .int (nI k)), (6, .int (nI (by2 f p))), (7, .int (nI a)), (9, .int (nI i9)), (10, .int (nI s228))], [.int (nI (aN (by2 f p) 8)), .int (nI (argN (tX f n E (by2 f (p + 4)))))], M1) _
              refine ps_if (S1 := (261, [(0, .ref m0), (1, .int (nI p)), (2, .int (nI (by2 f pM))), (3, .int (nI f0)), (4, .int (nI ib)), (5, .int (nI k)), (6, .int (nI (by2 f p))), (7, .int (nI a)), (9, .int (nI i9)), (10, .int (nI s228))], [.int (nI (argN (tX f n E (by2 f (p + 4)))))], M1)) (S2 := (257, [(0, .ref m0), (1, .int (nI p)), (2, .int (nI (by2 f pM))), (3, .int (nI f0)), (4, .int (nI ib)), (5, .int (nI k)), (6, .int (nI (by2 f p))), (7, .int (nI a)), (9, .int (nI i9)), (10, .int (nI s228))], [.int (nI (argN (tX f n E (by2 f (p + 4)))))], M1)) rfl rfl rfl (fun c_254 => ?_) (fun c_254 => ?_)
              · have c_254 : ¬ (nI (aN (by2 f p) 8)) = 0 := of_decide_eq_true c_254
                have n_254 : ¬ (aN (by2 f p) 8 = 0) := fun h9 => c_254 ((eq_nI (p := aN (by2 f p) 8) (n := 0) (Nat.lt_of_le_of_lt (an_le _ _) (by decide)) (by decide)).mpr h9)
                refine ps_st (S' := (262, [(0, .ref m0), (1, .int (nI p)), (2, .int (nI (by2 f pM))), (3, .int (nI f0)), (4, .int (nI ib)), (5, .int (nI k)), (6, .int (nI (by2 f p))), (7, .int (nI a)), (9, .int (nI i9)), (10, .int (nI s228))], [.int 0, .int (nI (argN (tX f n E (by2 f (p + 4)))))], M1)) rfl rfl rfl ?_
                refine ps_st (S' := (263, [(0, .ref m0), (1, .int (nI p)), (2, .int (nI (by2 f pM))), (3, .int (nI f0)), (4, .int (nI ib)), (5, .int (nI k)), (6, .int (nI (by2 f p))), (7, .int (nI a)), (9, .int (nI i9)), (10, .int (nI s228))], [.int ((nI (argN (tX f n E (by2 f (p + 4))))) + 0)], M1)) rfl rfl rfl ?_
                rw [nI_add1 (p := argN (tX f n E (by2 f (p + 4)))) (k := 0) (x := 0) rfl (by omega)]
                show pl _ _ _ (_, [(0, .ref m0), (1, .int (nI p)), (2, .int (nI (by2 f pM))), (3, .int (nI f0)), (4, .int (nI ib)), (5, .int (nI k)), (6, .int (nI (by2 f p))), (7, .int (nI a)), (9, .int (nI i9)), (10, .int (nI s228))], [.int (nI (argN (tX f n E (by2 f (p + 4))) + 0))], M1) _
                refine ps_st (S' := (266, [(0, .ref m0), (1, .int (nI p)), (2, .int (nI (by2 f pM))), (3, .int (nI f0)), (4, .int (nI ib)), (5, .int (nI k)), (6, .int (nI (by2 f p))), (7, .int (nI a)), (9, .int (nI i9)), (10, .int (nI s228))], [.int 255, .int (nI (argN (tX f n E (by2 f (p + 4))) + 0))], M1)) rfl rfl rfl ?_
                refine ps_if2 (S1 := (279, [(0, .ref m0), (1, .int (nI p)), (2, .int (nI (by2 f pM))), (3, .int (nI f0)), (4, .int (nI ib)), (5, .int (nI k)), (6, .int (nI (by2 f p))), (7, .int (nI a)), (9, .int (nI i9)), (10, .int (nI s228))], [], M1)) (S2 := (269, [(0, .ref m0), (1, .int (nI p))], [], M1)) rfl rfl rfl (fun c_266 => ?_) (fun c_266 => ?_)
                · have c_266 : (nI (argN (tX f n E (by2 f (p + 4))) + 0)) ≤ 255 := of_decide_eq_true c_266
                  have n_266 : argN (tX f n E (by2 f (p + 4))) + 0 ≤ 255 := (le_nI (p := argN (tX f n E (by2 f (p + 4))) + 0) (n := 255) (by omega) (by decide)).mp c_266
                  have hds : ¬ mdsN f n E (by2 f (p + 2)) (by2 f (p + 4)) (apN f n E p) = 0 := by
                    have m0_ := mds_0 (f := f) (n := n) (E := E) (x := by2 f (p + 2)) (d := by2 f (p + 4)) (w := apN f n E p)
                    have a0_ := ap_9 (f := f) (n := n) (E := E) (p := p)
                    omega
                  exact ih.2.2.1 (k) (p) (ib) (a) (i9) (s228) M1 I1 R1 hR1 hEI1 hER1 hl51 hl52 hl53 hl58 hl56 hl26 hl9 hl10 hF1 hY1 hP1 hK1 hN91 hQ1 (hk0) (hpk) (hpe) (hs) (hib) (hsa) (ht1) (hnm) (hfl) (h9c) (q206_s) (by omega) (by omega) (hds)
                · have c_266 : ¬ ((nI (argN (tX f n E (by2 f (p + 4))) + 0)) ≤ 255) := of_decide_eq_false c_266
                  have n_266 : ¬ (argN (tX f n E (by2 f (p + 4))) + 0 ≤ 255) := fun h9 => c_266 ((le_nI (p := argN (tX f n E (by2 f (p + 4))) + 0) (n := 255) (by omega) (by decide)).mpr h9)
                  refine ps_st (S' := (270, [(0, .ref m0), (1, .int (nI p))], [.ref m0], M1)) rfl rfl rfl ?_
                  refine ps_st (S' := (272, [(0, .ref m0), (1, .int (nI p))], [.int 25, .ref m0], M1)) rfl rfl rfl ?_
                  refine ps_st (S' := (273, [(0, .ref m0), (1, .int (nI p))], [.int (nI p), .int 25, .ref m0], M1)) rfl rfl rfl ?_
                  refine ps_st (S' := (274, [(0, .ref m0), (1, .int (nI p))], [.int 4, .int (nI p), .int 25, .ref m0], M1)) rfl rfl rfl ?_
                  refine ps_st (S' := (275, [(0, .ref m0), (1, .int (nI p))], [.int ((nI p) + 4), .int 25, .ref m0], M1)) rfl rfl rfl ?_
                  rw [nI_add1 (p := p) (k := 4) (x := 4) rfl (by omega)]
                  show pl _ _ _ (_, [(0, .ref m0), (1, .int (nI p))], [.int (nI (p + 4)), .int 25, .ref m0], M1) _
                  refine pl_call (a := [.ref m0, .int 25, .int (nI (p + 4))]) (rest := []) rfl rfl rfl (rd_wrong (x1 := 25) (x2 := (nI (p + 4))) hR1) (fun v261 M262 q263 => ?_)
                  obtain ⟨I264, R265, rfl, hR266, hI267, hX268, hi269, hi270⟩ := q263
                  have hi271 := (hI267 51 (by decide)).trans hl51
                  have hi272 := (hI267 52 (by decide)).trans hl52
                  have hi273 := (hI267 53 (by decide)).trans hl53
                  have hi274 := (hI267 58 (by decide)).trans hl58
                  have hi275 := (hI267 56 (by decide)).trans hl56
                  have hi276 := (hI267 26 (by decide)).trans hl26
                  have hi277 := (hI267 9 (by decide)).trans hl9
                  have hi278 := (hI267 10 (by decide)).trans hl10
                  have hF_279 := hF1.mono (cIx hI267 (by decide)) (cRx hX268 (by decide))
                  have hY_280 := hY1.mono (cIx hI267 (by decide)) (cRx hX268 (by decide))
                  have hP_281 := hP1.mono (cIx hI267 (by decide)) (cRx hX268 (by decide))
                  have hK_282 := hK1.mono (cIx hI267 (by decide)) (cRx hX268 (by decide))
                  have hN9_283 := hN91.mono (cIx hI267 (by decide)) (cRx hX268 (by decide))
                  have hQ_284 := hQ1.mono (cIx hI267 (by decide)) (cRx hX268 (by decide))
                  have hEI285 := hEI1.tr hI267 (by decide)
                  have hER286 := hER1.tr hX268 (by decide)
                  show pl _ _ _ (278, [(0, .ref m0), (1, .int (nI p))], [.int 0], M262) _
                  exact ps_ret rfl rfl (Or.inr ⟨(25, p + 4), I264, R265, by
                      have h25 : mdsN f n E (by2 f (p + 2)) (by2 f (p + 4)) (apN f n E p) = 0 := by
                        have m0_ := mds_0 (f := f) (n := n) (E := E) (x := by2 f (p + 2)) (d := by2 f (p + 4)) (w := apN f n E p)
                        have a0_ := ap_9 (f := f) (n := n) (E := E) (p := p)
                        omega
                      rw [← hs, mtS_st (i := k) (by omega), ← hpk, mh_25 hnm hfl h25], rfl, hR266, hEI285, hER286, hi269, hi270⟩)
              · have c_254 : ¬ (¬ (nI (aN (by2 f p) 8)) = 0) := of_decide_eq_false c_254
                have n_254 : aN (by2 f p) 8 = 0 := (eq_nI (p := aN (by2 f p) 8) (n := 0) (Nat.lt_of_le_of_lt (an_le _ _) (by decide)) (by decide)).mp (Decidable.not_not.mp c_254)
                refine ps_st (S' := (258, [(0, .ref m0), (1, .int (nI p)), (2, .int (nI (by2 f pM))), (3, .int (nI f0)), (4, .int (nI ib)), (5, .int (nI k)), (6, .int (nI (by2 f p))), (7, .int (nI a)), (9, .int (nI i9)), (10, .int (nI s228))], [.int 1, .int (nI (argN (tX f n E (by2 f (p + 4)))))], M1)) rfl rfl rfl ?_
                refine ps_st (S' := (262, [(0, .ref m0), (1, .int (nI p)), (2, .int (nI (by2 f pM))), (3, .int (nI f0)), (4, .int (nI ib)), (5, .int (nI k)), (6, .int (nI (by2 f p))), (7, .int (nI a)), (9, .int (nI i9)), (10, .int (nI s228))], [.int 1, .int (nI (argN (tX f n E (by2 f (p + 4)))))], M1)) rfl rfl rfl ?_
                refine ps_st (S' := (263, [(0, .ref m0), (1, .int (nI p)), (2, .int (nI (by2 f pM))), (3, .int (nI f0)), (4, .int (nI ib)), (5, .int (nI k)), (6, .int (nI (by2 f p))), (7, .int (nI a)), (9, .int (nI i9)), (10, .int (nI s228))], [.int ((nI (argN (tX f n E (by2 f (p + 4))))) + 1)], M1)) rfl rfl rfl ?_
                rw [nI_add1 (p := argN (tX f n E (by2 f (p + 4)))) (k := 1) (x := 1) rfl (by omega)]
                show pl _ _ _ (_, [(0, .ref m0), (1, .int (nI p)), (2, .int (nI (by2 f pM))), (3, .int (nI f0)), (4, .int (nI ib)), (5, .int (nI k)), (6, .int (nI (by2 f p))), (7, .int (nI a)), (9, .int (nI i9)), (10, .int (nI s228))], [.int (nI (argN (tX f n E (by2 f (p + 4))) + 1))], M1) _
                refine ps_st (S' := (266, [(0, .ref m0), (1, .int (nI p)), (2, .int (nI (by2 f pM))), (3, .int (nI f0)), (4, .int (nI ib)), (5, .int (nI k)), (6, .int (nI (by2 f p))), (7, .int (nI a)), (9, .int (nI i9)), (10, .int (nI s228))], [.int 255, .int (nI (argN (tX f n E (by2 f (p + 4))) + 1))], M1)) rfl rfl rfl ?_
                refine ps_if2 (S1 := (279, [(0, .ref m0), (1, .int (nI p)), (2, .int (nI (by2 f pM))), (3, .int (nI f0)), (4, .int (nI ib)), (5, .int (nI k)), (6, .int (nI (by2 f p))), (7, .int (nI a)), (9, .int (nI i9)), (10, .int (nI s228))], [], M1)) (S2 := (269, [(0, .ref m0), (1, .int (nI p))], [], M1)) rfl rfl rfl (fun c_266 => ?_) (fun c_266 => ?_)
                · have c_266 : (nI (argN (tX f n E (by2 f (p + 4))) + 1)) ≤ 255 := of_decide_eq_true c_266
                  have n_266 : argN (tX f n E (by2 f (p + 4))) + 1 ≤ 255 := (le_nI (p := argN (tX f n E (by2 f (p + 4))) + 1) (n := 255) (by omega) (by decide)).mp c_266
                  have hds : ¬ mdsN f n E (by2 f (p + 2)) (by2 f (p + 4)) (apN f n E p) = 0 := by
                    have m0_ := mds_0 (f := f) (n := n) (E := E) (x := by2 f (p + 2)) (d := by2 f (p + 4)) (w := apN f n E p)
                    have a0_ := ap_9 (f := f) (n := n) (E := E) (p := p)
                    omega
                  exact ih.2.2.1 (k) (p) (ib) (a) (i9) (s228) M1 I1 R1 hR1 hEI1 hER1 hl51 hl52 hl53 hl58 hl56 hl26 hl9 hl10 hF1 hY1 hP1 hK1 hN91 hQ1 (hk0) (hpk) (hpe) (hs) (hib) (hsa) (ht1) (hnm) (hfl) (h9c) (q206_s) (by omega) (by omega) (hds)
                · have c_266 : ¬ ((nI (argN (tX f n E (by2 f (p + 4))) + 1)) ≤ 255) := of_decide_eq_false c_266
                  have n_266 : ¬ (argN (tX f n E (by2 f (p + 4))) + 1 ≤ 255) := fun h9 => c_266 ((le_nI (p := argN (tX f n E (by2 f (p + 4))) + 1) (n := 255) (by omega) (by decide)).mpr h9)
                  refine ps_st (S' := (270, [(0, .ref m0), (1, .int (nI p))], [.ref m0], M1)) rfl rfl rfl ?_
                  refine ps_st (S' := (272, [(0, .ref m0), (1, .int (nI p))], [.int 25, .ref m0], M1)) rfl rfl rfl ?_
                  refine ps_st (S' := (273, [(0, .ref m0), (1, .int (nI p))], [.int (nI p), .int 25, .ref m0], M1)) rfl rfl rfl ?_
                  refine ps_st (S' := (274, [(0, .ref m0), (1, .int (nI p))], [.int 4, .int (nI p), .int 25, .ref m0], M1)) rfl rfl rfl ?_
                  refine ps_st (S' := (275, [(0, .ref m0), (1, .int (nI p))], [.int ((nI p) + 4), .int 25, .ref m0], M1)) rfl rfl rfl ?_
                  rw [nI_add1 (p := p) (k := 4) (x := 4) rfl (by omega)]
                  show pl _ _ _ (_, [(0, .ref m0), (1, .int (nI p))], [.int (nI (p + 4)), .int 25, .ref m0], M1) _
                  refine pl_call (a := [.ref m0, .int 25, .int (nI (p + 4))]) (rest := []) rfl rfl rfl (rd_wrong (x1 := 25) (x2 := (nI (p + 4))) hR1) (fun v287 M288 q289 => ?_)
                  obtain ⟨I290, R291, rfl, hR292, hI293, hX294, hi295, hi296⟩ := q289
                  have hi297 := (hI293 51 (by decide)).trans hl51
                  have hi298 := (hI293 52 (by decide)).trans hl52
                  have hi299 := (hI293 53 (by decide)).trans hl53
                  have hi300 := (hI293 58 (by decide)).trans hl58
                  have hi301 := (hI293 56 (by decide)).trans hl56
                  have hi302 := (hI293 26 (by decide)).trans hl26
                  have hi303 := (hI293 9 (by decide)).trans hl9
                  have hi304 := (hI293 10 (by decide)).trans hl10
                  have hF_305 := hF1.mono (cIx hI293 (by decide)) (cRx hX294 (by decide))
                  have hY_306 := hY1.mono (cIx hI293 (by decide)) (cRx hX294 (by decide))
                  have hP_307 := hP1.mono (cIx hI293 (by decide)) (cRx hX294 (by decide))
                  have hK_308 := hK1.mono (cIx hI293 (by decide)) (cRx hX294 (by decide))
                  have hN9_309 := hN91.mono (cIx hI293 (by decide)) (cRx hX294 (by decide))
                  have hQ_310 := hQ1.mono (cIx hI293 (by decide)) (cRx hX294 (by decide))
                  have hEI311 := hEI1.tr hI293 (by decide)
                  have hER312 := hER1.tr hX294 (by decide)
                  show pl _ _ _ (278, [(0, .ref m0), (1, .int (nI p))], [.int 0], M288) _
                  exact ps_ret rfl rfl (Or.inr ⟨(25, p + 4), I290, R291, by
                      have h25 : mdsN f n E (by2 f (p + 2)) (by2 f (p + 4)) (apN f n E p) = 0 := by
                        have m0_ := mds_0 (f := f) (n := n) (E := E) (x := by2 f (p + 2)) (d := by2 f (p + 4)) (w := apN f n E p)
                        have a0_ := ap_9 (f := f) (n := n) (E := E) (p := p)
                        omega
                      rw [← hs, mtS_st (i := k) (by omega), ← hpk, mh_25 hnm hfl h25], rfl, hR292, hEI311, hER312, hi295, hi296⟩)
            · have c_231 : ¬ ((nI i8) = 0) := of_decide_eq_false c_231
              have n_231 : ¬ (i8 = 0) := fun h9 => c_231 ((eq_nI (p := i8) (n := 0) (by omega) (by decide)).mpr h9)
              refine ps_st (S' := (235, [(10, .int (nI s228)), (0, .ref m0), (1, .int (nI p)), (2, .int (nI (by2 f pM))), (3, .int (nI f0)), (4, .int (nI ib)), (5, .int (nI k)), (6, .int (nI (by2 f p))), (7, .int (nI a)), (8, .int (nI i8)), (9, .int (nI i9))], [.ref m0], M1)) rfl rfl rfl ?_
              refine ps_st (S' := (237, [(10, .int (nI s228)), (0, .ref m0), (1, .int (nI p)), (2, .int (nI (by2 f pM))), (3, .int (nI f0)), (4, .int (nI ib)), (5, .int (nI k)), (6, .int (nI (by2 f p))), (7, .int (nI a)), (8, .int (nI i8)), (9, .int (nI i9))], [.int (nI s228), .ref m0], M1)) rfl rfl rfl ?_
              refine pl_call (a := [.ref m0, .int (nI s228)]) (rest := []) rfl rfl rfl (rd_endsV (tx := tx) (cN := cN) (A := A) (s := s228) (l := (tX f n E (by2 f (p + 4)))) hR1 hY1 (q206_s) (by omega)) (fun v313 M314 q315 => ?_)
              obtain ⟨rfl, rfl⟩ := q315
              show pl _ _ _ (240, [(10, .int (nI s228)), (0, .ref m0), (1, .int (nI p)), (2, .int (nI (by2 f pM))), (3, .int (nI f0)), (4, .int (nI ib)), (5, .int (nI k)), (6, .int (nI (by2 f p))), (7, .int (nI a)), (8, .int (nI i8)), (9, .int (nI i9))], [.int (nI (nresN (tX f n E (by2 f (p + 4)))))], M1) _
              refine ps_if (S1 := (269, [(0, .ref m0), (1, .int (nI p))], [], M1)) (S2 := (243, [(0, .ref m0), (1, .int (nI p)), (2, .int (nI (by2 f pM))), (3, .int (nI f0)), (4, .int (nI ib)), (5, .int (nI k)), (6, .int (nI (by2 f p))), (7, .int (nI a)), (9, .int (nI i9)), (10, .int (nI s228))], [], M1)) rfl rfl rfl (fun c_240 => ?_) (fun c_240 => ?_)
              · have c_240 : (nI (nresN (tX f n E (by2 f (p + 4))))) = 0 := of_decide_eq_true c_240
                have n_240 : nresN (tX f n E (by2 f (p + 4))) = 0 := (eq_nI (p := nresN (tX f n E (by2 f (p + 4)))) (n := 0) (Nat.lt_trans (le1_nres _) (by decide)) (by decide)).mp c_240
                refine ps_st (S' := (270, [(0, .ref m0), (1, .int (nI p))], [.ref m0], M1)) rfl rfl rfl ?_
                refine ps_st (S' := (272, [(0, .ref m0), (1, .int (nI p))], [.int 25, .ref m0], M1)) rfl rfl rfl ?_
                refine ps_st (S' := (273, [(0, .ref m0), (1, .int (nI p))], [.int (nI p), .int 25, .ref m0], M1)) rfl rfl rfl ?_
                refine ps_st (S' := (274, [(0, .ref m0), (1, .int (nI p))], [.int 4, .int (nI p), .int 25, .ref m0], M1)) rfl rfl rfl ?_
                refine ps_st (S' := (275, [(0, .ref m0), (1, .int (nI p))], [.int ((nI p) + 4), .int 25, .ref m0], M1)) rfl rfl rfl ?_
                rw [nI_add1 (p := p) (k := 4) (x := 4) rfl (by omega)]
                show pl _ _ _ (_, [(0, .ref m0), (1, .int (nI p))], [.int (nI (p + 4)), .int 25, .ref m0], M1) _
                refine pl_call (a := [.ref m0, .int 25, .int (nI (p + 4))]) (rest := []) rfl rfl rfl (rd_wrong (x1 := 25) (x2 := (nI (p + 4))) hR1) (fun v316 M317 q318 => ?_)
                obtain ⟨I319, R320, rfl, hR321, hI322, hX323, hi324, hi325⟩ := q318
                have hi326 := (hI322 51 (by decide)).trans hl51
                have hi327 := (hI322 52 (by decide)).trans hl52
                have hi328 := (hI322 53 (by decide)).trans hl53
                have hi329 := (hI322 58 (by decide)).trans hl58
                have hi330 := (hI322 56 (by decide)).trans hl56
                have hi331 := (hI322 26 (by decide)).trans hl26
                have hi332 := (hI322 9 (by decide)).trans hl9
                have hi333 := (hI322 10 (by decide)).trans hl10
                have hF_334 := hF1.mono (cIx hI322 (by decide)) (cRx hX323 (by decide))
                have hY_335 := hY1.mono (cIx hI322 (by decide)) (cRx hX323 (by decide))
                have hP_336 := hP1.mono (cIx hI322 (by decide)) (cRx hX323 (by decide))
                have hK_337 := hK1.mono (cIx hI322 (by decide)) (cRx hX323 (by decide))
                have hN9_338 := hN91.mono (cIx hI322 (by decide)) (cRx hX323 (by decide))
                have hQ_339 := hQ1.mono (cIx hI322 (by decide)) (cRx hX323 (by decide))
                have hEI340 := hEI1.tr hI322 (by decide)
                have hER341 := hER1.tr hX323 (by decide)
                show pl _ _ _ (278, [(0, .ref m0), (1, .int (nI p))], [.int 0], M317) _
                exact ps_ret rfl rfl (Or.inr ⟨(25, p + 4), I319, R320, by
                    have h25 : mdsN f n E (by2 f (p + 2)) (by2 f (p + 4)) (apN f n E p) = 0 := by
                      have m0_ := mds_0 (f := f) (n := n) (E := E) (x := by2 f (p + 2)) (d := by2 f (p + 4)) (w := apN f n E p)
                      have a0_ := ap_9 (f := f) (n := n) (E := E) (p := p)
                      omega
                    rw [← hs, mtS_st (i := k) (by omega), ← hpk, mh_25 hnm hfl h25], rfl, hR321, hEI340, hER341, hi324, hi325⟩)
              · have c_240 : ¬ ((nI (nresN (tX f n E (by2 f (p + 4))))) = 0) := of_decide_eq_false c_240
                have n_240 : ¬ (nresN (tX f n E (by2 f (p + 4))) = 0) := fun h9 => c_240 ((eq_nI (p := nresN (tX f n E (by2 f (p + 4)))) (n := 0) (Nat.lt_trans (le1_nres _) (by decide)) (by decide)).mpr h9)
                refine ps_st (S' := (244, [(0, .ref m0), (1, .int (nI p)), (2, .int (nI (by2 f pM))), (3, .int (nI f0)), (4, .int (nI ib)), (5, .int (nI k)), (6, .int (nI (by2 f p))), (7, .int (nI a)), (9, .int (nI i9)), (10, .int (nI s228))], [.ref m0], M1)) rfl rfl rfl ?_
                refine ps_st (S' := (246, [(0, .ref m0), (1, .int (nI p)), (2, .int (nI (by2 f pM))), (3, .int (nI f0)), (4, .int (nI ib)), (5, .int (nI k)), (6, .int (nI (by2 f p))), (7, .int (nI a)), (9, .int (nI i9)), (10, .int (nI s228))], [.int (nI s228), .ref m0], M1)) rfl rfl rfl ?_
                obtain ⟨-, -, k_246, W_246, hq1_246, hq2_246, hq3_246, hq4_246, hq5_246, hq6_246, -⟩ := mth_in (l := (tX f n E (by2 f (p + 4)))) (by omega)
                refine pl_call (a := [.ref m0, .int (nI s228)]) (rest := []) rfl rfl rfl (rd_places0 (tx := tx) (cN := cN) (A := A) (s := s228) (l := (tX f n E (by2 f (p + 4)))) (k0 := k_246) (W := W_246) hR1 hY1 (q206_s) (hq1_246) (⟨by omega, hq5_246⟩)) (fun v342 M343 q344 => ?_)
                obtain ⟨rfl, rfl⟩ := q344
                show pl _ _ _ (249, [(0, .ref m0), (1, .int (nI p)), (2, .int (nI (by2 f pM))), (3, .int (nI f0)), (4, .int (nI ib)), (5, .int (nI k)), (6, .int (nI (by2 f p))), (7, .int (nI a)), (9, .int (nI i9)), (10, .int (nI s228))], [.int (nI (W_246))], M1) _
                rw [← hq6_246]
                show pl _ _ _ (_, [(0, .ref m0), (1, .int (nI p)), (2, .int (nI (by2 f pM))), (3, .int (nI f0)), (4, .int (nI ib)), (5, .int (nI k)), (6, .int (nI (by2 f p))), (7, .int (nI a)), (9, .int (nI i9)), (10, .int (nI s228))], [.int (nI (argN (tX f n E (by2 f (p + 4)))))], M1) _
                have hal_246 := argN_lt (tX f n E (by2 f (p + 4)))
                refine ps_st (S' := (251, [(0, .ref m0), (1, .int (nI p)), (2, .int (nI (by2 f pM))), (3, .int (nI f0)), (4, .int (nI ib)), (5, .int (nI k)), (6, .int (nI (by2 f p))), (7, .int (nI a)), (9, .int (nI i9)), (10, .int (nI s228))], [.int (nI (by2 f p)), .int (nI (argN (tX f n E (by2 f (p + 4)))))], M1)) rfl rfl rfl ?_
                refine ps_st (S' := (253, [(0, .ref m0), (1, .int (nI p)), (2, .int (nI (by2 f pM))), (3, .int (nI f0)), (4, .int (nI ib)), (5, .int (nI k)), (6, .int (nI (by2 f p))), (7, .int (nI a)), (9, .int (nI i9)), (10, .int (nI s228))], [.int 8, .int (nI (by2 f p)), .int (nI (argN (tX f n E (by2 f (p + 4)))))], M1)) rfl rfl rfl ?_
                refine ps_st (S' := (254, [(0, .ref m0), (1, .int (nI p)), (2, .int (nI (by2 f pM))), (3, .int (nI f0)), (4, .int (nI ib)), (5, .int (nI k)), (6, .int (nI (by2 f p))), (7, .int (nI a)), (9, .int (nI i9)), (10, .int (nI s228))], [.int ((nI (by2 f p)) &&& 8), .int (nI (argN (tX f n E (by2 f (p + 4)))))], M1)) rfl rfl rfl ?_
                rw [nI_an (p := by2 f p) (k := 8) (x := 8) rfl]
                show pl _ _ _ (_, [(0, .ref m0), (1, .int (nI p)), (2, .int (nI (by2 f pM))), (3, .int (nI f0)), (4, .int (nI ib)), (5, .int (nI k)), (6, .int (nI (by2 f p))), (7, .int (nI a)), (9, .int (nI i9)), (10, .int (nI s228))], [.int (nI (aN (by2 f p) 8)), .int (nI (argN (tX f n E (by2 f (p + 4)))))], M1) _
                refine ps_if (S1 := (261, [(0, .ref m0), (1, .int (nI p)), (2, .int (nI (by2 f pM))), (3, .int (nI f0)), (4, .int (nI ib)), (5, .int (nI k)), (6, .int (nI (by2 f p))), (7, .int (nI a)), (9, .int (nI i9)), (10, .int (nI s228))], [.int (nI (argN (tX f n E (by2 f (p + 4)))))], M1)) (S2 := (257, [(0, .ref m0), (1, .int (nI p)), (2, .int (nI (by2 f pM))), (3, .int (nI f0)), (4, .int (nI ib)), (5, .int (nI k)), (6, .int (nI (by2 f p))), (7, .int (nI a)), (9, .int (nI i9)), (10, .int (nI s228))], [.int (nI (argN (tX f n E (by2 f (p + 4)))))], M1)) rfl rfl rfl (fun c_254 => ?_) (fun c_254 => ?_)
                · have c_254 : ¬ (nI (aN (by2 f p) 8)) = 0 := of_decide_eq_true c_254
                  have n_254 : ¬ (aN (by2 f p) 8 = 0) := fun h9 => c_254 ((eq_nI (p := aN (by2 f p) 8) (n := 0) (Nat.lt_of_le_of_lt (an_le _ _) (by decide)) (by decide)).mpr h9)
                  refine ps_st (S' := (262, [(0, .ref m0), (1, .int (nI p)), (2, .int (nI (by2 f pM))), (3, .int (nI f0)), (4, .int (nI ib)), (5, .int (nI k)), (6, .int (nI (by2 f p))), (7, .int (nI a)), (9, .int (nI i9)), (10, .int (nI s228))], [.int 0, .int (nI (argN (tX f n E (by2 f (p + 4)))))], M1)) rfl rfl rfl ?_
                  refine ps_st (S' := (263, [(0, .ref m0), (1, .int (nI p)), (2, .int (nI (by2 f pM))), (3, .int (nI f0)), (4, .int (nI ib)), (5, .int (nI k)), (6, .int (nI (by2 f p))), (7, .int (nI a)), (9, .int (nI i9)), (10, .int (nI s228))], [.int ((nI (argN (tX f n E (by2 f (p + 4))))) + 0)], M1)) rfl rfl rfl ?_
                  rw [nI_add1 (p := argN (tX f n E (by2 f (p + 4)))) (k := 0) (x := 0) rfl (by omega)]
                  show pl _ _ _ (_, [(0, .ref m0), (1, .int (nI p)), (2, .int (nI (by2 f pM))), (3, .int (nI f0)), (4, .int (nI ib)), (5, .int (nI k)), (6, .int (nI (by2 f p))), (7, .int (nI a)), (9, .int (nI i9)), (10, .int (nI s228))], [.int (nI (argN (tX f n E (by2 f (p + 4))) + 0))], M1) _
                  refine ps_st (S' := (266, [(0, .ref m0), (1, .int (nI p)), (2, .int (nI (by2 f pM))), (3, .int (nI f0)), (4, .int (nI ib)), (5, .int (nI k)), (6, .int (nI (by2 f p))), (7, .int (nI a)), (9, .int (nI i9)), (10, .int (nI s228))], [.int 255, .int (nI (argN (tX f n E (by2 f (p + 4))) + 0))], M1)) rfl rfl rfl ?_
                  refine ps_if2 (S1 := (279, [(0, .ref m0), (1, .int (nI p)), (2, .int (nI (by2 f pM))), (3, .int (nI f0)), (4, .int (nI ib)), (5, .int (nI k)), (6, .int (nI (by2 f p))), (7, .int (nI a)), (9, .int (nI i9)), (10, .int (nI s228))], [], M1)) (S2 := (269, [(0, .ref m0), (1, .int (nI p))], [], M1)) rfl rfl rfl (fun c_266 => ?_) (fun c_266 => ?_)
                  · have c_266 : (nI (argN (tX f n E (by2 f (p + 4))) + 0)) ≤ 255 := of_decide_eq_true c_266
                    have n_266 : argN (tX f n E (by2 f (p + 4))) + 0 ≤ 255 := (le_nI (p := argN (tX f n E (by2 f (p + 4))) + 0) (n := 255) (by omega) (by decide)).mp c_266
                    have hds : ¬ mdsN f n E (by2 f (p + 2)) (by2 f (p + 4)) (apN f n E p) = 0 := by
                      have m0_ := mds_0 (f := f) (n := n) (E := E) (x := by2 f (p + 2)) (d := by2 f (p + 4)) (w := apN f n E p)
                      have a0_ := ap_9 (f := f) (n := n) (E := E) (p := p)
                      omega
                    exact ih.2.2.1 (k) (p) (ib) (a) (i9) (s228) M1 I1 R1 hR1 hEI1 hER1 hl51 hl52 hl53 hl58 hl56 hl26 hl9 hl10 hF1 hY1 hP1 hK1 hN91 hQ1 (hk0) (hpk) (hpe) (hs) (hib) (hsa) (ht1) (hnm) (hfl) (h9c) (q206_s) (by omega) (by omega) (hds)
                  · have c_266 : ¬ ((nI (argN (tX f n E (by2 f (p + 4))) + 0)) ≤ 255) := of_decide_eq_false c_266
                    have n_266 : ¬ (argN (tX f n E (by2 f (p + 4))) + 0 ≤ 255) := fun h9 => c_266 ((le_nI (p := argN (tX f n E (by2 f (p + 4))) + 0) (n := 255) (by omega) (by decide)).mpr h9)
                    refine ps_st (S' := (270, [(0, .ref m0), (1, .int (nI p))], [.ref m0], M1)) rfl rfl rfl ?_
                    refine ps_st (S' := (272, [(0, .ref m0), (1, .int (nI p))], [.int 25, .ref m0], M1)) rfl rfl rfl ?_
                    refine ps_st (S' := (273, [(0, .ref m0), (1, .int (nI p))], [.int (nI p), .int 25, .ref m0], M1)) rfl rfl rfl ?_
                    refine ps_st (S' := (274, [(0, .ref m0), (1, .int (nI p))], [.int 4, .int (nI p), .int 25, .ref m0], M1)) rfl rfl rfl ?_
                    refine ps_st (S' := (275, [(0, .ref m0), (1, .int (nI p))], [.int ((nI p) + 4), .int 25, .ref m0], M1)) rfl rfl rfl ?_
                    rw [nI_add1 (p := p) (k := 4) (x := 4) rfl (by omega)]
                    show pl _ _ _ (_, [(0, .ref m0), (1, .int (nI p))], [.int (nI (p + 4)), .int 25, .ref m0], M1) _
                    refine pl_call (a := [.ref m0, .int 25, .int (nI (p + 4))]) (rest := []) rfl rfl rfl (rd_wrong (x1 := 25) (x2 := (nI (p + 4))) hR1) (fun v345 M346 q347 => ?_)
                    obtain ⟨I348, R349, rfl, hR350, hI351, hX352, hi353, hi354⟩ := q347
                    have hi355 := (hI351 51 (by decide)).trans hl51
                    have hi356 := (hI351 52 (by decide)).trans hl52
                    have hi357 := (hI351 53 (by decide)).trans hl53
                    have hi358 := (hI351 58 (by decide)).trans hl58
                    have hi359 := (hI351 56 (by decide)).trans hl56
                    have hi360 := (hI351 26 (by decide)).trans hl26
                    have hi361 := (hI351 9 (by decide)).trans hl9
                    have hi362 := (hI351 10 (by decide)).trans hl10
                    have hF_363 := hF1.mono (cIx hI351 (by decide)) (cRx hX352 (by decide))
                    have hY_364 := hY1.mono (cIx hI351 (by decide)) (cRx hX352 (by decide))
                    have hP_365 := hP1.mono (cIx hI351 (by decide)) (cRx hX352 (by decide))
                    have hK_366 := hK1.mono (cIx hI351 (by decide)) (cRx hX352 (by decide))
                    have hN9_367 := hN91.mono (cIx hI351 (by decide)) (cRx hX352 (by decide))
                    have hQ_368 := hQ1.mono (cIx hI351 (by decide)) (cRx hX352 (by decide))
                    have hEI369 := hEI1.tr hI351 (by decide)
                    have hER370 := hER1.tr hX352 (by decide)
                    show pl _ _ _ (278, [(0, .ref m0), (1, .int (nI p))], [.int 0], M346) _
                    exact ps_ret rfl rfl (Or.inr ⟨(25, p + 4), I348, R349, by
                        have h25 : mdsN f n E (by2 f (p + 2)) (by2 f (p + 4)) (apN f n E p) = 0 := by
                          have m0_ := mds_0 (f := f) (n := n) (E := E) (x := by2 f (p + 2)) (d := by2 f (p + 4)) (w := apN f n E p)
                          have a0_ := ap_9 (f := f) (n := n) (E := E) (p := p)
                          omega
                        rw [← hs, mtS_st (i := k) (by omega), ← hpk, mh_25 hnm hfl h25], rfl, hR350, hEI369, hER370, hi353, hi354⟩)
                · have c_254 : ¬ (¬ (nI (aN (by2 f p) 8)) = 0) := of_decide_eq_false c_254
                  have n_254 : aN (by2 f p) 8 = 0 := (eq_nI (p := aN (by2 f p) 8) (n := 0) (Nat.lt_of_le_of_lt (an_le _ _) (by decide)) (by decide)).mp (Decidable.not_not.mp c_254)
                  refine ps_st (S' := (258, [(0, .ref m0), (1, .int (nI p)), (2, .int (nI (by2 f pM))), (3, .int (nI f0)), (4, .int (nI ib)), (5, .int (nI k)), (6, .int (nI (by2 f p))), (7, .int (nI a)), (9, .int (nI i9)), (10, .int (nI s228))], [.int 1, .int (nI (argN (tX f n E (by2 f (p + 4)))))], M1)) rfl rfl rfl ?_
                  refine ps_st (S' := (262, [(0, .ref m0), (1, .int (nI p)), (2, .int (nI (by2 f pM))), (3, .int (nI f0)), (4, .int (nI ib)), (5, .int (nI k)), (6, .int (nI (by2 f p))), (7, .int (nI a)), (9, .int (nI i9)), (10, .int (nI s228))], [.int 1, .int (nI (argN (tX f n E (by2 f (p + 4)))))], M1)) rfl rfl rfl ?_
                  refine ps_st (S' := (263, [(0, .ref m0), (1, .int (nI p)), (2, .int (nI (by2 f pM))), (3, .int (nI f0)), (4, .int (nI ib)), (5, .int (nI k)), (6, .int (nI (by2 f p))), (7, .int (nI a)), (9, .int (nI i9)), (10, .int (nI s228))], [.int ((nI (argN (tX f n E (by2 f (p + 4))))) + 1)], M1)) rfl rfl rfl ?_
                  rw [nI_add1 (p := argN (tX f n E (by2 f (p + 4)))) (k := 1) (x := 1) rfl (by omega)]
                  show pl _ _ _ (_, [(0, .ref m0), (1, .int (nI p)), (2, .int (nI (by2 f pM))), (3, .int (nI f0)), (4, .int (nI ib)), (5, .int (nI k)), (6, .int (nI (by2 f p))), (7, .int (nI a)), (9, .int (nI i9)), (10, .int (nI s228))], [.int (nI (argN (tX f n E (by2 f (p + 4))) + 1))], M1) _
                  refine ps_st (S' := (266, [(0, .ref m0), (1, .int (nI p)), (2, .int (nI (by2 f pM))), (3, .int (nI f0)), (4, .int (nI ib)), (5, .int (nI k)), (6, .int (nI (by2 f p))), (7, .int (nI a)), (9, .int (nI i9)), (10, .int (nI s228))], [.int 255, .int (nI (argN (tX f n E (by2 f (p + 4))) + 1))], M1)) rfl rfl rfl ?_
                  refine ps_if2 (S1 := (279, [(0, .ref m0), (1, .int (nI p)), (2, .int (nI (by2 f pM))), (3, .int (nI f0)), (4, .int (nI ib)), (5, .int (nI k)), (6, .int (nI (by2 f p))), (7, .int (nI a)), (9, .int (nI i9)), (10, .int (nI s228))], [], M1)) (S2 := (269, [(0, .ref m0), (1, .int (nI p))], [], M1)) rfl rfl rfl (fun c_266 => ?_) (fun c_266 => ?_)
                  · have c_266 : (nI (argN (tX f n E (by2 f (p + 4))) + 1)) ≤ 255 := of_decide_eq_true c_266
                    have n_266 : argN (tX f n E (by2 f (p + 4))) + 1 ≤ 255 := (le_nI (p := argN (tX f n E (by2 f (p + 4))) + 1) (n := 255) (by omega) (by decide)).mp c_266
                    have hds : ¬ mdsN f n E (by2 f (p + 2)) (by2 f (p + 4)) (apN f n E p) = 0 := by
                      have m0_ := mds_0 (f := f) (n := n) (E := E) (x := by2 f (p + 2)) (d := by2 f (p + 4)) (w := apN f n E p)
                      have a0_ := ap_9 (f := f) (n := n) (E := E) (p := p)
                      omega
                    exact ih.2.2.1 (k) (p) (ib) (a) (i9) (s228) M1 I1 R1 hR1 hEI1 hER1 hl51 hl52 hl53 hl58 hl56 hl26 hl9 hl10 hF1 hY1 hP1 hK1 hN91 hQ1 (hk0) (hpk) (hpe) (hs) (hib) (hsa) (ht1) (hnm) (hfl) (h9c) (q206_s) (by omega) (by omega) (hds)
                  · have c_266 : ¬ ((nI (argN (tX f n E (by2 f (p + 4))) + 1)) ≤ 255) := of_decide_eq_false c_266
                    have n_266 : ¬ (argN (tX f n E (by2 f (p + 4))) + 1 ≤ 255) := fun h9 => c_266 ((le_nI (p := argN (tX f n E (by2 f (p + 4))) + 1) (n := 255) (by omega) (by decide)).mpr h9)
                    refine ps_st (S' := (270, [(0, .ref m0), (1, .int (nI p))], [.ref m0], M1)) rfl rfl rfl ?_
                    refine ps_st (S' := (272, [(0, .ref m0), (1, .int (nI p))], [.int 25, .ref m0], M1)) rfl rfl rfl ?_
                    refine ps_st (S' := (273, [(0, .ref m0), (1, .int (nI p))], [.int (nI p), .int 25, .ref m0], M1)) rfl rfl rfl ?_
                    refine ps_st (S' := (274, [(0, .ref m0), (1, .int (nI p))], [.int 4, .int (nI p), .int 25, .ref m0], M1)) rfl rfl rfl ?_
                    refine ps_st (S' := (275, [(0, .ref m0), (1, .int (nI p))], [.int ((nI p) + 4), .int 25, .ref m0], M1)) rfl rfl rfl ?_
                    rw [nI_add1 (p := p) (k := 4) (x := 4) rfl (by omega)]
                    show pl _ _ _ (_, [(0, .ref m0), (1, .int (nI p))], [.int (nI (p + 4)), .int 25, .ref m0], M1) _
                    refine pl_call (a := [.ref m0, .int 25, .int (nI (p + 4))]) (rest := []) rfl rfl rfl (rd_wrong (x1 := 25) (x2 := (nI (p + 4))) hR1) (fun v371 M372 q373 => ?_)
                    obtain ⟨I374, R375, rfl, hR376, hI377, hX378, hi379, hi380⟩ := q373
                    have hi381 := (hI377 51 (by decide)).trans hl51
                    have hi382 := (hI377 52 (by decide)).trans hl52
                    have hi383 := (hI377 53 (by decide)).trans hl53
                    have hi384 := (hI377 58 (by decide)).trans hl58
                    have hi385 := (hI377 56 (by decide)).trans hl56
                    have hi386 := (hI377 26 (by decide)).trans hl26
                    have hi387 := (hI377 9 (by decide)).trans hl9
                    have hi388 := (hI377 10 (by decide)).trans hl10
                    have hF_389 := hF1.mono (cIx hI377 (by decide)) (cRx hX378 (by decide))
                    have hY_390 := hY1.mono (cIx hI377 (by decide)) (cRx hX378 (by decide))
                    have hP_391 := hP1.mono (cIx hI377 (by decide)) (cRx hX378 (by decide))
                    have hK_392 := hK1.mono (cIx hI377 (by decide)) (cRx hX378 (by decide))
                    have hN9_393 := hN91.mono (cIx hI377 (by decide)) (cRx hX378 (by decide))
                    have hQ_394 := hQ1.mono (cIx hI377 (by decide)) (cRx hX378 (by decide))
                    have hEI395 := hEI1.tr hI377 (by decide)
                    have hER396 := hER1.tr hX378 (by decide)
                    show pl _ _ _ (278, [(0, .ref m0), (1, .int (nI p))], [.int 0], M372) _
                    exact ps_ret rfl rfl (Or.inr ⟨(25, p + 4), I374, R375, by
                        have h25 : mdsN f n E (by2 f (p + 2)) (by2 f (p + 4)) (apN f n E p) = 0 := by
                          have m0_ := mds_0 (f := f) (n := n) (E := E) (x := by2 f (p + 2)) (d := by2 f (p + 4)) (w := apN f n E p)
                          have a0_ := ap_9 (f := f) (n := n) (E := E) (p := p)
                          omega
                        rw [← hs, mtS_st (i := k) (by omega), ← hpk, mh_25 hnm hfl h25], rfl, hR376, hEI395, hER396, hi379, hi380⟩)
      · skip
        intro k p ib a i9 d M1 I1 R1 hR1 hEI1 hER1 hl51 hl52 hl53 hl58 hl56 hl26 hl9 hl10 hF1 hY1 hP1 hK1 hN91 hQ1 hk0 hpk hpe hs hib hsa ht1 hnm hfl h9c hsd ht2 hmt hds
        have hn := hF1.1
        have hu9 := by2_lt f pM
        have htl := hY1.1.2.2.1
        have hBl := hMB.1
        have hi7 := hsi.1
        have hc7 := hsc.1
        have hu8 := by2_lt f p
        have hsa1 := hsa.1
        have hsd1 := hsd.1
        refine ps_st1 (S' := (280, [(0, .ref m0), (1, .int (nI p)), (2, .int (nI (by2 f pM))), (3, .int (nI f0)), (4, .int (nI ib)), (5, .int (nI k)), (6, .int (nI (by2 f p))), (7, .int (nI a)), (9, .int (nI i9)), (10, .int (nI d))], [.ref m0], M1)) rfl rfl rfl ?_
        refine pr_int (j := 26) (S' := (283, [(0, .ref m0), (1, .int (nI p)), (2, .int (nI (by2 f pM))), (3, .int (nI f0)), (4, .int (nI ib)), (5, .int (nI k)), (6, .int (nI (by2 f p))), (7, .int (nI a)), (9, .int (nI i9)), (10, .int (nI d))], [.int (nI (f0 + k))], M1)) rfl hR1 rfl hl26 rfl ?_
        refine ps_st (S' := (285, [(11, .int (nI (f0 + k))), (0, .ref m0), (1, .int (nI p)), (2, .int (nI (by2 f pM))), (3, .int (nI f0)), (4, .int (nI ib)), (5, .int (nI k)), (6, .int (nI (by2 f p))), (7, .int (nI a)), (9, .int (nI i9)), (10, .int (nI d))], [], M1)) rfl rfl rfl ?_
        refine ps_st (S' := (286, [(11, .int (nI (f0 + k))), (0, .ref m0), (1, .int (nI p)), (2, .int (nI (by2 f pM))), (3, .int (nI f0)), (4, .int (nI ib)), (5, .int (nI k)), (6, .int (nI (by2 f p))), (7, .int (nI a)), (9, .int (nI i9)), (10, .int (nI d))], [.ref m0], M1)) rfl rfl rfl ?_
        refine pr_ref (j := 34) (S' := (289, [(11, .int (nI (f0 + k))), (0, .ref m0), (1, .int (nI p)), (2, .int (nI (by2 f pM))), (3, .int (nI f0)), (4, .int (nI ib)), (5, .int (nI k)), (6, .int (nI (by2 f p))), (7, .int (nI a)), (9, .int (nI i9)), (10, .int (nI d))], [.ref (q 34)], M1)) rfl hR1 rfl rfl ?_
        refine ps_st (S' := (291, [(11, .int (nI (f0 + k))), (0, .ref m0), (1, .int (nI p)), (2, .int (nI (by2 f pM))), (3, .int (nI f0)), (4, .int (nI ib)), (5, .int (nI k)), (6, .int (nI (by2 f p))), (7, .int (nI a)), (9, .int (nI i9)), (10, .int (nI d))], [.int (nI (f0 + k)), .ref (q 34)], M1)) rfl rfl rfl ?_
        refine ps_st (S' := (293, [(11, .int (nI (f0 + k))), (0, .ref m0), (1, .int (nI p)), (2, .int (nI (by2 f pM))), (3, .int (nI f0)), (4, .int (nI ib)), (5, .int (nI k)), (6, .int (nI (by2 f p))), (7, .int (nI a)), (9, .int (nI i9)), (10, .int (nI d))], [.int (nI (by2 f p)), .int (nI (f0 + k)), .ref (q 34)], M1)) rfl rfl rfl ?_
        refine pr_st (a := 34) (j := f0 + k) rfl hR1 rfl (by omega) (fun M397 R398 i1_293 hR399 hS400 => ?_)
        have hF_401 := hF1.mono (fun _ _ => rfl) (rRx hS400 (by decide))
        have hY_402 := hY1.mono (fun _ _ => rfl) (rRx hS400 (by decide))
        have hP_403 := hP1.mono (fun _ _ => rfl) (rRx hS400 (by decide))
        have hK_404 := hK1.mono (fun _ _ => rfl) (rRx hS400 (by decide))
        have hN9_405 := hN91.mono (fun _ _ => rfl) (rRx hS400 (by decide))
        have hER406 := hER1.st hS400 (by decide)
        show pl _ _ _ (294, [(11, .int (nI (f0 + k))), (0, .ref m0), (1, .int (nI p)), (2, .int (nI (by2 f pM))), (3, .int (nI f0)), (4, .int (nI ib)), (5, .int (nI k)), (6, .int (nI (by2 f p))), (7, .int (nI a)), (9, .int (nI i9)), (10, .int (nI d))], [], M397) _
        have c34_407 : CE 34 (f0 + k) (nI (by2 f p)) I1 R398 := CE.st hS400
        have hQ_408 := MQX.st (I' := I1) hQ1 hS400 rfl
        refine ps_st (S' := (295, [(11, .int (nI (f0 + k))), (0, .ref m0), (1, .int (nI p)), (2, .int (nI (by2 f pM))), (3, .int (nI f0)), (4, .int (nI ib)), (5, .int (nI k)), (6, .int (nI (by2 f p))), (7, .int (nI a)), (9, .int (nI i9)), (10, .int (nI d))], [.ref m0], M397)) rfl rfl rfl ?_
        refine pr_ref (j := 35) (S' := (298, [(11, .int (nI (f0 + k))), (0, .ref m0), (1, .int (nI p)), (2, .int (nI (by2 f pM))), (3, .int (nI f0)), (4, .int (nI ib)), (5, .int (nI k)), (6, .int (nI (by2 f p))), (7, .int (nI a)), (9, .int (nI i9)), (10, .int (nI d))], [.ref (q 35)], M397)) rfl hR399 rfl rfl ?_
        refine ps_st (S' := (300, [(11, .int (nI (f0 + k))), (0, .ref m0), (1, .int (nI p)), (2, .int (nI (by2 f pM))), (3, .int (nI f0)), (4, .int (nI ib)), (5, .int (nI k)), (6, .int (nI (by2 f p))), (7, .int (nI a)), (9, .int (nI i9)), (10, .int (nI d))], [.int (nI (f0 + k)), .ref (q 35)], M397)) rfl rfl rfl ?_
        refine ps_st (S' := (302, [(11, .int (nI (f0 + k))), (0, .ref m0), (1, .int (nI p)), (2, .int (nI (by2 f pM))), (3, .int (nI f0)), (4, .int (nI ib)), (5, .int (nI k)), (6, .int (nI (by2 f p))), (7, .int (nI a)), (9, .int (nI i9)), (10, .int (nI d))], [.int (nI a), .int (nI (f0 + k)), .ref (q 35)], M397)) rfl rfl rfl ?_
        refine pr_st (a := 35) (j := f0 + k) rfl hR399 rfl (by omega) (fun M409 R410 i1_302 hR411 hS412 => ?_)
        have hF_413 := hF_401.mono (fun _ _ => rfl) (rRx hS412 (by decide))
        have hY_414 := hY_402.mono (fun _ _ => rfl) (rRx hS412 (by decide))
        have hP_415 := hP_403.mono (fun _ _ => rfl) (rRx hS412 (by decide))
        have hK_416 := hK_404.mono (fun _ _ => rfl) (rRx hS412 (by decide))
        have c34_417 := c34_407.mono (fun _ _ => rfl) (rRx hS412 (by decide))
        have hQ_418 := hQ_408.mono (fun _ _ => rfl) (rRx hS412 (by decide))
        have hER419 := hER406.st hS412 (by decide)
        show pl _ _ _ (303, [(11, .int (nI (f0 + k))), (0, .ref m0), (1, .int (nI p)), (2, .int (nI (by2 f pM))), (3, .int (nI f0)), (4, .int (nI ib)), (5, .int (nI k)), (6, .int (nI (by2 f p))), (7, .int (nI a)), (9, .int (nI i9)), (10, .int (nI d))], [], M409) _
        have c35_420 : CE 35 (f0 + k) (nI a) I1 R410 := CE.st hS412
        have hN9_421 := FN.st (I' := I1) hN9_405 hS412 rfl
        refine ps_st (S' := (304, [(11, .int (nI (f0 + k))), (0, .ref m0), (1, .int (nI p)), (2, .int (nI (by2 f pM))), (3, .int (nI f0)), (4, .int (nI ib)), (5, .int (nI k)), (6, .int (nI (by2 f p))), (7, .int (nI a)), (9, .int (nI i9)), (10, .int (nI d))], [.ref m0], M409)) rfl rfl rfl ?_
        refine pr_ref (j := 36) (S' := (307, [(11, .int (nI (f0 + k))), (0, .ref m0), (1, .int (nI p)), (2, .int (nI (by2 f pM))), (3, .int (nI f0)), (4, .int (nI ib)), (5, .int (nI k)), (6, .int (nI (by2 f p))), (7, .int (nI a)), (9, .int (nI i9)), (10, .int (nI d))], [.ref (q 36)], M409)) rfl hR411 rfl rfl ?_
        refine ps_st (S' := (309, [(11, .int (nI (f0 + k))), (0, .ref m0), (1, .int (nI p)), (2, .int (nI (by2 f pM))), (3, .int (nI f0)), (4, .int (nI ib)), (5, .int (nI k)), (6, .int (nI (by2 f p))), (7, .int (nI a)), (9, .int (nI i9)), (10, .int (nI d))], [.int (nI (f0 + k)), .ref (q 36)], M409)) rfl rfl rfl ?_
        refine ps_st (S' := (311, [(11, .int (nI (f0 + k))), (0, .ref m0), (1, .int (nI p)), (2, .int (nI (by2 f pM))), (3, .int (nI f0)), (4, .int (nI ib)), (5, .int (nI k)), (6, .int (nI (by2 f p))), (7, .int (nI a)), (9, .int (nI i9)), (10, .int (nI d))], [.int (nI d), .int (nI (f0 + k)), .ref (q 36)], M409)) rfl rfl rfl ?_
        refine pr_st (a := 36) (j := f0 + k) rfl hR411 rfl (by omega) (fun M422 R423 i1_311 hR424 hS425 => ?_)
        have hF_426 := hF_413.mono (fun _ _ => rfl) (rRx hS425 (by decide))
        have hY_427 := hY_414.mono (fun _ _ => rfl) (rRx hS425 (by decide))
        have hP_428 := hP_415.mono (fun _ _ => rfl) (rRx hS425 (by decide))
        have hK_429 := hK_416.mono (fun _ _ => rfl) (rRx hS425 (by decide))
        have c34_430 := c34_417.mono (fun _ _ => rfl) (rRx hS425 (by decide))
        have hQ_431 := hQ_418.mono (fun _ _ => rfl) (rRx hS425 (by decide))
        have c35_432 := c35_420.mono (fun _ _ => rfl) (rRx hS425 (by decide))
        have hER433 := hER419.st hS425 (by decide)
        show pl _ _ _ (312, [(11, .int (nI (f0 + k))), (0, .ref m0), (1, .int (nI p)), (2, .int (nI (by2 f pM))), (3, .int (nI f0)), (4, .int (nI ib)), (5, .int (nI k)), (6, .int (nI (by2 f p))), (7, .int (nI a)), (9, .int (nI i9)), (10, .int (nI d))], [], M422) _
        have c36_434 : CE 36 (f0 + k) (nI d) I1 R423 := CE.st hS425
        have hN9_435 := FN.st (I' := I1) hN9_421 hS425 rfl
        refine ps_st (S' := (313, [(11, .int (nI (f0 + k))), (0, .ref m0), (1, .int (nI p)), (2, .int (nI (by2 f pM))), (3, .int (nI f0)), (4, .int (nI ib)), (5, .int (nI k)), (6, .int (nI (by2 f p))), (7, .int (nI a)), (9, .int (nI i9)), (10, .int (nI d))], [.ref m0], M422)) rfl rfl rfl ?_
        refine pr_ref (j := 37) (S' := (316, [(11, .int (nI (f0 + k))), (0, .ref m0), (1, .int (nI p)), (2, .int (nI (by2 f pM))), (3, .int (nI f0)), (4, .int (nI ib)), (5, .int (nI k)), (6, .int (nI (by2 f p))), (7, .int (nI a)), (9, .int (nI i9)), (10, .int (nI d))], [.ref (q 37)], M422)) rfl hR424 rfl rfl ?_
        refine ps_st (S' := (318, [(11, .int (nI (f0 + k))), (0, .ref m0), (1, .int (nI p)), (2, .int (nI (by2 f pM))), (3, .int (nI f0)), (4, .int (nI ib)), (5, .int (nI k)), (6, .int (nI (by2 f p))), (7, .int (nI a)), (9, .int (nI i9)), (10, .int (nI d))], [.int (nI (f0 + k)), .ref (q 37)], M422)) rfl rfl rfl ?_
        refine ps_st (S' := (319, [(11, .int (nI (f0 + k))), (0, .ref m0), (1, .int (nI p)), (2, .int (nI (by2 f pM))), (3, .int (nI f0)), (4, .int (nI ib)), (5, .int (nI k)), (6, .int (nI (by2 f p))), (7, .int (nI a)), (9, .int (nI i9)), (10, .int (nI d))], [.int (-1), .int (nI (f0 + k)), .ref (q 37)], M422)) rfl rfl rfl ?_
        refine pr_st (a := 37) (j := f0 + k) rfl hR424 rfl (by omega) (fun M436 R437 i1_319 hR438 hS439 => ?_)
        have hF_440 := hF_426.mono (fun _ _ => rfl) (rRx hS439 (by decide))
        have hY_441 := hY_427.mono (fun _ _ => rfl) (rRx hS439 (by decide))
        have hP_442 := hP_428.mono (fun _ _ => rfl) (rRx hS439 (by decide))
        have hK_443 := hK_429.mono (fun _ _ => rfl) (rRx hS439 (by decide))
        have c34_444 := c34_430.mono (fun _ _ => rfl) (rRx hS439 (by decide))
        have c35_445 := c35_432.mono (fun _ _ => rfl) (rRx hS439 (by decide))
        have c36_446 := c36_434.mono (fun _ _ => rfl) (rRx hS439 (by decide))
        have hN9_447 := hN9_435.mono (fun _ _ => rfl) (rRx hS439 (by decide))
        have hER448 := hER433.st hS439 (by decide)
        show pl _ _ _ (320, [(11, .int (nI (f0 + k))), (0, .ref m0), (1, .int (nI p)), (2, .int (nI (by2 f pM))), (3, .int (nI f0)), (4, .int (nI ib)), (5, .int (nI k)), (6, .int (nI (by2 f p))), (7, .int (nI a)), (9, .int (nI i9)), (10, .int (nI d))], [], M436) _
        have hC_449 : CX 0 (f0 + k) I1 R437 := by unfold CX; rw [if_pos rfl, hS439, rset_at]
        have c37_450 : CE 37 (f0 + k) (-1) I1 R437 := CE.st hS439
        have hQ_451 := MQX.st (I' := I1) hQ_431 hS439 rfl
        refine ps_st (S' := (321, [(11, .int (nI (f0 + k))), (0, .ref m0), (1, .int (nI p)), (2, .int (nI (by2 f pM))), (3, .int (nI f0)), (4, .int (nI ib)), (5, .int (nI k)), (6, .int (nI (by2 f p))), (7, .int (nI a)), (9, .int (nI i9)), (10, .int (nI d))], [.ref m0], M436)) rfl rfl rfl ?_
        refine pr_ref (j := 38) (S' := (324, [(11, .int (nI (f0 + k))), (0, .ref m0), (1, .int (nI p)), (2, .int (nI (by2 f pM))), (3, .int (nI f0)), (4, .int (nI ib)), (5, .int (nI k)), (6, .int (nI (by2 f p))), (7, .int (nI a)), (9, .int (nI i9)), (10, .int (nI d))], [.ref (q 38)], M436)) rfl hR438 rfl rfl ?_
        refine ps_st (S' := (326, [(11, .int (nI (f0 + k))), (0, .ref m0), (1, .int (nI p)), (2, .int (nI (by2 f pM))), (3, .int (nI f0)), (4, .int (nI ib)), (5, .int (nI k)), (6, .int (nI (by2 f p))), (7, .int (nI a)), (9, .int (nI i9)), (10, .int (nI d))], [.int (nI (f0 + k)), .ref (q 38)], M436)) rfl rfl rfl ?_
        refine ps_st (S' := (327, [(11, .int (nI (f0 + k))), (0, .ref m0), (1, .int (nI p)), (2, .int (nI (by2 f pM))), (3, .int (nI f0)), (4, .int (nI ib)), (5, .int (nI k)), (6, .int (nI (by2 f p))), (7, .int (nI a)), (9, .int (nI i9)), (10, .int (nI d))], [.int 0, .int (nI (f0 + k)), .ref (q 38)], M436)) rfl rfl rfl ?_
        refine pr_st (a := 38) (j := f0 + k) rfl hR438 rfl (by omega) (fun M452 R453 i1_327 hR454 hS455 => ?_)
        have hF_456 := hF_440.mono (fun _ _ => rfl) (rRx hS455 (by decide))
        have hY_457 := hY_441.mono (fun _ _ => rfl) (rRx hS455 (by decide))
        have hP_458 := hP_442.mono (fun _ _ => rfl) (rRx hS455 (by decide))
        have hK_459 := hK_443.mono (fun _ _ => rfl) (rRx hS455 (by decide))
        have c34_460 := c34_444.mono (fun _ _ => rfl) (rRx hS455 (by decide))
        have c35_461 := c35_445.mono (fun _ _ => rfl) (rRx hS455 (by decide))
        have c36_462 := c36_446.mono (fun _ _ => rfl) (rRx hS455 (by decide))
        have hN9_463 := hN9_447.mono (fun _ _ => rfl) (rRx hS455 (by decide))
        have hC_464 := hC_449.mono (fun _ _ => rfl) (rRx hS455 (by decide))
        have c37_465 := c37_450.mono (fun _ _ => rfl) (rRx hS455 (by decide))
        have hER466 := hER448.st hS455 (by decide)
        show pl _ _ _ (328, [(11, .int (nI (f0 + k))), (0, .ref m0), (1, .int (nI p)), (2, .int (nI (by2 f pM))), (3, .int (nI f0)), (4, .int (nI ib)), (5, .int (nI k)), (6, .int (nI (by2 f p))), (7, .int (nI a)), (9, .int (nI i9)), (10, .int (nI d))], [], M452) _
        have c38_467 : CE 38 (f0 + k) 0 I1 R453 := CE.st hS455
        have hQ_468 := MQX.st (I' := I1) hQ_451 hS455 rfl
        refine ps_st (S' := (329, [(11, .int (nI (f0 + k))), (0, .ref m0), (1, .int (nI p)), (2, .int (nI (by2 f pM))), (3, .int (nI f0)), (4, .int (nI ib)), (5, .int (nI k)), (6, .int (nI (by2 f p))), (7, .int (nI a)), (9, .int (nI i9)), (10, .int (nI d))], [.ref m0], M452)) rfl rfl rfl ?_
        refine pr_ref (j := 39) (S' := (332, [(11, .int (nI (f0 + k))), (0, .ref m0), (1, .int (nI p)), (2, .int (nI (by2 f pM))), (3, .int (nI f0)), (4, .int (nI ib)), (5, .int (nI k)), (6, .int (nI (by2 f p))), (7, .int (nI a)), (9, .int (nI i9)), (10, .int (nI d))], [.ref (q 39)], M452)) rfl hR454 rfl rfl ?_
        refine ps_st (S' := (334, [(11, .int (nI (f0 + k))), (0, .ref m0), (1, .int (nI p)), (2, .int (nI (by2 f pM))), (3, .int (nI f0)), (4, .int (nI ib)), (5, .int (nI k)), (6, .int (nI (by2 f p))), (7, .int (nI a)), (9, .int (nI i9)), (10, .int (nI d))], [.int (nI (f0 + k)), .ref (q 39)], M452)) rfl rfl rfl ?_
        refine ps_st (S' := (335, [(11, .int (nI (f0 + k))), (0, .ref m0), (1, .int (nI p)), (2, .int (nI (by2 f pM))), (3, .int (nI f0)), (4, .int (nI ib)), (5, .int (nI k)), (6, .int (nI (by2 f p))), (7, .int (nI a)), (9, .int (nI i9)), (10, .int (nI d))], [.int 0, .int (nI (f0 + k)), .ref (q 39)], M452)) rfl rfl rfl ?_
        refine pr_st (a := 39) (j := f0 + k) rfl hR454 rfl (by omega) (fun M469 R470 i1_335 hR471 hS472 => ?_)
        have hF_473 := hF_456.mono (fun _ _ => rfl) (rRx hS472 (by decide))
        have hY_474 := hY_457.mono (fun _ _ => rfl) (rRx hS472 (by decide))
        have hP_475 := hP_458.mono (fun _ _ => rfl) (rRx hS472 (by decide))
        have hK_476 := hK_459.mono (fun _ _ => rfl) (rRx hS472 (by decide))
        have c34_477 := c34_460.mono (fun _ _ => rfl) (rRx hS472 (by decide))
        have c35_478 := c35_461.mono (fun _ _ => rfl) (rRx hS472 (by decide))
        have c36_479 := c36_462.mono (fun _ _ => rfl) (rRx hS472 (by decide))
        have hN9_480 := hN9_463.mono (fun _ _ => rfl) (rRx hS472 (by decide))
        have hC_481 := hC_464.mono (fun _ _ => rfl) (rRx hS472 (by decide))
        have c37_482 := c37_465.mono (fun _ _ => rfl) (rRx hS472 (by decide))
        have c38_483 := c38_467.mono (fun _ _ => rfl) (rRx hS472 (by decide))
        have hER484 := hER466.st hS472 (by decide)
        show pl _ _ _ (336, [(11, .int (nI (f0 + k))), (0, .ref m0), (1, .int (nI p)), (2, .int (nI (by2 f pM))), (3, .int (nI f0)), (4, .int (nI ib)), (5, .int (nI k)), (6, .int (nI (by2 f p))), (7, .int (nI a)), (9, .int (nI i9)), (10, .int (nI d))], [], M469) _
        have c39_485 : CE 39 (f0 + k) 0 I1 R470 := CE.st hS472
        have hQ_486 := MQX.st (I' := I1) hQ_468 hS472 rfl
        refine ps_st (S' := (337, [(11, .int (nI (f0 + k))), (0, .ref m0), (1, .int (nI p)), (2, .int (nI (by2 f pM))), (3, .int (nI f0)), (4, .int (nI ib)), (5, .int (nI k)), (6, .int (nI (by2 f p))), (7, .int (nI a)), (9, .int (nI i9)), (10, .int (nI d))], [.ref m0], M469)) rfl rfl rfl ?_
        refine pr_ref (j := 40) (S' := (340, [(11, .int (nI (f0 + k))), (0, .ref m0), (1, .int (nI p)), (2, .int (nI (by2 f pM))), (3, .int (nI f0)), (4, .int (nI ib)), (5, .int (nI k)), (6, .int (nI (by2 f p))), (7, .int (nI a)), (9, .int (nI i9)), (10, .int (nI d))], [.ref (q 40)], M469)) rfl hR471 rfl rfl ?_
        refine ps_st (S' := (342, [(11, .int (nI (f0 + k))), (0, .ref m0), (1, .int (nI p)), (2, .int (nI (by2 f pM))), (3, .int (nI f0)), (4, .int (nI ib)), (5, .int (nI k)), (6, .int (nI (by2 f p))), (7, .int (nI a)), (9, .int (nI i9)), (10, .int (nI d))], [.int (nI (f0 + k)), .ref (q 40)], M469)) rfl rfl rfl ?_
        refine ps_st (S' := (343, [(11, .int (nI (f0 + k))), (0, .ref m0), (1, .int (nI p)), (2, .int (nI (by2 f pM))), (3, .int (nI f0)), (4, .int (nI ib)), (5, .int (nI k)), (6, .int (nI (by2 f p))), (7, .int (nI a)), (9, .int (nI i9)), (10, .int (nI d))], [.int 0, .int (nI (f0 + k)), .ref (q 40)], M469)) rfl rfl rfl ?_
        refine pr_st (a := 40) (j := f0 + k) rfl hR471 rfl (by omega) (fun M487 R488 i1_343 hR489 hS490 => ?_)
        have hF_491 := hF_473.mono (fun _ _ => rfl) (rRx hS490 (by decide))
        have hY_492 := hY_474.mono (fun _ _ => rfl) (rRx hS490 (by decide))
        have hP_493 := hP_475.mono (fun _ _ => rfl) (rRx hS490 (by decide))
        have hK_494 := hK_476.mono (fun _ _ => rfl) (rRx hS490 (by decide))
        have c34_495 := c34_477.mono (fun _ _ => rfl) (rRx hS490 (by decide))
        have c35_496 := c35_478.mono (fun _ _ => rfl) (rRx hS490 (by decide))
        have c36_497 := c36_479.mono (fun _ _ => rfl) (rRx hS490 (by decide))
        have hN9_498 := hN9_480.mono (fun _ _ => rfl) (rRx hS490 (by decide))
        have hC_499 := hC_481.mono (fun _ _ => rfl) (rRx hS490 (by decide))
        have c37_500 := c37_482.mono (fun _ _ => rfl) (rRx hS490 (by decide))
        have c38_501 := c38_483.mono (fun _ _ => rfl) (rRx hS490 (by decide))
        have c39_502 := c39_485.mono (fun _ _ => rfl) (rRx hS490 (by decide))
        have hER503 := hER484.st hS490 (by decide)
        show pl _ _ _ (344, [(11, .int (nI (f0 + k))), (0, .ref m0), (1, .int (nI p)), (2, .int (nI (by2 f pM))), (3, .int (nI f0)), (4, .int (nI ib)), (5, .int (nI k)), (6, .int (nI (by2 f p))), (7, .int (nI a)), (9, .int (nI i9)), (10, .int (nI d))], [], M487) _
        have c40_504 : CE 40 (f0 + k) 0 I1 R488 := CE.st hS490
        have hQ_505 := MQX.st (I' := I1) hQ_486 hS490 rfl
        refine ps_st (S' := (345, [(11, .int (nI (f0 + k))), (0, .ref m0), (1, .int (nI p)), (2, .int (nI (by2 f pM))), (3, .int (nI f0)), (4, .int (nI ib)), (5, .int (nI k)), (6, .int (nI (by2 f p))), (7, .int (nI a)), (9, .int (nI i9)), (10, .int (nI d))], [.ref m0], M487)) rfl rfl rfl ?_
        refine pr_ref (j := 42) (S' := (348, [(11, .int (nI (f0 + k))), (0, .ref m0), (1, .int (nI p)), (2, .int (nI (by2 f pM))), (3, .int (nI f0)), (4, .int (nI ib)), (5, .int (nI k)), (6, .int (nI (by2 f p))), (7, .int (nI a)), (9, .int (nI i9)), (10, .int (nI d))], [.ref (q 42)], M487)) rfl hR489 rfl rfl ?_
        refine ps_st (S' := (350, [(11, .int (nI (f0 + k))), (0, .ref m0), (1, .int (nI p)), (2, .int (nI (by2 f pM))), (3, .int (nI f0)), (4, .int (nI ib)), (5, .int (nI k)), (6, .int (nI (by2 f p))), (7, .int (nI a)), (9, .int (nI i9)), (10, .int (nI d))], [.int (nI (f0 + k)), .ref (q 42)], M487)) rfl rfl rfl ?_
        refine ps_st (S' := (351, [(11, .int (nI (f0 + k))), (0, .ref m0), (1, .int (nI p)), (2, .int (nI (by2 f pM))), (3, .int (nI f0)), (4, .int (nI ib)), (5, .int (nI k)), (6, .int (nI (by2 f p))), (7, .int (nI a)), (9, .int (nI i9)), (10, .int (nI d))], [.int 0, .int (nI (f0 + k)), .ref (q 42)], M487)) rfl rfl rfl ?_
        refine pr_st (a := 42) (j := f0 + k) rfl hR489 rfl (by omega) (fun M506 R507 i1_351 hR508 hS509 => ?_)
        have hF_510 := hF_491.mono (fun _ _ => rfl) (rRx hS509 (by decide))
        have hY_511 := hY_492.mono (fun _ _ => rfl) (rRx hS509 (by decide))
        have hP_512 := hP_493.mono (fun _ _ => rfl) (rRx hS509 (by decide))
        have hK_513 := hK_494.mono (fun _ _ => rfl) (rRx hS509 (by decide))
        have c34_514 := c34_495.mono (fun _ _ => rfl) (rRx hS509 (by decide))
        have c35_515 := c35_496.mono (fun _ _ => rfl) (rRx hS509 (by decide))
        have c36_516 := c36_497.mono (fun _ _ => rfl) (rRx hS509 (by decide))
        have hN9_517 := hN9_498.mono (fun _ _ => rfl) (rRx hS509 (by decide))
        have hC_518 := hC_499.mono (fun _ _ => rfl) (rRx hS509 (by decide))
        have c37_519 := c37_500.mono (fun _ _ => rfl) (rRx hS509 (by decide))
        have c38_520 := c38_501.mono (fun _ _ => rfl) (rRx hS509 (by decide))
        have c39_521 := c39_502.mono (fun _ _ => rfl) (rRx hS509 (by decide))
        have c40_522 := c40_504.mono (fun _ _ => rfl) (rRx hS509 (by decide))
        have hER523 := hER503.st hS509 (by decide)
        show pl _ _ _ (352, [(11, .int (nI (f0 + k))), (0, .ref m0), (1, .int (nI p)), (2, .int (nI (by2 f pM))), (3, .int (nI f0)), (4, .int (nI ib)), (5, .int (nI k)), (6, .int (nI (by2 f p))), (7, .int (nI a)), (9, .int (nI i9)), (10, .int (nI d))], [], M506) _
        have c42_524 : CE 42 (f0 + k) 0 I1 R507 := CE.st hS509
        have hQ_525 := MQX.st (I' := I1) hQ_505 hS509 rfl
        refine ps_st (S' := (353, [(11, .int (nI (f0 + k))), (0, .ref m0), (1, .int (nI p)), (2, .int (nI (by2 f pM))), (3, .int (nI f0)), (4, .int (nI ib)), (5, .int (nI k)), (6, .int (nI (by2 f p))), (7, .int (nI a)), (9, .int (nI i9)), (10, .int (nI d))], [.ref m0], M506)) rfl rfl rfl ?_
        refine pr_ref (j := 43) (S' := (356, [(11, .int (nI (f0 + k))), (0, .ref m0), (1, .int (nI p)), (2, .int (nI (by2 f pM))), (3, .int (nI f0)), (4, .int (nI ib)), (5, .int (nI k)), (6, .int (nI (by2 f p))), (7, .int (nI a)), (9, .int (nI i9)), (10, .int (nI d))], [.ref (q 43)], M506)) rfl hR508 rfl rfl ?_
        refine ps_st (S' := (358, [(11, .int (nI (f0 + k))), (0, .ref m0), (1, .int (nI p)), (2, .int (nI (by2 f pM))), (3, .int (nI f0)), (4, .int (nI ib)), (5, .int (nI k)), (6, .int (nI (by2 f p))), (7, .int (nI a)), (9, .int (nI i9)), (10, .int (nI d))], [.int (nI (f0 + k)), .ref (q 43)], M506)) rfl rfl rfl ?_
        refine ps_st (S' := (359, [(11, .int (nI (f0 + k))), (0, .ref m0), (1, .int (nI p)), (2, .int (nI (by2 f pM))), (3, .int (nI f0)), (4, .int (nI ib)), (5, .int (nI k)), (6, .int (nI (by2 f p))), (7, .int (nI a)), (9, .int (nI i9)), (10, .int (nI d))], [.int 0, .int (nI (f0 + k)), .ref (q 43)], M506)) rfl rfl rfl ?_
        refine pr_st (a := 43) (j := f0 + k) rfl hR508 rfl (by omega) (fun M526 R527 i1_359 hR528 hS529 => ?_)
        have hF_530 := hF_510.mono (fun _ _ => rfl) (rRx hS529 (by decide))
        have hY_531 := hY_511.mono (fun _ _ => rfl) (rRx hS529 (by decide))
        have hP_532 := hP_512.mono (fun _ _ => rfl) (rRx hS529 (by decide))
        have hK_533 := hK_513.mono (fun _ _ => rfl) (rRx hS529 (by decide))
        have c34_534 := c34_514.mono (fun _ _ => rfl) (rRx hS529 (by decide))
        have c35_535 := c35_515.mono (fun _ _ => rfl) (rRx hS529 (by decide))
        have c36_536 := c36_516.mono (fun _ _ => rfl) (rRx hS529 (by decide))
        have hN9_537 := hN9_517.mono (fun _ _ => rfl) (rRx hS529 (by decide))
        have hC_538 := hC_518.mono (fun _ _ => rfl) (rRx hS529 (by decide))
        have c37_539 := c37_519.mono (fun _ _ => rfl) (rRx hS529 (by decide))
        have c38_540 := c38_520.mono (fun _ _ => rfl) (rRx hS529 (by decide))
        have c39_541 := c39_521.mono (fun _ _ => rfl) (rRx hS529 (by decide))
        have c40_542 := c40_522.mono (fun _ _ => rfl) (rRx hS529 (by decide))
        have c42_543 := c42_524.mono (fun _ _ => rfl) (rRx hS529 (by decide))
        have hER544 := hER523.st hS529 (by decide)
        show pl _ _ _ (360, [(11, .int (nI (f0 + k))), (0, .ref m0), (1, .int (nI p)), (2, .int (nI (by2 f pM))), (3, .int (nI f0)), (4, .int (nI ib)), (5, .int (nI k)), (6, .int (nI (by2 f p))), (7, .int (nI a)), (9, .int (nI i9)), (10, .int (nI d))], [], M526) _
        have c43_545 : CE 43 (f0 + k) 0 I1 R527 := CE.st hS529
        have hQ_546 := MQX.st (I' := I1) hQ_525 hS529 rfl
        refine ps_st (S' := (361, [(11, .int (nI (f0 + k))), (0, .ref m0), (1, .int (nI p)), (2, .int (nI (by2 f pM))), (3, .int (nI f0)), (4, .int (nI ib)), (5, .int (nI k)), (6, .int (nI (by2 f p))), (7, .int (nI a)), (9, .int (nI i9)), (10, .int (nI d))], [.ref m0], M526)) rfl rfl rfl ?_
        refine pr_ref (j := 44) (S' := (364, [(11, .int (nI (f0 + k))), (0, .ref m0), (1, .int (nI p)), (2, .int (nI (by2 f pM))), (3, .int (nI f0)), (4, .int (nI ib)), (5, .int (nI k)), (6, .int (nI (by2 f p))), (7, .int (nI a)), (9, .int (nI i9)), (10, .int (nI d))], [.ref (q 44)], M526)) rfl hR528 rfl rfl ?_
        refine ps_st (S' := (366, [(11, .int (nI (f0 + k))), (0, .ref m0), (1, .int (nI p)), (2, .int (nI (by2 f pM))), (3, .int (nI f0)), (4, .int (nI ib)), (5, .int (nI k)), (6, .int (nI (by2 f p))), (7, .int (nI a)), (9, .int (nI i9)), (10, .int (nI d))], [.int (nI (f0 + k)), .ref (q 44)], M526)) rfl rfl rfl ?_
        refine ps_st (S' := (367, [(11, .int (nI (f0 + k))), (0, .ref m0), (1, .int (nI p)), (2, .int (nI (by2 f pM))), (3, .int (nI f0)), (4, .int (nI ib)), (5, .int (nI k)), (6, .int (nI (by2 f p))), (7, .int (nI a)), (9, .int (nI i9)), (10, .int (nI d))], [.int 0, .int (nI (f0 + k)), .ref (q 44)], M526)) rfl rfl rfl ?_
        refine pr_st (a := 44) (j := f0 + k) rfl hR528 rfl (by omega) (fun M547 R548 i1_367 hR549 hS550 => ?_)
        have hF_551 := hF_530.mono (fun _ _ => rfl) (rRx hS550 (by decide))
        have hY_552 := hY_531.mono (fun _ _ => rfl) (rRx hS550 (by decide))
        have hP_553 := hP_532.mono (fun _ _ => rfl) (rRx hS550 (by decide))
        have hK_554 := hK_533.mono (fun _ _ => rfl) (rRx hS550 (by decide))
        have c34_555 := c34_534.mono (fun _ _ => rfl) (rRx hS550 (by decide))
        have c35_556 := c35_535.mono (fun _ _ => rfl) (rRx hS550 (by decide))
        have c36_557 := c36_536.mono (fun _ _ => rfl) (rRx hS550 (by decide))
        have hN9_558 := hN9_537.mono (fun _ _ => rfl) (rRx hS550 (by decide))
        have hC_559 := hC_538.mono (fun _ _ => rfl) (rRx hS550 (by decide))
        have c37_560 := c37_539.mono (fun _ _ => rfl) (rRx hS550 (by decide))
        have c38_561 := c38_540.mono (fun _ _ => rfl) (rRx hS550 (by decide))
        have c39_562 := c39_541.mono (fun _ _ => rfl) (rRx hS550 (by decide))
        have c40_563 := c40_542.mono (fun _ _ => rfl) (rRx hS550 (by decide))
        have c42_564 := c42_543.mono (fun _ _ => rfl) (rRx hS550 (by decide))
        have c43_565 := c43_545.mono (fun _ _ => rfl) (rRx hS550 (by decide))
        have hER566 := hER544.st hS550 (by decide)
        show pl _ _ _ (368, [(11, .int (nI (f0 + k))), (0, .ref m0), (1, .int (nI p)), (2, .int (nI (by2 f pM))), (3, .int (nI f0)), (4, .int (nI ib)), (5, .int (nI k)), (6, .int (nI (by2 f p))), (7, .int (nI a)), (9, .int (nI i9)), (10, .int (nI d))], [], M547) _
        have c44_567 : CE 44 (f0 + k) 0 I1 R548 := CE.st hS550
        have hQ_568 := MQX.st (I' := I1) hQ_546 hS550 rfl
        refine ps_st (S' := (369, [(11, .int (nI (f0 + k))), (0, .ref m0), (1, .int (nI p)), (2, .int (nI (by2 f pM))), (3, .int (nI f0)), (4, .int (nI ib)), (5, .int (nI k)), (6, .int (nI (by2 f p))), (7, .int (nI a)), (9, .int (nI i9)), (10, .int (nI d))], [.ref m0], M547)) rfl rfl rfl ?_
        refine pr_ref (j := 45) (S' := (372, [(11, .int (nI (f0 + k))), (0, .ref m0), (1, .int (nI p)), (2, .int (nI (by2 f pM))), (3, .int (nI f0)), (4, .int (nI ib)), (5, .int (nI k)), (6, .int (nI (by2 f p))), (7, .int (nI a)), (9, .int (nI i9)), (10, .int (nI d))], [.ref (q 45)], M547)) rfl hR549 rfl rfl ?_
        refine ps_st (S' := (374, [(11, .int (nI (f0 + k))), (0, .ref m0), (1, .int (nI p)), (2, .int (nI (by2 f pM))), (3, .int (nI f0)), (4, .int (nI ib)), (5, .int (nI k)), (6, .int (nI (by2 f p))), (7, .int (nI a)), (9, .int (nI i9)), (10, .int (nI d))], [.int (nI (f0 + k)), .ref (q 45)], M547)) rfl rfl rfl ?_
        refine ps_st (S' := (375, [(11, .int (nI (f0 + k))), (0, .ref m0), (1, .int (nI p)), (2, .int (nI (by2 f pM))), (3, .int (nI f0)), (4, .int (nI ib)), (5, .int (nI k)), (6, .int (nI (by2 f p))), (7, .int (nI a)), (9, .int (nI i9)), (10, .int (nI d))], [.ref m0, .int (nI (f0 + k)), .ref (q 45)], M547)) rfl rfl rfl ?_
        refine ps_st (S' := (376, [(11, .int (nI (f0 + k))), (0, .ref m0), (1, .int (nI p)), (2, .int (nI (by2 f pM))), (3, .int (nI f0)), (4, .int (nI ib)), (5, .int (nI k)), (6, .int (nI (by2 f p))), (7, .int (nI a)), (9, .int (nI i9)), (10, .int (nI d))], [.int (nI p), .ref m0, .int (nI (f0 + k)), .ref (q 45)], M547)) rfl rfl rfl ?_
        refine ps_st (S' := (377, [(11, .int (nI (f0 + k))), (0, .ref m0), (1, .int (nI p)), (2, .int (nI (by2 f pM))), (3, .int (nI f0)), (4, .int (nI ib)), (5, .int (nI k)), (6, .int (nI (by2 f p))), (7, .int (nI a)), (9, .int (nI i9)), (10, .int (nI d))], [.int 2, .int (nI p), .ref m0, .int (nI (f0 + k)), .ref (q 45)], M547)) rfl rfl rfl ?_
        refine ps_st (S' := (378, [(11, .int (nI (f0 + k))), (0, .ref m0), (1, .int (nI p)), (2, .int (nI (by2 f pM))), (3, .int (nI f0)), (4, .int (nI ib)), (5, .int (nI k)), (6, .int (nI (by2 f p))), (7, .int (nI a)), (9, .int (nI i9)), (10, .int (nI d))], [.int ((nI p) + 2), .ref m0, .int (nI (f0 + k)), .ref (q 45)], M547)) rfl rfl rfl ?_
        rw [nI_add1 (p := p) (k := 2) (x := 2) rfl (by omega)]
        show pl _ _ _ (_, [(11, .int (nI (f0 + k))), (0, .ref m0), (1, .int (nI p)), (2, .int (nI (by2 f pM))), (3, .int (nI f0)), (4, .int (nI ib)), (5, .int (nI k)), (6, .int (nI (by2 f p))), (7, .int (nI a)), (9, .int (nI i9)), (10, .int (nI d))], [.int (nI (p + 2)), .ref m0, .int (nI (f0 + k)), .ref (q 45)], M547) _
        refine pl_call (a := [.ref m0, .int (nI (p + 2))]) (rest := [.int (nI (f0 + k)), .ref (q 45)]) rfl rfl rfl (rd_u2 (n := n) (f := f) (p := (p + 2)) hR549 hF_551 (by omega)) (fun v569 M570 q571 => ?_)
        obtain ⟨rfl, rfl⟩ := q571
        show pl _ _ _ (381, [(11, .int (nI (f0 + k))), (0, .ref m0), (1, .int (nI p)), (2, .int (nI (by2 f pM))), (3, .int (nI f0)), (4, .int (nI ib)), (5, .int (nI k)), (6, .int (nI (by2 f p))), (7, .int (nI a)), (9, .int (nI i9)), (10, .int (nI d))], [.int (nI (by2 f (p + 2))), .int (nI (f0 + k)), .ref (q 45)], M547) _
        have hu_378 := by2_lt f (p + 2)
        refine pr_st (a := 45) (j := f0 + k) rfl hR549 rfl (by omega) (fun M572 R573 i1_381 hR574 hS575 => ?_)
        have hF_576 := hF_551.mono (fun _ _ => rfl) (rRx hS575 (by decide))
        have hY_577 := hY_552.mono (fun _ _ => rfl) (rRx hS575 (by decide))
        have hP_578 := hP_553.mono (fun _ _ => rfl) (rRx hS575 (by decide))
        have hK_579 := hK_554.mono (fun _ _ => rfl) (rRx hS575 (by decide))
        have c34_580 := c34_555.mono (fun _ _ => rfl) (rRx hS575 (by decide))
        have c35_581 := c35_556.mono (fun _ _ => rfl) (rRx hS575 (by decide))
        have c36_582 := c36_557.mono (fun _ _ => rfl) (rRx hS575 (by decide))
        have hN9_583 := hN9_558.mono (fun _ _ => rfl) (rRx hS575 (by decide))
        have hC_584 := hC_559.mono (fun _ _ => rfl) (rRx hS575 (by decide))
        have c37_585 := c37_560.mono (fun _ _ => rfl) (rRx hS575 (by decide))
        have c38_586 := c38_561.mono (fun _ _ => rfl) (rRx hS575 (by decide))
        have c39_587 := c39_562.mono (fun _ _ => rfl) (rRx hS575 (by decide))
        have c40_588 := c40_563.mono (fun _ _ => rfl) (rRx hS575 (by decide))
        have c42_589 := c42_564.mono (fun _ _ => rfl) (rRx hS575 (by decide))
        have c43_590 := c43_565.mono (fun _ _ => rfl) (rRx hS575 (by decide))
        have c44_591 := c44_567.mono (fun _ _ => rfl) (rRx hS575 (by decide))
        have hER592 := hER566.st hS575 (by decide)
        show pl _ _ _ (382, [(11, .int (nI (f0 + k))), (0, .ref m0), (1, .int (nI p)), (2, .int (nI (by2 f pM))), (3, .int (nI f0)), (4, .int (nI ib)), (5, .int (nI k)), (6, .int (nI (by2 f p))), (7, .int (nI a)), (9, .int (nI i9)), (10, .int (nI d))], [], M572) _
        have c45_593 : CE 45 (f0 + k) (nI (by2 f (p + 2))) I1 R573 := CE.st hS575
        have hQ_594 := MQX.st (I' := I1) hQ_568 hS575 rfl
        refine ps_st (S' := (383, [(11, .int (nI (f0 + k))), (0, .ref m0), (1, .int (nI p)), (2, .int (nI (by2 f pM))), (3, .int (nI f0)), (4, .int (nI ib)), (5, .int (nI k)), (6, .int (nI (by2 f p))), (7, .int (nI a)), (9, .int (nI i9)), (10, .int (nI d))], [.ref m0], M572)) rfl rfl rfl ?_
        refine pr_ref (j := 46) (S' := (386, [(11, .int (nI (f0 + k))), (0, .ref m0), (1, .int (nI p)), (2, .int (nI (by2 f pM))), (3, .int (nI f0)), (4, .int (nI ib)), (5, .int (nI k)), (6, .int (nI (by2 f p))), (7, .int (nI a)), (9, .int (nI i9)), (10, .int (nI d))], [.ref (q 46)], M572)) rfl hR574 rfl rfl ?_
        refine ps_st (S' := (388, [(11, .int (nI (f0 + k))), (0, .ref m0), (1, .int (nI p)), (2, .int (nI (by2 f pM))), (3, .int (nI f0)), (4, .int (nI ib)), (5, .int (nI k)), (6, .int (nI (by2 f p))), (7, .int (nI a)), (9, .int (nI i9)), (10, .int (nI d))], [.int (nI (f0 + k)), .ref (q 46)], M572)) rfl rfl rfl ?_
        refine ps_st (S' := (389, [(11, .int (nI (f0 + k))), (0, .ref m0), (1, .int (nI p)), (2, .int (nI (by2 f pM))), (3, .int (nI f0)), (4, .int (nI ib)), (5, .int (nI k)), (6, .int (nI (by2 f p))), (7, .int (nI a)), (9, .int (nI i9)), (10, .int (nI d))], [.ref m0, .int (nI (f0 + k)), .ref (q 46)], M572)) rfl rfl rfl ?_
        refine ps_st (S' := (390, [(11, .int (nI (f0 + k))), (0, .ref m0), (1, .int (nI p)), (2, .int (nI (by2 f pM))), (3, .int (nI f0)), (4, .int (nI ib)), (5, .int (nI k)), (6, .int (nI (by2 f p))), (7, .int (nI a)), (9, .int (nI i9)), (10, .int (nI d))], [.int (nI p), .ref m0, .int (nI (f0 + k)), .ref (q 46)], M572)) rfl rfl rfl ?_
        refine ps_st (S' := (391, [(11, .int (nI (f0 + k))), (0, .ref m0), (1, .int (nI p)), (2, .int (nI (by2 f pM))), (3, .int (nI f0)), (4, .int (nI ib)), (5, .int (nI k)), (6, .int (nI (by2 f p))), (7, .int (nI a)), (9, .int (nI i9)), (10, .int (nI d))], [.int 4, .int (nI p), .ref m0, .int (nI (f0 + k)), .ref (q 46)], M572)) rfl rfl rfl ?_
        refine ps_st (S' := (392, [(11, .int (nI (f0 + k))), (0, .ref m0), (1, .int (nI p)), (2, .int (nI (by2 f pM))), (3, .int (nI f0)), (4, .int (nI ib)), (5, .int (nI k)), (6, .int (nI (by2 f p))), (7, .int (nI a)), (9, .int (nI i9)), (10, .int (nI d))], [.int ((nI p) + 4), .ref m0, .int (nI (f0 + k)), .ref (q 46)], M572)) rfl rfl rfl ?_
        rw [nI_add1 (p := p) (k := 4) (x := 4) rfl (by omega)]
        show pl _ _ _ (_, [(11, .int (nI (f0 + k))), (0, .ref m0), (1, .int (nI p)), (2, .int (nI (by2 f pM))), (3, .int (nI f0)), (4, .int (nI ib)), (5, .int (nI k)), (6, .int (nI (by2 f p))), (7, .int (nI a)), (9, .int (nI i9)), (10, .int (nI d))], [.int (nI (p + 4)), .ref m0, .int (nI (f0 + k)), .ref (q 46)], M572) _
        refine pl_call (a := [.ref m0, .int (nI (p + 4))]) (rest := [.int (nI (f0 + k)), .ref (q 46)]) rfl rfl rfl (rd_u2 (n := n) (f := f) (p := (p + 4)) hR574 hF_576 (by omega)) (fun v595 M596 q597 => ?_)
        obtain ⟨rfl, rfl⟩ := q597
        show pl _ _ _ (395, [(11, .int (nI (f0 + k))), (0, .ref m0), (1, .int (nI p)), (2, .int (nI (by2 f pM))), (3, .int (nI f0)), (4, .int (nI ib)), (5, .int (nI k)), (6, .int (nI (by2 f p))), (7, .int (nI a)), (9, .int (nI i9)), (10, .int (nI d))], [.int (nI (by2 f (p + 4))), .int (nI (f0 + k)), .ref (q 46)], M572) _
        have hu_392 := by2_lt f (p + 4)
        refine pr_st (a := 46) (j := f0 + k) rfl hR574 rfl (by omega) (fun M598 R599 i1_395 hR600 hS601 => ?_)
        have hF_602 := hF_576.mono (fun _ _ => rfl) (rRx hS601 (by decide))
        have hY_603 := hY_577.mono (fun _ _ => rfl) (rRx hS601 (by decide))
        have hP_604 := hP_578.mono (fun _ _ => rfl) (rRx hS601 (by decide))
        have hK_605 := hK_579.mono (fun _ _ => rfl) (rRx hS601 (by decide))
        have c34_606 := c34_580.mono (fun _ _ => rfl) (rRx hS601 (by decide))
        have c35_607 := c35_581.mono (fun _ _ => rfl) (rRx hS601 (by decide))
        have c36_608 := c36_582.mono (fun _ _ => rfl) (rRx hS601 (by decide))
        have hN9_609 := hN9_583.mono (fun _ _ => rfl) (rRx hS601 (by decide))
        have hC_610 := hC_584.mono (fun _ _ => rfl) (rRx hS601 (by decide))
        have c37_611 := c37_585.mono (fun _ _ => rfl) (rRx hS601 (by decide))
        have c38_612 := c38_586.mono (fun _ _ => rfl) (rRx hS601 (by decide))
        have c39_613 := c39_587.mono (fun _ _ => rfl) (rRx hS601 (by decide))
        have c40_614 := c40_588.mono (fun _ _ => rfl) (rRx hS601 (by decide))
        have c42_615 := c42_589.mono (fun _ _ => rfl) (rRx hS601 (by decide))
        have c43_616 := c43_590.mono (fun _ _ => rfl) (rRx hS601 (by decide))
        have c44_617 := c44_591.mono (fun _ _ => rfl) (rRx hS601 (by decide))
        have c45_618 := c45_593.mono (fun _ _ => rfl) (rRx hS601 (by decide))
        have hER619 := hER592.st hS601 (by decide)
        show pl _ _ _ (396, [(11, .int (nI (f0 + k))), (0, .ref m0), (1, .int (nI p)), (2, .int (nI (by2 f pM))), (3, .int (nI f0)), (4, .int (nI ib)), (5, .int (nI k)), (6, .int (nI (by2 f p))), (7, .int (nI a)), (9, .int (nI i9)), (10, .int (nI d))], [], M598) _
        have c46_620 : CE 46 (f0 + k) (nI (by2 f (p + 4))) I1 R599 := CE.st hS601
        have hQ_621 := MQX.st (I' := I1) hQ_594 hS601 rfl
        refine ps_st (S' := (397, [(11, .int (nI (f0 + k))), (0, .ref m0), (1, .int (nI p)), (2, .int (nI (by2 f pM))), (3, .int (nI f0)), (4, .int (nI ib)), (5, .int (nI k)), (6, .int (nI (by2 f p))), (7, .int (nI a)), (9, .int (nI i9)), (10, .int (nI d))], [.int (nI f0)], M598)) rfl rfl rfl ?_
        refine ps_st (S' := (399, [(0, .ref m0), (1, .int (nI p)), (2, .int (nI (by2 f pM))), (3, .int (nI f0)), (4, .int (nI ib)), (5, .int (nI k)), (6, .int (nI (by2 f p))), (7, .int (nI a)), (9, .int (nI i9)), (10, .int (nI d)), (11, .int (nI (f0 + k))), (12, .int (nI f0))], [], M598)) rfl rfl rfl ?_
        have hWc9 : MWc f (f0 + k) (0, 0, 0) I1 R599 := MWc.nil c37_611 c38_612 c39_613 c40_614 c42_615 c43_616 c44_617
        exact ih.2.2.2 (k) (p) (ib) (a) (i9) (d) (0) M598 I1 R599 hR600 hEI1 hER619 hl51 hl52 hl53 hl58 hl56 hl26 hl9 hl10 hF_602 hY_603 hP_604 hK_605 hN9_609 c34_606 c35_607 c36_608 hC_610 hQ_621 hWc9 c45_618 c46_620 (hk0) (hpk) (hpe) (hs) (hib) (hsa) (ht1) (hnm) (hfl) (h9c) (hsd) (ht2) (hmt) (hds) (by omega) (by omega) (rfl)
      · skip
        intro k p ib a i9 d j M1 I1 R1 hR1 hEI1 hER1 hl51 hl52 hl53 hl58 hl56 hl26 hl9 hl10 hF1 hY1 hP1 hK1 hN91 c341 c351 c361 hC1 hQ1 hWc1 c451 c461 hk0 hpk hpe hs hib hsa ht1 hnm hfl h9c hsd ht2 hmt hds hj hx hd9
        have hn := hF1.1
        have hu9 := by2_lt f pM
        have htl := hY1.1.2.2.1
        have hBl := hMB.1
        have hi7 := hsi.1
        have hc7 := hsc.1
        have hu8 := by2_lt f p
        have hsa1 := hsa.1
        have hsd1 := hsd.1
        refine ps_st1 (S' := (401, [(0, .ref m0), (1, .int (nI p)), (2, .int (nI (by2 f pM))), (3, .int (nI f0)), (4, .int (nI ib)), (5, .int (nI k)), (6, .int (nI (by2 f p))), (7, .int (nI a)), (9, .int (nI i9)), (10, .int (nI d)), (11, .int (nI (f0 + k))), (12, .int (nI (f0 + j)))], [.int (nI (f0 + j))], M1)) rfl rfl rfl ?_
        refine ps_st (S' := (403, [(0, .ref m0), (1, .int (nI p)), (2, .int (nI (by2 f pM))), (3, .int (nI f0)), (4, .int (nI ib)), (5, .int (nI k)), (6, .int (nI (by2 f p))), (7, .int (nI a)), (9, .int (nI i9)), (10, .int (nI d)), (11, .int (nI (f0 + k))), (12, .int (nI (f0 + j)))], [.int (nI (f0 + k)), .int (nI (f0 + j))], M1)) rfl rfl rfl ?_
        refine ps_if2 (S1 := (444, [(0, .ref m0), (1, .int (nI p)), (2, .int (nI (by2 f pM))), (3, .int (nI f0)), (4, .int (nI ib)), (5, .int (nI k)), (6, .int (nI (by2 f p))), (7, .int (nI a)), (9, .int (nI i9)), (10, .int (nI d)), (11, .int (nI (f0 + k))), (12, .int (nI (f0 + j)))], [], M1)) (S2 := (406, [(0, .ref m0), (1, .int (nI p)), (2, .int (nI (by2 f pM))), (3, .int (nI f0)), (4, .int (nI ib)), (5, .int (nI k)), (6, .int (nI (by2 f p))), (7, .int (nI a)), (9, .int (nI i9)), (10, .int (nI d)), (11, .int (nI (f0 + k))), (12, .int (nI (f0 + j)))], [], M1)) rfl rfl rfl (fun c_403 => ?_) (fun c_403 => ?_)
        · have c_403 : (nI (f0 + k)) ≤ (nI (f0 + j)) := of_decide_eq_true c_403
          have n_403 : f0 + k ≤ f0 + j := (le_nI (p := f0 + k) (n := f0 + j) (by omega) (by omega)).mp c_403
          refine ps_st (S' := (445, [(0, .ref m0), (1, .int (nI p)), (2, .int (nI (by2 f pM))), (3, .int (nI f0)), (4, .int (nI ib)), (5, .int (nI k)), (6, .int (nI (by2 f p))), (7, .int (nI a)), (9, .int (nI i9)), (10, .int (nI d)), (11, .int (nI (f0 + k))), (12, .int (nI (f0 + j)))], [.ref m0], M1)) rfl rfl rfl ?_
          refine ps_st (S' := (446, [(0, .ref m0), (1, .int (nI p)), (2, .int (nI (by2 f pM))), (3, .int (nI f0)), (4, .int (nI ib)), (5, .int (nI k)), (6, .int (nI (by2 f p))), (7, .int (nI a)), (9, .int (nI i9)), (10, .int (nI d)), (11, .int (nI (f0 + k))), (12, .int (nI (f0 + j)))], [.ref m0, .ref m0], M1)) rfl rfl rfl ?_
          refine pr_int (j := 26) (S' := (449, [(0, .ref m0), (1, .int (nI p)), (2, .int (nI (by2 f pM))), (3, .int (nI f0)), (4, .int (nI ib)), (5, .int (nI k)), (6, .int (nI (by2 f p))), (7, .int (nI a)), (9, .int (nI i9)), (10, .int (nI d)), (11, .int (nI (f0 + k))), (12, .int (nI (f0 + j)))], [.int (nI (f0 + k)), .ref m0], M1)) rfl hR1 rfl hl26 rfl ?_
          refine ps_st (S' := (450, [(0, .ref m0), (1, .int (nI p)), (2, .int (nI (by2 f pM))), (3, .int (nI f0)), (4, .int (nI ib)), (5, .int (nI k)), (6, .int (nI (by2 f p))), (7, .int (nI a)), (9, .int (nI i9)), (10, .int (nI d)), (11, .int (nI (f0 + k))), (12, .int (nI (f0 + j)))], [.int 1, .int (nI (f0 + k)), .ref m0], M1)) rfl rfl rfl ?_
          refine ps_st (S' := (451, [(0, .ref m0), (1, .int (nI p)), (2, .int (nI (by2 f pM))), (3, .int (nI f0)), (4, .int (nI ib)), (5, .int (nI k)), (6, .int (nI (by2 f p))), (7, .int (nI a)), (9, .int (nI i9)), (10, .int (nI d)), (11, .int (nI (f0 + k))), (12, .int (nI (f0 + j)))], [.int ((nI (f0 + k)) + 1), .ref m0], M1)) rfl rfl rfl ?_
          rw [nI_add1 (p := f0 + k) (k := 1) (x := 1) rfl (by omega)]
          show pl _ _ _ (_, [(0, .ref m0), (1, .int (nI p)), (2, .int (nI (by2 f pM))), (3, .int (nI f0)), (4, .int (nI ib)), (5, .int (nI k)), (6, .int (nI (by2 f p))), (7, .int (nI a)), (9, .int (nI i9)), (10, .int (nI d)), (11, .int (nI (f0 + k))), (12, .int (nI (f0 + j)))], [.int (nI (f0 + k + 1)), .ref m0], M1) _
          refine pr_put (j := 26) rfl hR1 rfl (fun M622 I623 hR624 hi625 hI626 => ?_)
          have hi627 := (hI626 51 (by decide)).trans hl51
          have hi628 := (hI626 52 (by decide)).trans hl52
          have hi629 := (hI626 53 (by decide)).trans hl53
          have hi630 := (hI626 58 (by decide)).trans hl58
          have hi631 := (hI626 56 (by decide)).trans hl56
          have hi632 := (hI626 9 (by decide)).trans hl9
          have hi633 := (hI626 10 (by decide)).trans hl10
          have hF_634 := hF1.mono (pIx hI626 (by decide)) (fun _ _ => rfl)
          have hY_635 := hY1.mono (pIx hI626 (by decide)) (fun _ _ => rfl)
          have hP_636 := hP1.mono (pIx hI626 (by decide)) (fun _ _ => rfl)
          have hK_637 := hK1.mono (pIx hI626 (by decide)) (fun _ _ => rfl)
          have hN9_638 := hN91.mono (pIx hI626 (by decide)) (fun _ _ => rfl)
          have c34_639 := c341.mono (pIx hI626 (by decide)) (fun _ _ => rfl)
          have c35_640 := c351.mono (pIx hI626 (by decide)) (fun _ _ => rfl)
          have c36_641 := c361.mono (pIx hI626 (by decide)) (fun _ _ => rfl)
          have hC_642 := hC1.mono (pIx hI626 (by decide)) (fun _ _ => rfl)
          have hQ_643 := hQ1.mono (pIx hI626 (by decide)) (fun _ _ => rfl)
          have hWc_644 := hWc1.mono (pIx hI626 (by decide)) (fun _ _ => rfl)
          have c45_645 := c451.mono (pIx hI626 (by decide)) (fun _ _ => rfl)
          have c46_646 := c461.mono (pIx hI626 (by decide)) (fun _ _ => rfl)
          have hEI647 := hEI1.put hI626 (by decide)
          show pl _ _ _ (454, [(0, .ref m0), (1, .int (nI p)), (2, .int (nI (by2 f pM))), (3, .int (nI f0)), (4, .int (nI ib)), (5, .int (nI k)), (6, .int (nI (by2 f p))), (7, .int (nI a)), (9, .int (nI i9)), (10, .int (nI d)), (11, .int (nI (f0 + k))), (12, .int (nI (f0 + j)))], [], M622) _
          refine ps_st (S' := (455, [(0, .ref m0), (1, .int (nI p)), (2, .int (nI (by2 f pM))), (3, .int (nI f0)), (4, .int (nI ib)), (5, .int (nI k)), (6, .int (nI (by2 f p))), (7, .int (nI a)), (9, .int (nI i9)), (10, .int (nI d)), (11, .int (nI (f0 + k))), (12, .int (nI (f0 + j)))], [.ref m0], M622)) rfl rfl rfl ?_
          refine ps_st (S' := (456, [(0, .ref m0), (1, .int (nI p)), (2, .int (nI (by2 f pM))), (3, .int (nI f0)), (4, .int (nI ib)), (5, .int (nI k)), (6, .int (nI (by2 f p))), (7, .int (nI a)), (9, .int (nI i9)), (10, .int (nI d)), (11, .int (nI (f0 + k))), (12, .int (nI (f0 + j)))], [.int (nI p), .ref m0], M622)) rfl rfl rfl ?_
          refine ps_st (S' := (458, [(0, .ref m0), (1, .int (nI p)), (2, .int (nI (by2 f pM))), (3, .int (nI f0)), (4, .int (nI ib)), (5, .int (nI k)), (6, .int (nI (by2 f p))), (7, .int (nI a)), (9, .int (nI i9)), (10, .int (nI d)), (11, .int (nI (f0 + k))), (12, .int (nI (f0 + j)))], [.int 6, .int (nI p), .ref m0], M622)) rfl rfl rfl ?_
          refine ps_st (S' := (459, [(0, .ref m0), (1, .int (nI p)), (2, .int (nI (by2 f pM))), (3, .int (nI f0)), (4, .int (nI ib)), (5, .int (nI k)), (6, .int (nI (by2 f p))), (7, .int (nI a)), (9, .int (nI i9)), (10, .int (nI d)), (11, .int (nI (f0 + k))), (12, .int (nI (f0 + j)))], [.int ((nI p) + 6), .ref m0], M622)) rfl rfl rfl ?_
          rw [nI_add1 (p := p) (k := 6) (x := 6) rfl (by omega)]
          show pl _ _ _ (_, [(0, .ref m0), (1, .int (nI p)), (2, .int (nI (by2 f pM))), (3, .int (nI f0)), (4, .int (nI ib)), (5, .int (nI k)), (6, .int (nI (by2 f p))), (7, .int (nI a)), (9, .int (nI i9)), (10, .int (nI d)), (11, .int (nI (f0 + k))), (12, .int (nI (f0 + j)))], [.int (nI (p + 6)), .ref m0], M622) _
          refine ps_st (S' := (460, [(0, .ref m0), (1, .int (nI p)), (2, .int (nI (by2 f pM))), (3, .int (nI f0)), (4, .int (nI ib)), (5, .int (nI k)), (6, .int (nI (by2 f p))), (7, .int (nI a)), (9, .int (nI i9)), (10, .int (nI d)), (11, .int (nI (f0 + k))), (12, .int (nI (f0 + j)))], [.int 2, .int (nI (p + 6)), .ref m0], M622)) rfl rfl rfl ?_
          refine ps_st (S' := (462, [(0, .ref m0), (1, .int (nI p)), (2, .int (nI (by2 f pM))), (3, .int (nI f0)), (4, .int (nI ib)), (5, .int (nI k)), (6, .int (nI (by2 f p))), (7, .int (nI a)), (9, .int (nI i9)), (10, .int (nI d)), (11, .int (nI (f0 + k))), (12, .int (nI (f0 + j)))], [.int (nI (f0 + k)), .int 2, .int (nI (p + 6)), .ref m0], M622)) rfl rfl rfl ?_
          have hm9 := hMB.2.2.2 k (by omega)
          rw [← hpk] at hm9
          have hX9 : MX (by2 f p) d (f0 + k) I623 R1 := ⟨c34_639, c36_641⟩
          have hwa : apN f n E p = argN (tX f n E (by2 f (p + 4))) + (if aN (by2 f p) 8 = 0 then 1 else 0) := by
            have a0_ := ap_9 (f := f) (n := n) (E := E) (p := p)
            split <;> omega
          have hW9 : MW f (f0 + k) (0, 0, 0) R1 I623 R1 := ⟨hWc_644, fun _ _ _ _ => rfl⟩
          refine pl_call (a := [.ref m0, .int (nI (p + 6)), .int 2, .int (nI (f0 + k))]) (rest := []) rfl rfl rfl (rd_checkAttributes27 (n := n) (f := f) (tx := tx) (cN := cN) (A := A) (N := N) (mj := mj) (E := E) (p1 := (p + 6)) (e := (E1 k)) (x := (f0 + k)) (fl := (by2 f p)) (ds := d) (wa := (apN f n E p)) (l := (tX f n E (by2 f (p + 4)))) (R0 := R1) hR624 hi627 hi628 hi629 hF_634 hY_635 hP_636 hK_637 hX9 hC_642 hW9 (hEP) (hN) (hmj) (⟨by omega, by omega⟩) (hm9.2.2.1) (hx) (hsd) (hmt) (hu8) (hwa)) (fun v648 M649 q650 => ?_)
          rcases q650 with q650 | q650
          · skip
            obtain ⟨e9651, I652, R653, q462_s, rfl, hR654, hI655, hX656, hi657, hi658⟩ := q650
            have hi659 := (hI655 51 (by decide)).trans hi627
            have hi660 := (hI655 52 (by decide)).trans hi628
            have hi661 := (hI655 53 (by decide)).trans hi629
            have hi662 := (hI655 58 (by decide)).trans hi630
            have hi663 := (hI655 56 (by decide)).trans hi631
            have hi664 := (hI655 9 (by decide)).trans hi632
            have hi665 := (hI655 10 (by decide)).trans hi633
            have hi666 := (hI655 26 (by decide)).trans hi625
            have hF_667 := hF_634.mono (cIx hI655 (by decide)) (cRx hX656 (by decide))
            have hY_668 := hY_635.mono (cIx hI655 (by decide)) (cRx hX656 (by decide))
            have hP_669 := hP_636.mono (cIx hI655 (by decide)) (cRx hX656 (by decide))
            have hK_670 := hK_637.mono (cIx hI655 (by decide)) (cRx hX656 (by decide))
            have hN9_671 := hN9_638.mono (cIx hI655 (by decide)) (cRx hX656 (by decide))
            have c34_672 := c34_639.mono (cIx hI655 (by decide)) (cRx hX656 (by decide))
            have c35_673 := c35_640.mono (cIx hI655 (by decide)) (cRx hX656 (by decide))
            have c36_674 := c36_641.mono (cIx hI655 (by decide)) (cRx hX656 (by decide))
            have c45_675 := c45_645.mono (cIx hI655 (by decide)) (cRx hX656 (by decide))
            have c46_676 := c46_646.mono (cIx hI655 (by decide)) (cRx hX656 (by decide))
            have hX_677 := hX9.mono (cIx hI655 (by decide)) (cRx hX656 (by decide))
            have hEI678 := hEI647.tr hI655 (by decide)
            have hER679 := hER1.tr hX656 (by decide)
            show pl _ _ _ (465, [(0, .ref m0), (1, .int (nI p)), (2, .int (nI (by2 f pM))), (3, .int (nI f0)), (4, .int (nI ib)), (5, .int (nI k)), (6, .int (nI (by2 f p))), (7, .int (nI a)), (9, .int (nI i9)), (10, .int (nI d)), (11, .int (nI (f0 + k))), (12, .int (nI (f0 + j)))], [.int (-1)], M649) _
            refine ps_st (S' := (467, [(12, .int (-1)), (0, .ref m0), (1, .int (nI p)), (2, .int (nI (by2 f pM))), (3, .int (nI f0)), (4, .int (nI ib)), (5, .int (nI k)), (6, .int (nI (by2 f p))), (7, .int (nI a)), (9, .int (nI i9)), (10, .int (nI d)), (11, .int (nI (f0 + k)))], [], M649)) rfl rfl rfl ?_
            refine ps_st (S' := (469, [(12, .int (-1)), (0, .ref m0), (1, .int (nI p)), (2, .int (nI (by2 f pM))), (3, .int (nI f0)), (4, .int (nI ib)), (5, .int (nI k)), (6, .int (nI (by2 f p))), (7, .int (nI a)), (9, .int (nI i9)), (10, .int (nI d)), (11, .int (nI (f0 + k)))], [.int (-1)], M649)) rfl rfl rfl ?_
            refine ps_if (S1 := (474, [(12, .int (-1)), (0, .ref m0), (1, .int (nI p)), (2, .int (nI (by2 f pM))), (3, .int (nI f0)), (4, .int (nI ib)), (5, .int (nI k)), (6, .int (nI (by2 f p))), (7, .int (nI a)), (9, .int (nI i9)), (10, .int (nI d)), (11, .int (nI (f0 + k)))], [], M649)) (S2 := (472, [(12, .int (-1)), (0, .ref m0), (1, .int (nI p)), (2, .int (nI (by2 f pM))), (3, .int (nI f0)), (4, .int (nI ib)), (5, .int (nI k)), (6, .int (nI (by2 f p))), (7, .int (nI a)), (9, .int (nI i9)), (10, .int (nI d)), (11, .int (nI (f0 + k)))], [], M649)) rfl rfl rfl (fun c_469 => ?_) (fun c_469 => ?_)
            · exact absurd (of_decide_eq_true c_469) (by decide)
            refine ps_st (S' := (473, [(12, .int (-1)), (0, .ref m0), (1, .int (nI p)), (2, .int (nI (by2 f pM))), (3, .int (nI f0)), (4, .int (nI ib)), (5, .int (nI k)), (6, .int (nI (by2 f p))), (7, .int (nI a)), (9, .int (nI i9)), (10, .int (nI d)), (11, .int (nI (f0 + k)))], [.int 0], M649)) rfl rfl rfl ?_
            exact ps_ret rfl rfl (Or.inr ⟨e9651, I652, R653, by
                rw [← hs, mtS_st (i := k) (by omega), ← hpk, mh_n hnm hfl hds (by rw [← hd9, show k - j = 0 by omega]; rfl), q462_s], rfl, hR654, hEI678, hER679, hi657, hi658⟩)
          · skip
            obtain ⟨h9680, K681, I682, R683, q462_s, q462_U, rfl, hR684, hI685, hX686, hC_687, hW_688⟩ := q650
            have hi689 := (hI685 51 (by decide)).trans hi627
            have hi690 := (hI685 52 (by decide)).trans hi628
            have hi691 := (hI685 53 (by decide)).trans hi629
            have hi692 := (hI685 58 (by decide)).trans hi630
            have hi693 := (hI685 56 (by decide)).trans hi631
            have hi694 := (hI685 9 (by decide)).trans hi632
            have hi695 := (hI685 10 (by decide)).trans hi633
            have hi696 := (hI685 26 (by decide)).trans hi625
            have hF_697 := hF_634.mono (cIx hI685 (by decide)) (cRx hX686 (by decide))
            have hY_698 := hY_635.mono (cIx hI685 (by decide)) (cRx hX686 (by decide))
            have hP_699 := hP_636.mono (cIx hI685 (by decide)) (cRx hX686 (by decide))
            have hK_700 := hK_637.mono (cIx hI685 (by decide)) (cRx hX686 (by decide))
            have hN9_701 := hN9_638.mono (cIx hI685 (by decide)) (cRx hX686 (by decide))
            have c34_702 := c34_639.mono (cIx hI685 (by decide)) (cRx hX686 (by decide))
            have c35_703 := c35_640.mono (cIx hI685 (by decide)) (cRx hX686 (by decide))
            have c36_704 := c36_641.mono (cIx hI685 (by decide)) (cRx hX686 (by decide))
            have c45_705 := c45_645.mono (cIx hI685 (by decide)) (cRx hX686 (by decide))
            have c46_706 := c46_646.mono (cIx hI685 (by decide)) (cRx hX686 (by decide))
            have hX_707 := hX9.mono (cIx hI685 (by decide)) (cRx hX686 (by decide))
            have hEI708 := hEI647.tr hI685 (by decide)
            have hER709 := hER1.tr hX686 (by decide)
            show pl _ _ _ (465, [(0, .ref m0), (1, .int (nI p)), (2, .int (nI (by2 f pM))), (3, .int (nI f0)), (4, .int (nI ib)), (5, .int (nI k)), (6, .int (nI (by2 f p))), (7, .int (nI a)), (9, .int (nI i9)), (10, .int (nI d)), (11, .int (nI (f0 + k))), (12, .int (nI (f0 + j)))], [.int (nI (E1 k))], M649) _
            have hh1 := maS_h (by decide) q462_s
            obtain ⟨y9, hy9, hyc⟩ := CX.val hC_687
            have hQ7 := MQX.ex hQ_643 hX686 hW_688
            refine ps_st (S' := (467, [(12, .int (nI (E1 k))), (0, .ref m0), (1, .int (nI p)), (2, .int (nI (by2 f pM))), (3, .int (nI f0)), (4, .int (nI ib)), (5, .int (nI k)), (6, .int (nI (by2 f p))), (7, .int (nI a)), (9, .int (nI i9)), (10, .int (nI d)), (11, .int (nI (f0 + k)))], [], M649)) rfl rfl rfl ?_
            refine ps_st (S' := (469, [(12, .int (nI (E1 k))), (0, .ref m0), (1, .int (nI p)), (2, .int (nI (by2 f pM))), (3, .int (nI f0)), (4, .int (nI ib)), (5, .int (nI k)), (6, .int (nI (by2 f p))), (7, .int (nI a)), (9, .int (nI i9)), (10, .int (nI d)), (11, .int (nI (f0 + k)))], [.int (nI (E1 k))], M649)) rfl rfl rfl ?_
            refine ps_if (S1 := (474, [(12, .int (nI (E1 k))), (0, .ref m0), (1, .int (nI p)), (2, .int (nI (by2 f pM))), (3, .int (nI f0)), (4, .int (nI ib)), (5, .int (nI k)), (6, .int (nI (by2 f p))), (7, .int (nI a)), (9, .int (nI i9)), (10, .int (nI d)), (11, .int (nI (f0 + k)))], [], M649)) (S2 := (472, [(12, .int (nI (E1 k))), (0, .ref m0), (1, .int (nI p)), (2, .int (nI (by2 f pM))), (3, .int (nI f0)), (4, .int (nI ib)), (5, .int (nI k)), (6, .int (nI (by2 f p))), (7, .int (nI a)), (9, .int (nI i9)), (10, .int (nI d)), (11, .int (nI (f0 + k)))], [], M649)) rfl rfl rfl (fun c_469 => ?_) (fun c_469 => ?_)
            rotate_left
            · exact absurd ((le_nI (p := 0) (n := E1 k) (by decide) (by omega)).mpr (by omega)) (of_decide_eq_false c_469)
            refine ps_st (S' := (476, [(12, .int (nI (E1 k))), (0, .ref m0), (1, .int (nI p)), (2, .int (nI (by2 f pM))), (3, .int (nI f0)), (4, .int (nI ib)), (5, .int (nI k)), (6, .int (nI (by2 f p))), (7, .int (nI a)), (9, .int (nI i9)), (10, .int (nI d)), (11, .int (nI (f0 + k)))], [.int (nI (by2 f p))], M649)) rfl rfl rfl ?_
            refine ps_st (S' := (479, [(12, .int (nI (E1 k))), (0, .ref m0), (1, .int (nI p)), (2, .int (nI (by2 f pM))), (3, .int (nI f0)), (4, .int (nI ib)), (5, .int (nI k)), (6, .int (nI (by2 f p))), (7, .int (nI a)), (9, .int (nI i9)), (10, .int (nI d)), (11, .int (nI (f0 + k)))], [.int 1280, .int (nI (by2 f p))], M649)) rfl rfl rfl ?_
            refine ps_st (S' := (480, [(12, .int (nI (E1 k))), (0, .ref m0), (1, .int (nI p)), (2, .int (nI (by2 f pM))), (3, .int (nI f0)), (4, .int (nI ib)), (5, .int (nI k)), (6, .int (nI (by2 f p))), (7, .int (nI a)), (9, .int (nI i9)), (10, .int (nI d)), (11, .int (nI (f0 + k)))], [.int ((nI (by2 f p)) &&& 1280)], M649)) rfl rfl rfl ?_
            rw [nI_an (p := by2 f p) (k := 1280) (x := 1280) rfl]
            show pl _ _ _ (_, [(12, .int (nI (E1 k))), (0, .ref m0), (1, .int (nI p)), (2, .int (nI (by2 f pM))), (3, .int (nI f0)), (4, .int (nI ib)), (5, .int (nI k)), (6, .int (nI (by2 f p))), (7, .int (nI a)), (9, .int (nI i9)), (10, .int (nI d)), (11, .int (nI (f0 + k)))], [.int (nI (aN (by2 f p) 1280))], M649) _
            refine ps_if (S1 := (492, [(0, .ref m0), (1, .int (nI p)), (2, .int (nI (by2 f pM))), (3, .int (nI f0)), (4, .int (nI ib)), (5, .int (nI k)), (11, .int (nI (f0 + k))), (12, .int (nI (E1 k)))], [], M649)) (S2 := (483, [(12, .int (nI (E1 k))), (0, .ref m0), (1, .int (nI p)), (2, .int (nI (by2 f pM))), (3, .int (nI f0)), (4, .int (nI ib)), (5, .int (nI k)), (6, .int (nI (by2 f p))), (7, .int (nI a)), (9, .int (nI i9)), (10, .int (nI d)), (11, .int (nI (f0 + k)))], [], M649)) rfl rfl rfl (fun c_480 => ?_) (fun c_480 => ?_)
            · have c_480 : (nI (aN (by2 f p) 1280)) = 0 := of_decide_eq_true c_480
              have n_480 : aN (by2 f p) 1280 = 0 := (eq_nI (p := aN (by2 f p) 1280) (n := 0) (Nat.lt_of_le_of_lt (an_le _ _) (by decide)) (by decide)).mp c_480
              refine ps_st (S' := (493, [(0, .ref m0), (1, .int (nI p)), (2, .int (nI (by2 f pM))), (3, .int (nI f0)), (4, .int (nI ib)), (5, .int (nI k)), (11, .int (nI (f0 + k))), (12, .int (nI (E1 k)))], [.int 0], M649)) rfl rfl rfl ?_
              refine ps_st (S' := (495, [(13, .int 0), (0, .ref m0), (1, .int (nI p)), (2, .int (nI (by2 f pM))), (3, .int (nI f0)), (4, .int (nI ib)), (5, .int (nI k)), (11, .int (nI (f0 + k))), (12, .int (nI (E1 k)))], [], M649)) rfl rfl rfl ?_
              refine ps_st (S' := (496, [(13, .int 0), (0, .ref m0), (1, .int (nI p)), (2, .int (nI (by2 f pM))), (3, .int (nI f0)), (4, .int (nI ib)), (5, .int (nI k)), (11, .int (nI (f0 + k))), (12, .int (nI (E1 k)))], [.ref m0], M649)) rfl rfl rfl ?_
              refine pr_ref (j := 37) (S' := (499, [(13, .int 0), (0, .ref m0), (1, .int (nI p)), (2, .int (nI (by2 f pM))), (3, .int (nI f0)), (4, .int (nI ib)), (5, .int (nI k)), (11, .int (nI (f0 + k))), (12, .int (nI (E1 k)))], [.ref (q 37)], M649)) rfl hR684 rfl rfl ?_
              refine ps_st (S' := (501, [(13, .int 0), (0, .ref m0), (1, .int (nI p)), (2, .int (nI (by2 f pM))), (3, .int (nI f0)), (4, .int (nI ib)), (5, .int (nI k)), (11, .int (nI (f0 + k))), (12, .int (nI (E1 k)))], [.int (nI (f0 + k)), .ref (q 37)], M649)) rfl rfl rfl ?_
              refine pr_ld (a := 37) (j := f0 + k) (y := y9) (S' := (502, [(13, .int 0), (0, .ref m0), (1, .int (nI p)), (2, .int (nI (by2 f pM))), (3, .int (nI f0)), (4, .int (nI ib)), (5, .int (nI k)), (11, .int (nI (f0 + k))), (12, .int (nI (E1 k)))], [.int y9], M649)) rfl hR684 rfl (by omega) (fun _ => hy9) rfl (fun i1_501 => ?_)
              refine ps_if (S1 := (509, [(13, .int 0), (0, .ref m0), (1, .int (nI p)), (2, .int (nI (by2 f pM))), (3, .int (nI f0)), (4, .int (nI ib)), (5, .int (nI k)), (11, .int (nI (f0 + k))), (12, .int (nI (E1 k)))], [], M649)) (S2 := (505, [(13, .int 0), (0, .ref m0), (1, .int (nI p)), (2, .int (nI (by2 f pM))), (3, .int (nI f0)), (4, .int (nI ib)), (5, .int (nI k)), (11, .int (nI (f0 + k))), (12, .int (nI (E1 k)))], [], M649)) rfl rfl rfl (fun c_502 => ?_) (fun c_502 => ?_)
              · have c_502 : 0 ≤ y9 := of_decide_eq_true c_502
                have hh9 : ¬ h9680 = 0 := by rcases hyc with h8 | h8; exact absurd h8.2 (Int32.not_lt.mpr c_502); exact h8.1
                refine ps_st (S' := (510, [(0, .ref m0), (1, .int (nI p)), (2, .int (nI (by2 f pM))), (3, .int (nI f0)), (4, .int (nI ib)), (5, .int (nI k)), (12, .int (nI (E1 k))), (13, .int 0)], [.int 0], M649)) rfl rfl rfl ?_
                refine ps_st (S' := (512, [(0, .ref m0), (1, .int (nI p)), (2, .int (nI (by2 f pM))), (3, .int (nI f0)), (4, .int (nI ib)), (5, .int (nI k)), (12, .int (nI (E1 k))), (13, .int 0)], [.int 0, .int 0], M649)) rfl rfl rfl ?_
                refine ps_if2 (S1 := (523, [(0, .ref m0), (1, .int (nI p)), (2, .int (nI (by2 f pM))), (3, .int (nI f0)), (4, .int (nI ib)), (5, .int (nI k)), (12, .int (nI (E1 k))), (13, .int 0)], [], M649)) (S2 := (515, [(0, .ref m0), (1, .int (nI p)), (2, .int (nI (by2 f pM))), (3, .int (nI f0)), (4, .int (nI ib)), (5, .int (nI k)), (12, .int (nI (E1 k))), (13, .int 0)], [], M649)) rfl rfl rfl (fun c_512 => ?_) (fun c_512 => ?_)
                rotate_left
                · exact absurd (by decide) (of_decide_eq_false c_512)
                refine ps_st (S' := (525, [(0, .ref m0), (1, .int (nI p)), (2, .int (nI (by2 f pM))), (3, .int (nI f0)), (4, .int (nI ib)), (5, .int (nI k)), (12, .int (nI (E1 k))), (13, .int 0)], [.int (nI (E1 k))], M649)) rfl rfl rfl ?_
                refine ps_st (S' := (526, [(1, .int (nI (E1 k))), (0, .ref m0), (2, .int (nI (by2 f pM))), (3, .int (nI f0)), (4, .int (nI ib)), (5, .int (nI k)), (12, .int (nI (E1 k))), (13, .int 0)], [], M649)) rfl rfl rfl ?_
                refine ps_st (S' := (529, [(5, .int ((nI k) + 1)), (1, .int (nI (E1 k))), (0, .ref m0), (2, .int (nI (by2 f pM))), (3, .int (nI f0)), (4, .int (nI ib)), (12, .int (nI (E1 k))), (13, .int 0)], [], M649)) rfl rfl rfl ?_
                rw [nI_add1 (p := k) (k := 1) (x := 1) rfl (by omega)]
                show pl _ _ _ (_, [(5, .int (nI (k + 1))), (1, .int (nI (E1 k))), (0, .ref m0), (2, .int (nI (by2 f pM))), (3, .int (nI f0)), (4, .int (nI ib)), (12, .int (nI (E1 k))), (13, .int 0)], [], M649) _
                refine ps_st (S' := (40, [(0, .ref m0), (1, .int (nI (E1 k))), (2, .int (nI (by2 f pM))), (3, .int (nI f0)), (4, .int (nI ib)), (5, .int (nI (k + 1)))], [], M649)) rfl rfl rfl ?_
                have hQ8 := MQX.more hQ7 hpk hW_688 q462_U c34_702 c45_705 c46_706
                have hN8 := FN.more hN9_701 hpk c35_703 c36_704 hsa hsd ht1 ht2
                exact ih.1 (k + 1) (E1 k) (ib) M649 I682 R683 hR684 hEI708 hER709 hi689 hi690 hi691 hi692 hi693 hi696 hi694 hi695 hF_697 hY_698 hP_699 hK_700 hN8 hQ8 (by omega) (fun h9 => (hm9.2.2.2 (by omega)).symm) (hm9.2.1) (by
                    rw [← hs, mtS_st (i := k) (by omega), ← hpk, mh_n hnm hfl hds (by rw [← hd9, show k - j = 0 by omega]; rfl), q462_s]
                    dsimp only
                    rw [cdu_0, if_pos (by omega), if_pos (by omega)]) (hib)
              · have c_502 : ¬ (0 ≤ y9) := of_decide_eq_false c_502
                have hh9 : h9680 = 0 := by rcases hyc with h8 | h8; exact h8.1; exact absurd (Int32.not_le.mp c_502) h8.2
                refine ps_st (S' := (506, [(13, .int 0), (0, .ref m0), (1, .int (nI p)), (2, .int (nI (by2 f pM))), (3, .int (nI f0)), (4, .int (nI ib)), (5, .int (nI k)), (11, .int (nI (f0 + k))), (12, .int (nI (E1 k)))], [.int 1], M649)) rfl rfl rfl ?_
                refine ps_st (S' := (510, [(0, .ref m0), (1, .int (nI p)), (2, .int (nI (by2 f pM))), (3, .int (nI f0)), (4, .int (nI ib)), (5, .int (nI k)), (12, .int (nI (E1 k))), (13, .int 0)], [.int 1], M649)) rfl rfl rfl ?_
                refine ps_st (S' := (512, [(0, .ref m0), (1, .int (nI p)), (2, .int (nI (by2 f pM))), (3, .int (nI f0)), (4, .int (nI ib)), (5, .int (nI k)), (12, .int (nI (E1 k))), (13, .int 0)], [.int 0, .int 1], M649)) rfl rfl rfl ?_
                refine ps_if2 (S1 := (523, [(0, .ref m0), (1, .int (nI p)), (2, .int (nI (by2 f pM))), (3, .int (nI f0)), (4, .int (nI ib)), (5, .int (nI k)), (12, .int (nI (E1 k))), (13, .int 0)], [], M649)) (S2 := (515, [(0, .ref m0), (1, .int (nI p)), (2, .int (nI (by2 f pM))), (3, .int (nI f0)), (4, .int (nI ib)), (5, .int (nI k)), (12, .int (nI (E1 k))), (13, .int 0)], [], M649)) rfl rfl rfl (fun c_512 => ?_) (fun c_512 => ?_)
                · exact absurd (of_decide_eq_true c_512) (by decide)
                refine ps_st (S' := (516, [(0, .ref m0), (1, .int (nI p)), (2, .int (nI (by2 f pM))), (3, .int (nI f0)), (4, .int (nI ib)), (5, .int (nI k)), (12, .int (nI (E1 k))), (13, .int 0)], [.ref m0], M649)) rfl rfl rfl ?_
                refine ps_st (S' := (518, [(0, .ref m0), (1, .int (nI p)), (2, .int (nI (by2 f pM))), (3, .int (nI f0)), (4, .int (nI ib)), (5, .int (nI k)), (12, .int (nI (E1 k))), (13, .int 0)], [.int 27, .ref m0], M649)) rfl rfl rfl ?_
                refine ps_st (S' := (519, [(0, .ref m0), (1, .int (nI p)), (2, .int (nI (by2 f pM))), (3, .int (nI f0)), (4, .int (nI ib)), (5, .int (nI k)), (12, .int (nI (E1 k))), (13, .int 0)], [.int (nI p), .int 27, .ref m0], M649)) rfl rfl rfl ?_
                refine pl_call (a := [.ref m0, .int 27, .int (nI p)]) (rest := []) rfl rfl rfl (rd_wrong (x1 := 27) (x2 := (nI p)) hR684) (fun v710 M711 q712 => ?_)
                obtain ⟨I713, R714, rfl, hR715, hI716, hX717, hi718, hi719⟩ := q712
                have hi720 := (hI716 51 (by decide)).trans hi689
                have hi721 := (hI716 52 (by decide)).trans hi690
                have hi722 := (hI716 53 (by decide)).trans hi691
                have hi723 := (hI716 58 (by decide)).trans hi692
                have hi724 := (hI716 56 (by decide)).trans hi693
                have hi725 := (hI716 9 (by decide)).trans hi694
                have hi726 := (hI716 10 (by decide)).trans hi695
                have hi727 := (hI716 26 (by decide)).trans hi696
                have hF_728 := hF_697.mono (cIx hI716 (by decide)) (cRx hX717 (by decide))
                have hY_729 := hY_698.mono (cIx hI716 (by decide)) (cRx hX717 (by decide))
                have hP_730 := hP_699.mono (cIx hI716 (by decide)) (cRx hX717 (by decide))
                have hK_731 := hK_700.mono (cIx hI716 (by decide)) (cRx hX717 (by decide))
                have hN9_732 := hN9_701.mono (cIx hI716 (by decide)) (cRx hX717 (by decide))
                have c34_733 := c34_702.mono (cIx hI716 (by decide)) (cRx hX717 (by decide))
                have c35_734 := c35_703.mono (cIx hI716 (by decide)) (cRx hX717 (by decide))
                have c36_735 := c36_704.mono (cIx hI716 (by decide)) (cRx hX717 (by decide))
                have c45_736 := c45_705.mono (cIx hI716 (by decide)) (cRx hX717 (by decide))
                have c46_737 := c46_706.mono (cIx hI716 (by decide)) (cRx hX717 (by decide))
                have hX_738 := hX_707.mono (cIx hI716 (by decide)) (cRx hX717 (by decide))
                have hC_739 := hC_687.mono (cIx hI716 (by decide)) (cRx hX717 (by decide))
                have hW_740 := hW_688.mono (cIx hI716 (by decide)) (cRx hX717 (by decide))
                have hQ_741 := hQ7.mono (cIx hI716 (by decide)) (cRx hX717 (by decide))
                have hEI742 := hEI708.tr hI716 (by decide)
                have hER743 := hER709.tr hX717 (by decide)
                show pl _ _ _ (522, [(0, .ref m0), (1, .int (nI p)), (2, .int (nI (by2 f pM))), (3, .int (nI f0)), (4, .int (nI ib)), (5, .int (nI k)), (12, .int (nI (E1 k))), (13, .int 0)], [.int 0], M711) _
                exact ps_ret rfl rfl (Or.inr ⟨(27, p), I713, R714, by
                    rw [← hs, mtS_st (i := k) (by omega), ← hpk, mh_n hnm hfl hds (by rw [← hd9, show k - j = 0 by omega]; rfl), q462_s]
                    dsimp only
                    rw [cdu_0, if_pos (by omega), if_neg (by omega)], rfl, hR715, hEI742, hER743, hi718, hi719⟩)
            · have c_480 : ¬ ((nI (aN (by2 f p) 1280)) = 0) := of_decide_eq_false c_480
              have n_480 : ¬ (aN (by2 f p) 1280 = 0) := fun h9 => c_480 ((eq_nI (p := aN (by2 f p) 1280) (n := 0) (Nat.lt_of_le_of_lt (an_le _ _) (by decide)) (by decide)).mpr h9)
              refine ps_st (S' := (485, [(12, .int (nI (E1 k))), (0, .ref m0), (1, .int (nI p)), (2, .int (nI (by2 f pM))), (3, .int (nI f0)), (4, .int (nI ib)), (5, .int (nI k)), (6, .int (nI (by2 f p))), (7, .int (nI a)), (9, .int (nI i9)), (10, .int (nI d)), (11, .int (nI (f0 + k)))], [.int (nI i9)], M649)) rfl rfl rfl ?_
              refine ps_if (S1 := (492, [(0, .ref m0), (1, .int (nI p)), (2, .int (nI (by2 f pM))), (3, .int (nI f0)), (4, .int (nI ib)), (5, .int (nI k)), (11, .int (nI (f0 + k))), (12, .int (nI (E1 k)))], [], M649)) (S2 := (488, [(12, .int (nI (E1 k))), (0, .ref m0), (1, .int (nI p)), (2, .int (nI (by2 f pM))), (3, .int (nI f0)), (4, .int (nI ib)), (5, .int (nI k)), (6, .int (nI (by2 f p))), (7, .int (nI a)), (9, .int (nI i9)), (10, .int (nI d)), (11, .int (nI (f0 + k)))], [], M649)) rfl rfl rfl (fun c_485 => ?_) (fun c_485 => ?_)
              · have c_485 : ¬ (nI i9) = 0 := of_decide_eq_true c_485
                have n_485 : ¬ (i9 = 0) := fun h9 => c_485 ((eq_nI (p := i9) (n := 0) (by omega) (by decide)).mpr h9)
                refine ps_st (S' := (493, [(0, .ref m0), (1, .int (nI p)), (2, .int (nI (by2 f pM))), (3, .int (nI f0)), (4, .int (nI ib)), (5, .int (nI k)), (11, .int (nI (f0 + k))), (12, .int (nI (E1 k)))], [.int 0], M649)) rfl rfl rfl ?_
                refine ps_st (S' := (495, [(13, .int 0), (0, .ref m0), (1, .int (nI p)), (2, .int (nI (by2 f pM))), (3, .int (nI f0)), (4, .int (nI ib)), (5, .int (nI k)), (11, .int (nI (f0 + k))), (12, .int (nI (E1 k)))], [], M649)) rfl rfl rfl ?_
                refine ps_st (S' := (496, [(13, .int 0), (0, .ref m0), (1, .int (nI p)), (2, .int (nI (by2 f pM))), (3, .int (nI f0)), (4, .int (nI ib)), (5, .int (nI k)), (11, .int (nI (f0 + k))), (12, .int (nI (E1 k)))], [.ref m0], M649)) rfl rfl rfl ?_
                refine pr_ref (j := 37) (S' := (499, [(13, .int 0), (0, .ref m0), (1, .int (nI p)), (2, .int (nI (by2 f pM))), (3, .int (nI f0)), (4, .int (nI ib)), (5, .int (nI k)), (11, .int (nI (f0 + k))), (12, .int (nI (E1 k)))], [.ref (q 37)], M649)) rfl hR684 rfl rfl ?_
                refine ps_st (S' := (501, [(13, .int 0), (0, .ref m0), (1, .int (nI p)), (2, .int (nI (by2 f pM))), (3, .int (nI f0)), (4, .int (nI ib)), (5, .int (nI k)), (11, .int (nI (f0 + k))), (12, .int (nI (E1 k)))], [.int (nI (f0 + k)), .ref (q 37)], M649)) rfl rfl rfl ?_
                refine pr_ld (a := 37) (j := f0 + k) (y := y9) (S' := (502, [(13, .int 0), (0, .ref m0), (1, .int (nI p)), (2, .int (nI (by2 f pM))), (3, .int (nI f0)), (4, .int (nI ib)), (5, .int (nI k)), (11, .int (nI (f0 + k))), (12, .int (nI (E1 k)))], [.int y9], M649)) rfl hR684 rfl (by omega) (fun _ => hy9) rfl (fun i1_501 => ?_)
                refine ps_if (S1 := (509, [(13, .int 0), (0, .ref m0), (1, .int (nI p)), (2, .int (nI (by2 f pM))), (3, .int (nI f0)), (4, .int (nI ib)), (5, .int (nI k)), (11, .int (nI (f0 + k))), (12, .int (nI (E1 k)))], [], M649)) (S2 := (505, [(13, .int 0), (0, .ref m0), (1, .int (nI p)), (2, .int (nI (by2 f pM))), (3, .int (nI f0)), (4, .int (nI ib)), (5, .int (nI k)), (11, .int (nI (f0 + k))), (12, .int (nI (E1 k)))], [], M649)) rfl rfl rfl (fun c_502 => ?_) (fun c_502 => ?_)
                · have c_502 : 0 ≤ y9 := of_decide_eq_true c_502
                  have hh9 : ¬ h9680 = 0 := by rcases hyc with h8 | h8; exact absurd h8.2 (Int32.not_lt.mpr c_502); exact h8.1
                  refine ps_st (S' := (510, [(0, .ref m0), (1, .int (nI p)), (2, .int (nI (by2 f pM))), (3, .int (nI f0)), (4, .int (nI ib)), (5, .int (nI k)), (12, .int (nI (E1 k))), (13, .int 0)], [.int 0], M649)) rfl rfl rfl ?_
                  refine ps_st (S' := (512, [(0, .ref m0), (1, .int (nI p)), (2, .int (nI (by2 f pM))), (3, .int (nI f0)), (4, .int (nI ib)), (5, .int (nI k)), (12, .int (nI (E1 k))), (13, .int 0)], [.int 0, .int 0], M649)) rfl rfl rfl ?_
                  refine ps_if2 (S1 := (523, [(0, .ref m0), (1, .int (nI p)), (2, .int (nI (by2 f pM))), (3, .int (nI f0)), (4, .int (nI ib)), (5, .int (nI k)), (12, .int (nI (E1 k))), (13, .int 0)], [], M649)) (S2 := (515, [(0, .ref m0), (1, .int (nI p)), (2, .int (nI (by2 f pM))), (3, .int (nI f0)), (4, .int (nI ib)), (5, .int (nI k)), (12, .int (nI (E1 k))), (13, .int 0)], [], M649)) rfl rfl rfl (fun c_512 => ?_) (fun c_512 => ?_)
                  rotate_left
                  · exact absurd (by decide) (of_decide_eq_false c_512)
                  refine ps_st (S' := (525, [(0, .ref m0), (1, .int (nI p)), (2, .int (nI (by2 f pM))), (3, .int (nI f0)), (4, .int (nI ib)), (5, .int (nI k)), (12, .int (nI (E1 k))), (13, .int 0)], [.int (nI (E1 k))], M649)) rfl rfl rfl ?_
                  refine ps_st (S' := (526, [(1, .int (nI (E1 k))), (0, .ref m0), (2, .int (nI (by2 f pM))), (3, .int (nI f0)), (4, .int (nI ib)), (5, .int (nI k)), (12, .int (nI (E1 k))), (13, .int 0)], [], M649)) rfl rfl rfl ?_
                  refine ps_st (S' := (529, [(5, .int ((nI k) + 1)), (1, .int (nI (E1 k))), (0, .ref m0), (2, .int (nI (by2 f pM))), (3, .int (nI f0)), (4, .int (nI ib)), (12, .int (nI (E1 k))), (13, .int 0)], [], M649)) rfl rfl rfl ?_
                  rw [nI_add1 (p := k) (k := 1) (x := 1) rfl (by omega)]
                  show pl _ _ _ (_, [(5, .int (nI (k + 1))), (1, .int (nI (E1 k))), (0, .ref m0), (2, .int (nI (by2 f pM))), (3, .int (nI f0)), (4, .int (nI ib)), (12, .int (nI (E1 k))), (13, .int 0)], [], M649) _
                  refine ps_st (S' := (40, [(0, .ref m0), (1, .int (nI (E1 k))), (2, .int (nI (by2 f pM))), (3, .int (nI f0)), (4, .int (nI ib)), (5, .int (nI (k + 1)))], [], M649)) rfl rfl rfl ?_
                  have hQ8 := MQX.more hQ7 hpk hW_688 q462_U c34_702 c45_705 c46_706
                  have hN8 := FN.more hN9_701 hpk c35_703 c36_704 hsa hsd ht1 ht2
                  exact ih.1 (k + 1) (E1 k) (ib) M649 I682 R683 hR684 hEI708 hER709 hi689 hi690 hi691 hi692 hi693 hi696 hi694 hi695 hF_697 hY_698 hP_699 hK_700 hN8 hQ8 (by omega) (fun h9 => (hm9.2.2.2 (by omega)).symm) (hm9.2.1) (by
                      rw [← hs, mtS_st (i := k) (by omega), ← hpk, mh_n hnm hfl hds (by rw [← hd9, show k - j = 0 by omega]; rfl), q462_s]
                      dsimp only
                      rw [cdu_0, if_pos (by omega), if_pos (by omega)]) (hib)
                · have c_502 : ¬ (0 ≤ y9) := of_decide_eq_false c_502
                  have hh9 : h9680 = 0 := by rcases hyc with h8 | h8; exact h8.1; exact absurd (Int32.not_le.mp c_502) h8.2
                  refine ps_st (S' := (506, [(13, .int 0), (0, .ref m0), (1, .int (nI p)), (2, .int (nI (by2 f pM))), (3, .int (nI f0)), (4, .int (nI ib)), (5, .int (nI k)), (11, .int (nI (f0 + k))), (12, .int (nI (E1 k)))], [.int 1], M649)) rfl rfl rfl ?_
                  refine ps_st (S' := (510, [(0, .ref m0), (1, .int (nI p)), (2, .int (nI (by2 f pM))), (3, .int (nI f0)), (4, .int (nI ib)), (5, .int (nI k)), (12, .int (nI (E1 k))), (13, .int 0)], [.int 1], M649)) rfl rfl rfl ?_
                  refine ps_st (S' := (512, [(0, .ref m0), (1, .int (nI p)), (2, .int (nI (by2 f pM))), (3, .int (nI f0)), (4, .int (nI ib)), (5, .int (nI k)), (12, .int (nI (E1 k))), (13, .int 0)], [.int 0, .int 1], M649)) rfl rfl rfl ?_
                  refine ps_if2 (S1 := (523, [(0, .ref m0), (1, .int (nI p)), (2, .int (nI (by2 f pM))), (3, .int (nI f0)), (4, .int (nI ib)), (5, .int (nI k)), (12, .int (nI (E1 k))), (13, .int 0)], [], M649)) (S2 := (515, [(0, .ref m0), (1, .int (nI p)), (2, .int (nI (by2 f pM))), (3, .int (nI f0)), (4, .int (nI ib)), (5, .int (nI k)), (12, .int (nI (E1 k))), (13, .int 0)], [], M649)) rfl rfl rfl (fun c_512 => ?_) (fun c_512 => ?_)
                  · exact absurd (of_decide_eq_true c_512) (by decide)
                  refine ps_st (S' := (516, [(0, .ref m0), (1, .int (nI p)), (2, .int (nI (by2 f pM))), (3, .int (nI f0)), (4, .int (nI ib)), (5, .int (nI k)), (12, .int (nI (E1 k))), (13, .int 0)], [.ref m0], M649)) rfl rfl rfl ?_
                  refine ps_st (S' := (518, [(0, .ref m0), (1, .int (nI p)), (2, .int (nI (by2 f pM))), (3, .int (nI f0)), (4, .int (nI ib)), (5, .int (nI k)), (12, .int (nI (E1 k))), (13, .int 0)], [.int 27, .ref m0], M649)) rfl rfl rfl ?_
                  refine ps_st (S' := (519, [(0, .ref m0), (1, .int (nI p)), (2, .int (nI (by2 f pM))), (3, .int (nI f0)), (4, .int (nI ib)), (5, .int (nI k)), (12, .int (nI (E1 k))), (13, .int 0)], [.int (nI p), .int 27, .ref m0], M649)) rfl rfl rfl ?_
                  refine pl_call (a := [.ref m0, .int 27, .int (nI p)]) (rest := []) rfl rfl rfl (rd_wrong (x1 := 27) (x2 := (nI p)) hR684) (fun v744 M745 q746 => ?_)
                  obtain ⟨I747, R748, rfl, hR749, hI750, hX751, hi752, hi753⟩ := q746
                  have hi754 := (hI750 51 (by decide)).trans hi689
                  have hi755 := (hI750 52 (by decide)).trans hi690
                  have hi756 := (hI750 53 (by decide)).trans hi691
                  have hi757 := (hI750 58 (by decide)).trans hi692
                  have hi758 := (hI750 56 (by decide)).trans hi693
                  have hi759 := (hI750 9 (by decide)).trans hi694
                  have hi760 := (hI750 10 (by decide)).trans hi695
                  have hi761 := (hI750 26 (by decide)).trans hi696
                  have hF_762 := hF_697.mono (cIx hI750 (by decide)) (cRx hX751 (by decide))
                  have hY_763 := hY_698.mono (cIx hI750 (by decide)) (cRx hX751 (by decide))
                  have hP_764 := hP_699.mono (cIx hI750 (by decide)) (cRx hX751 (by decide))
                  have hK_765 := hK_700.mono (cIx hI750 (by decide)) (cRx hX751 (by decide))
                  have hN9_766 := hN9_701.mono (cIx hI750 (by decide)) (cRx hX751 (by decide))
                  have c34_767 := c34_702.mono (cIx hI750 (by decide)) (cRx hX751 (by decide))
                  have c35_768 := c35_703.mono (cIx hI750 (by decide)) (cRx hX751 (by decide))
                  have c36_769 := c36_704.mono (cIx hI750 (by decide)) (cRx hX751 (by decide))
                  have c45_770 := c45_705.mono (cIx hI750 (by decide)) (cRx hX751 (by decide))
                  have c46_771 := c46_706.mono (cIx hI750 (by decide)) (cRx hX751 (by decide))
                  have hX_772 := hX_707.mono (cIx hI750 (by decide)) (cRx hX751 (by decide))
                  have hC_773 := hC_687.mono (cIx hI750 (by decide)) (cRx hX751 (by decide))
                  have hW_774 := hW_688.mono (cIx hI750 (by decide)) (cRx hX751 (by decide))
                  have hQ_775 := hQ7.mono (cIx hI750 (by decide)) (cRx hX751 (by decide))
                  have hEI776 := hEI708.tr hI750 (by decide)
                  have hER777 := hER709.tr hX751 (by decide)
                  show pl _ _ _ (522, [(0, .ref m0), (1, .int (nI p)), (2, .int (nI (by2 f pM))), (3, .int (nI f0)), (4, .int (nI ib)), (5, .int (nI k)), (12, .int (nI (E1 k))), (13, .int 0)], [.int 0], M745) _
                  exact ps_ret rfl rfl (Or.inr ⟨(27, p), I747, R748, by
                      rw [← hs, mtS_st (i := k) (by omega), ← hpk, mh_n hnm hfl hds (by rw [← hd9, show k - j = 0 by omega]; rfl), q462_s]
                      dsimp only
                      rw [cdu_0, if_pos (by omega), if_neg (by omega)], rfl, hR749, hEI776, hER777, hi752, hi753⟩)
              · have c_485 : ¬ (¬ (nI i9) = 0) := of_decide_eq_false c_485
                have n_485 : i9 = 0 := (eq_nI (p := i9) (n := 0) (by omega) (by decide)).mp (Decidable.not_not.mp c_485)
                refine ps_st (S' := (489, [(12, .int (nI (E1 k))), (0, .ref m0), (1, .int (nI p)), (2, .int (nI (by2 f pM))), (3, .int (nI f0)), (4, .int (nI ib)), (5, .int (nI k)), (6, .int (nI (by2 f p))), (7, .int (nI a)), (9, .int (nI i9)), (10, .int (nI d)), (11, .int (nI (f0 + k)))], [.int 1], M649)) rfl rfl rfl ?_
                refine ps_st (S' := (493, [(0, .ref m0), (1, .int (nI p)), (2, .int (nI (by2 f pM))), (3, .int (nI f0)), (4, .int (nI ib)), (5, .int (nI k)), (11, .int (nI (f0 + k))), (12, .int (nI (E1 k)))], [.int 1], M649)) rfl rfl rfl ?_
                refine ps_st (S' := (495, [(13, .int 1), (0, .ref m0), (1, .int (nI p)), (2, .int (nI (by2 f pM))), (3, .int (nI f0)), (4, .int (nI ib)), (5, .int (nI k)), (11, .int (nI (f0 + k))), (12, .int (nI (E1 k)))], [], M649)) rfl rfl rfl ?_
                refine ps_st (S' := (496, [(13, .int 1), (0, .ref m0), (1, .int (nI p)), (2, .int (nI (by2 f pM))), (3, .int (nI f0)), (4, .int (nI ib)), (5, .int (nI k)), (11, .int (nI (f0 + k))), (12, .int (nI (E1 k)))], [.ref m0], M649)) rfl rfl rfl ?_
                refine pr_ref (j := 37) (S' := (499, [(13, .int 1), (0, .ref m0), (1, .int (nI p)), (2, .int (nI (by2 f pM))), (3, .int (nI f0)), (4, .int (nI ib)), (5, .int (nI k)), (11, .int (nI (f0 + k))), (12, .int (nI (E1 k)))], [.ref (q 37)], M649)) rfl hR684 rfl rfl ?_
                refine ps_st (S' := (501, [(13, .int 1), (0, .ref m0), (1, .int (nI p)), (2, .int (nI (by2 f pM))), (3, .int (nI f0)), (4, .int (nI ib)), (5, .int (nI k)), (11, .int (nI (f0 + k))), (12, .int (nI (E1 k)))], [.int (nI (f0 + k)), .ref (q 37)], M649)) rfl rfl rfl ?_
                refine pr_ld (a := 37) (j := f0 + k) (y := y9) (S' := (502, [(13, .int 1), (0, .ref m0), (1, .int (nI p)), (2, .int (nI (by2 f pM))), (3, .int (nI f0)), (4, .int (nI ib)), (5, .int (nI k)), (11, .int (nI (f0 + k))), (12, .int (nI (E1 k)))], [.int y9], M649)) rfl hR684 rfl (by omega) (fun _ => hy9) rfl (fun i1_501 => ?_)
                refine ps_if (S1 := (509, [(13, .int 1), (0, .ref m0), (1, .int (nI p)), (2, .int (nI (by2 f pM))), (3, .int (nI f0)), (4, .int (nI ib)), (5, .int (nI k)), (11, .int (nI (f0 + k))), (12, .int (nI (E1 k)))], [], M649)) (S2 := (505, [(13, .int 1), (0, .ref m0), (1, .int (nI p)), (2, .int (nI (by2 f pM))), (3, .int (nI f0)), (4, .int (nI ib)), (5, .int (nI k)), (11, .int (nI (f0 + k))), (12, .int (nI (E1 k)))], [], M649)) rfl rfl rfl (fun c_502 => ?_) (fun c_502 => ?_)
                · have c_502 : 0 ≤ y9 := of_decide_eq_true c_502
                  have hh9 : ¬ h9680 = 0 := by rcases hyc with h8 | h8; exact absurd h8.2 (Int32.not_lt.mpr c_502); exact h8.1
                  refine ps_st (S' := (510, [(0, .ref m0), (1, .int (nI p)), (2, .int (nI (by2 f pM))), (3, .int (nI f0)), (4, .int (nI ib)), (5, .int (nI k)), (12, .int (nI (E1 k))), (13, .int 1)], [.int 0], M649)) rfl rfl rfl ?_
                  refine ps_st (S' := (512, [(0, .ref m0), (1, .int (nI p)), (2, .int (nI (by2 f pM))), (3, .int (nI f0)), (4, .int (nI ib)), (5, .int (nI k)), (12, .int (nI (E1 k))), (13, .int 1)], [.int 1, .int 0], M649)) rfl rfl rfl ?_
                  refine ps_if2 (S1 := (523, [(0, .ref m0), (1, .int (nI p)), (2, .int (nI (by2 f pM))), (3, .int (nI f0)), (4, .int (nI ib)), (5, .int (nI k)), (12, .int (nI (E1 k))), (13, .int 1)], [], M649)) (S2 := (515, [(0, .ref m0), (1, .int (nI p)), (2, .int (nI (by2 f pM))), (3, .int (nI f0)), (4, .int (nI ib)), (5, .int (nI k)), (12, .int (nI (E1 k))), (13, .int 1)], [], M649)) rfl rfl rfl (fun c_512 => ?_) (fun c_512 => ?_)
                  · exact absurd (of_decide_eq_true c_512) (by decide)
                  refine ps_st (S' := (516, [(0, .ref m0), (1, .int (nI p)), (2, .int (nI (by2 f pM))), (3, .int (nI f0)), (4, .int (nI ib)), (5, .int (nI k)), (12, .int (nI (E1 k))), (13, .int 1)], [.ref m0], M649)) rfl rfl rfl ?_
                  refine ps_st (S' := (518, [(0, .ref m0), (1, .int (nI p)), (2, .int (nI (by2 f pM))), (3, .int (nI f0)), (4, .int (nI ib)), (5, .int (nI k)), (12, .int (nI (E1 k))), (13, .int 1)], [.int 27, .ref m0], M649)) rfl rfl rfl ?_
                  refine ps_st (S' := (519, [(0, .ref m0), (1, .int (nI p)), (2, .int (nI (by2 f pM))), (3, .int (nI f0)), (4, .int (nI ib)), (5, .int (nI k)), (12, .int (nI (E1 k))), (13, .int 1)], [.int (nI p), .int 27, .ref m0], M649)) rfl rfl rfl ?_
                  refine pl_call (a := [.ref m0, .int 27, .int (nI p)]) (rest := []) rfl rfl rfl (rd_wrong (x1 := 27) (x2 := (nI p)) hR684) (fun v778 M779 q780 => ?_)
                  obtain ⟨I781, R782, rfl, hR783, hI784, hX785, hi786, hi787⟩ := q780
                  have hi788 := (hI784 51 (by decide)).trans hi689
                  have hi789 := (hI784 52 (by decide)).trans hi690
                  have hi790 := (hI784 53 (by decide)).trans hi691
                  have hi791 := (hI784 58 (by decide)).trans hi692
                  have hi792 := (hI784 56 (by decide)).trans hi693
                  have hi793 := (hI784 9 (by decide)).trans hi694
                  have hi794 := (hI784 10 (by decide)).trans hi695
                  have hi795 := (hI784 26 (by decide)).trans hi696
                  have hF_796 := hF_697.mono (cIx hI784 (by decide)) (cRx hX785 (by decide))
                  have hY_797 := hY_698.mono (cIx hI784 (by decide)) (cRx hX785 (by decide))
                  have hP_798 := hP_699.mono (cIx hI784 (by decide)) (cRx hX785 (by decide))
                  have hK_799 := hK_700.mono (cIx hI784 (by decide)) (cRx hX785 (by decide))
                  have hN9_800 := hN9_701.mono (cIx hI784 (by decide)) (cRx hX785 (by decide))
                  have c34_801 := c34_702.mono (cIx hI784 (by decide)) (cRx hX785 (by decide))
                  have c35_802 := c35_703.mono (cIx hI784 (by decide)) (cRx hX785 (by decide))
                  have c36_803 := c36_704.mono (cIx hI784 (by decide)) (cRx hX785 (by decide))
                  have c45_804 := c45_705.mono (cIx hI784 (by decide)) (cRx hX785 (by decide))
                  have c46_805 := c46_706.mono (cIx hI784 (by decide)) (cRx hX785 (by decide))
                  have hX_806 := hX_707.mono (cIx hI784 (by decide)) (cRx hX785 (by decide))
                  have hC_807 := hC_687.mono (cIx hI784 (by decide)) (cRx hX785 (by decide))
                  have hW_808 := hW_688.mono (cIx hI784 (by decide)) (cRx hX785 (by decide))
                  have hQ_809 := hQ7.mono (cIx hI784 (by decide)) (cRx hX785 (by decide))
                  have hEI810 := hEI708.tr hI784 (by decide)
                  have hER811 := hER709.tr hX785 (by decide)
                  show pl _ _ _ (522, [(0, .ref m0), (1, .int (nI p)), (2, .int (nI (by2 f pM))), (3, .int (nI f0)), (4, .int (nI ib)), (5, .int (nI k)), (12, .int (nI (E1 k))), (13, .int 1)], [.int 0], M779) _
                  exact ps_ret rfl rfl (Or.inr ⟨(27, p), I781, R782, by
                      rw [← hs, mtS_st (i := k) (by omega), ← hpk, mh_n hnm hfl hds (by rw [← hd9, show k - j = 0 by omega]; rfl), q462_s]
                      dsimp only
                      rw [cdu_0, if_neg (by omega), if_neg (by omega)], rfl, hR783, hEI810, hER811, hi786, hi787⟩)
                · have c_502 : ¬ (0 ≤ y9) := of_decide_eq_false c_502
                  have hh9 : h9680 = 0 := by rcases hyc with h8 | h8; exact h8.1; exact absurd (Int32.not_le.mp c_502) h8.2
                  refine ps_st (S' := (506, [(13, .int 1), (0, .ref m0), (1, .int (nI p)), (2, .int (nI (by2 f pM))), (3, .int (nI f0)), (4, .int (nI ib)), (5, .int (nI k)), (11, .int (nI (f0 + k))), (12, .int (nI (E1 k)))], [.int 1], M649)) rfl rfl rfl ?_
                  refine ps_st (S' := (510, [(0, .ref m0), (1, .int (nI p)), (2, .int (nI (by2 f pM))), (3, .int (nI f0)), (4, .int (nI ib)), (5, .int (nI k)), (12, .int (nI (E1 k))), (13, .int 1)], [.int 1], M649)) rfl rfl rfl ?_
                  refine ps_st (S' := (512, [(0, .ref m0), (1, .int (nI p)), (2, .int (nI (by2 f pM))), (3, .int (nI f0)), (4, .int (nI ib)), (5, .int (nI k)), (12, .int (nI (E1 k))), (13, .int 1)], [.int 1, .int 1], M649)) rfl rfl rfl ?_
                  refine ps_if2 (S1 := (523, [(0, .ref m0), (1, .int (nI p)), (2, .int (nI (by2 f pM))), (3, .int (nI f0)), (4, .int (nI ib)), (5, .int (nI k)), (12, .int (nI (E1 k))), (13, .int 1)], [], M649)) (S2 := (515, [(0, .ref m0), (1, .int (nI p)), (2, .int (nI (by2 f pM))), (3, .int (nI f0)), (4, .int (nI ib)), (5, .int (nI k)), (12, .int (nI (E1 k))), (13, .int 1)], [], M649)) rfl rfl rfl (fun c_512 => ?_) (fun c_512 => ?_)
                  rotate_left
                  · exact absurd (by decide) (of_decide_eq_false c_512)
                  refine ps_st (S' := (525, [(0, .ref m0), (1, .int (nI p)), (2, .int (nI (by2 f pM))), (3, .int (nI f0)), (4, .int (nI ib)), (5, .int (nI k)), (12, .int (nI (E1 k))), (13, .int 1)], [.int (nI (E1 k))], M649)) rfl rfl rfl ?_
                  refine ps_st (S' := (526, [(1, .int (nI (E1 k))), (0, .ref m0), (2, .int (nI (by2 f pM))), (3, .int (nI f0)), (4, .int (nI ib)), (5, .int (nI k)), (12, .int (nI (E1 k))), (13, .int 1)], [], M649)) rfl rfl rfl ?_
                  refine ps_st (S' := (529, [(5, .int ((nI k) + 1)), (1, .int (nI (E1 k))), (0, .ref m0), (2, .int (nI (by2 f pM))), (3, .int (nI f0)), (4, .int (nI ib)), (12, .int (nI (E1 k))), (13, .int 1)], [], M649)) rfl rfl rfl ?_
                  rw [nI_add1 (p := k) (k := 1) (x := 1) rfl (by omega)]
                  show pl _ _ _ (_, [(5, .int (nI (k + 1))), (1, .int (nI (E1 k))), (0, .ref m0), (2, .int (nI (by2 f pM))), (3, .int (nI f0)), (4, .int (nI ib)), (12, .int (nI (E1 k))), (13, .int 1)], [], M649) _
                  refine ps_st (S' := (40, [(0, .ref m0), (1, .int (nI (E1 k))), (2, .int (nI (by2 f pM))), (3, .int (nI f0)), (4, .int (nI ib)), (5, .int (nI (k + 1)))], [], M649)) rfl rfl rfl ?_
                  have hQ8 := MQX.more hQ7 hpk hW_688 q462_U c34_702 c45_705 c46_706
                  have hN8 := FN.more hN9_701 hpk c35_703 c36_704 hsa hsd ht1 ht2
                  exact ih.1 (k + 1) (E1 k) (ib) M649 I682 R683 hR684 hEI708 hER709 hi689 hi690 hi691 hi692 hi693 hi696 hi694 hi695 hF_697 hY_698 hP_699 hK_700 hN8 hQ8 (by omega) (fun h9 => (hm9.2.2.2 (by omega)).symm) (hm9.2.1) (by
                      rw [← hs, mtS_st (i := k) (by omega), ← hpk, mh_n hnm hfl hds (by rw [← hd9, show k - j = 0 by omega]; rfl), q462_s]
                      dsimp only
                      rw [cdu_0, if_neg (by omega), if_pos (by omega)]) (hib)
        · have c_403 : ¬ ((nI (f0 + k)) ≤ (nI (f0 + j))) := of_decide_eq_false c_403
          have n_403 : ¬ (f0 + k ≤ f0 + j) := fun h9 => c_403 ((le_nI (p := f0 + k) (n := f0 + j) (by omega) (by omega)).mpr h9)
          obtain ⟨a9, d9, g1, g2, g3, g4, g5, g6⟩ := hN91 j (by omega)
          have g7 := g3.1
          have g8 := g4.1
          have sm1 := sm_sym (k := by2 f (B.getD j 0 + 2)) (m := by2 f (p + 2)) hY1 g3 hsa g5 ht1
          have sm2 := sm_sym (k := by2 f (B.getD j 0 + 4)) (m := by2 f (p + 4)) hY1 g4 hsd g6 ht2
          refine ps_st (S' := (407, [(0, .ref m0), (1, .int (nI p)), (2, .int (nI (by2 f pM))), (3, .int (nI f0)), (4, .int (nI ib)), (5, .int (nI k)), (6, .int (nI (by2 f p))), (7, .int (nI a)), (9, .int (nI i9)), (10, .int (nI d)), (11, .int (nI (f0 + k))), (12, .int (nI (f0 + j)))], [.ref m0], M1)) rfl rfl rfl ?_
          refine pr_ref (j := 35) (S' := (410, [(0, .ref m0), (1, .int (nI p)), (2, .int (nI (by2 f pM))), (3, .int (nI f0)), (4, .int (nI ib)), (5, .int (nI k)), (6, .int (nI (by2 f p))), (7, .int (nI a)), (9, .int (nI i9)), (10, .int (nI d)), (11, .int (nI (f0 + k))), (12, .int (nI (f0 + j)))], [.ref (q 35)], M1)) rfl hR1 rfl rfl ?_
          refine ps_st (S' := (412, [(0, .ref m0), (1, .int (nI p)), (2, .int (nI (by2 f pM))), (3, .int (nI f0)), (4, .int (nI ib)), (5, .int (nI k)), (6, .int (nI (by2 f p))), (7, .int (nI a)), (9, .int (nI i9)), (10, .int (nI d)), (11, .int (nI (f0 + k))), (12, .int (nI (f0 + j)))], [.int (nI (f0 + j)), .ref (q 35)], M1)) rfl rfl rfl ?_
          refine pr_ld (a := 35) (j := f0 + j) (y := (nI a9)) (S' := (413, [(0, .ref m0), (1, .int (nI p)), (2, .int (nI (by2 f pM))), (3, .int (nI f0)), (4, .int (nI ib)), (5, .int (nI k)), (6, .int (nI (by2 f p))), (7, .int (nI a)), (9, .int (nI i9)), (10, .int (nI d)), (11, .int (nI (f0 + k))), (12, .int (nI (f0 + j)))], [.int (nI a9)], M1)) rfl hR1 rfl (by omega) (fun _ => g1) rfl (fun i1_412 => ?_)
          refine ps_st (S' := (415, [(0, .ref m0), (1, .int (nI p)), (2, .int (nI (by2 f pM))), (3, .int (nI f0)), (4, .int (nI ib)), (5, .int (nI k)), (6, .int (nI (by2 f p))), (7, .int (nI a)), (9, .int (nI i9)), (10, .int (nI d)), (11, .int (nI (f0 + k))), (12, .int (nI (f0 + j)))], [.int (nI a), .int (nI a9)], M1)) rfl rfl rfl ?_
          refine ps_if2 (S1 := (438, [(0, .ref m0), (1, .int (nI p)), (2, .int (nI (by2 f pM))), (3, .int (nI f0)), (4, .int (nI ib)), (5, .int (nI k)), (6, .int (nI (by2 f p))), (7, .int (nI a)), (9, .int (nI i9)), (10, .int (nI d)), (11, .int (nI (f0 + k))), (12, .int (nI (f0 + j)))], [], M1)) (S2 := (418, [(0, .ref m0), (1, .int (nI p)), (2, .int (nI (by2 f pM))), (3, .int (nI f0)), (4, .int (nI ib)), (5, .int (nI k)), (6, .int (nI (by2 f p))), (7, .int (nI a)), (9, .int (nI i9)), (10, .int (nI d)), (11, .int (nI (f0 + k))), (12, .int (nI (f0 + j)))], [], M1)) rfl rfl rfl (fun c_415 => ?_) (fun c_415 => ?_)
          · have c_415 : ¬ (nI a9) = (nI a) := of_decide_eq_true c_415
            have n_415 : ¬ (a9 = a) := fun h9 => c_415 ((eq_nI (p := a9) (n := a) (by omega) (by omega)).mpr h9)
            refine ps_st (S' := (441, [(12, .int ((nI (f0 + j)) + 1)), (0, .ref m0), (1, .int (nI p)), (2, .int (nI (by2 f pM))), (3, .int (nI f0)), (4, .int (nI ib)), (5, .int (nI k)), (6, .int (nI (by2 f p))), (7, .int (nI a)), (9, .int (nI i9)), (10, .int (nI d)), (11, .int (nI (f0 + k)))], [], M1)) rfl rfl rfl ?_
            rw [nI_add1 (p := f0 + j) (k := 1) (x := 1) rfl (by omega)]
            show pl _ _ _ (_, [(12, .int (nI (f0 + j + 1))), (0, .ref m0), (1, .int (nI p)), (2, .int (nI (by2 f pM))), (3, .int (nI f0)), (4, .int (nI ib)), (5, .int (nI k)), (6, .int (nI (by2 f p))), (7, .int (nI a)), (9, .int (nI i9)), (10, .int (nI d)), (11, .int (nI (f0 + k)))], [], M1) _
            refine ps_st (S' := (399, [(0, .ref m0), (1, .int (nI p)), (2, .int (nI (by2 f pM))), (3, .int (nI f0)), (4, .int (nI ib)), (5, .int (nI k)), (6, .int (nI (by2 f p))), (7, .int (nI a)), (9, .int (nI i9)), (10, .int (nI d)), (11, .int (nI (f0 + k))), (12, .int (nI (f0 + j + 1)))], [], M1)) rfl rfl rfl ?_
            exact ih.2.2.2 (k) (p) (ib) (a) (i9) (d) (j + 1) M1 I1 R1 hR1 hEI1 hER1 hl51 hl52 hl53 hl58 hl56 hl26 hl9 hl10 hF1 hY1 hP1 hK1 hN91 c341 c351 c361 hC1 hQ1 hWc1 c451 c461 (hk0) (hpk) (hpe) (hs) (hib) (hsa) (ht1) (hnm) (hfl) (h9c) (hsd) (ht2) (hmt) (hds) (by omega) (hx) (by
                rw [← hd9, smeS_st (i := j) (by omega), if_neg (by omega)])
          · have c_415 : ¬ (¬ (nI a9) = (nI a)) := of_decide_eq_false c_415
            have n_415 : a9 = a := (eq_nI (p := a9) (n := a) (by omega) (by omega)).mp (Decidable.not_not.mp c_415)
            refine ps_st (S' := (419, [(0, .ref m0), (1, .int (nI p)), (2, .int (nI (by2 f pM))), (3, .int (nI f0)), (4, .int (nI ib)), (5, .int (nI k)), (6, .int (nI (by2 f p))), (7, .int (nI a)), (9, .int (nI i9)), (10, .int (nI d)), (11, .int (nI (f0 + k))), (12, .int (nI (f0 + j)))], [.ref m0], M1)) rfl rfl rfl ?_
            refine pr_ref (j := 36) (S' := (422, [(0, .ref m0), (1, .int (nI p)), (2, .int (nI (by2 f pM))), (3, .int (nI f0)), (4, .int (nI ib)), (5, .int (nI k)), (6, .int (nI (by2 f p))), (7, .int (nI a)), (9, .int (nI i9)), (10, .int (nI d)), (11, .int (nI (f0 + k))), (12, .int (nI (f0 + j)))], [.ref (q 36)], M1)) rfl hR1 rfl rfl ?_
            refine ps_st (S' := (424, [(0, .ref m0), (1, .int (nI p)), (2, .int (nI (by2 f pM))), (3, .int (nI f0)), (4, .int (nI ib)), (5, .int (nI k)), (6, .int (nI (by2 f p))), (7, .int (nI a)), (9, .int (nI i9)), (10, .int (nI d)), (11, .int (nI (f0 + k))), (12, .int (nI (f0 + j)))], [.int (nI (f0 + j)), .ref (q 36)], M1)) rfl rfl rfl ?_
            refine pr_ld (a := 36) (j := f0 + j) (y := (nI d9)) (S' := (425, [(0, .ref m0), (1, .int (nI p)), (2, .int (nI (by2 f pM))), (3, .int (nI f0)), (4, .int (nI ib)), (5, .int (nI k)), (6, .int (nI (by2 f p))), (7, .int (nI a)), (9, .int (nI i9)), (10, .int (nI d)), (11, .int (nI (f0 + k))), (12, .int (nI (f0 + j)))], [.int (nI d9)], M1)) rfl hR1 rfl (by omega) (fun _ => g2) rfl (fun i1_424 => ?_)
            refine ps_st (S' := (427, [(0, .ref m0), (1, .int (nI p)), (2, .int (nI (by2 f pM))), (3, .int (nI f0)), (4, .int (nI ib)), (5, .int (nI k)), (6, .int (nI (by2 f p))), (7, .int (nI a)), (9, .int (nI i9)), (10, .int (nI d)), (11, .int (nI (f0 + k))), (12, .int (nI (f0 + j)))], [.int (nI d), .int (nI d9)], M1)) rfl rfl rfl ?_
            refine ps_if2 (S1 := (438, [(0, .ref m0), (1, .int (nI p)), (2, .int (nI (by2 f pM))), (3, .int (nI f0)), (4, .int (nI ib)), (5, .int (nI k)), (6, .int (nI (by2 f p))), (7, .int (nI a)), (9, .int (nI i9)), (10, .int (nI d)), (11, .int (nI (f0 + k))), (12, .int (nI (f0 + j)))], [], M1)) (S2 := (430, [(0, .ref m0), (1, .int (nI p)), (2, .int (nI (by2 f pM))), (3, .int (nI f0)), (4, .int (nI ib)), (5, .int (nI k)), (6, .int (nI (by2 f p))), (7, .int (nI a)), (9, .int (nI i9)), (10, .int (nI d)), (11, .int (nI (f0 + k))), (12, .int (nI (f0 + j)))], [], M1)) rfl rfl rfl (fun c_427 => ?_) (fun c_427 => ?_)
            · have c_427 : ¬ (nI d9) = (nI d) := of_decide_eq_true c_427
              have n_427 : ¬ (d9 = d) := fun h9 => c_427 ((eq_nI (p := d9) (n := d) (by omega) (by omega)).mpr h9)
              refine ps_st (S' := (441, [(12, .int ((nI (f0 + j)) + 1)), (0, .ref m0), (1, .int (nI p)), (2, .int (nI (by2 f pM))), (3, .int (nI f0)), (4, .int (nI ib)), (5, .int (nI k)), (6, .int (nI (by2 f p))), (7, .int (nI a)), (9, .int (nI i9)), (10, .int (nI d)), (11, .int (nI (f0 + k)))], [], M1)) rfl rfl rfl ?_
              rw [nI_add1 (p := f0 + j) (k := 1) (x := 1) rfl (by omega)]
              show pl _ _ _ (_, [(12, .int (nI (f0 + j + 1))), (0, .ref m0), (1, .int (nI p)), (2, .int (nI (by2 f pM))), (3, .int (nI f0)), (4, .int (nI ib)), (5, .int (nI k)), (6, .int (nI (by2 f p))), (7, .int (nI a)), (9, .int (nI i9)), (10, .int (nI d)), (11, .int (nI (f0 + k)))], [], M1) _
              refine ps_st (S' := (399, [(0, .ref m0), (1, .int (nI p)), (2, .int (nI (by2 f pM))), (3, .int (nI f0)), (4, .int (nI ib)), (5, .int (nI k)), (6, .int (nI (by2 f p))), (7, .int (nI a)), (9, .int (nI i9)), (10, .int (nI d)), (11, .int (nI (f0 + k))), (12, .int (nI (f0 + j + 1)))], [], M1)) rfl rfl rfl ?_
              exact ih.2.2.2 (k) (p) (ib) (a) (i9) (d) (j + 1) M1 I1 R1 hR1 hEI1 hER1 hl51 hl52 hl53 hl58 hl56 hl26 hl9 hl10 hF1 hY1 hP1 hK1 hN91 c341 c351 c361 hC1 hQ1 hWc1 c451 c461 (hk0) (hpk) (hpe) (hs) (hib) (hsa) (ht1) (hnm) (hfl) (h9c) (hsd) (ht2) (hmt) (hds) (by omega) (hx) (by
                  rw [← hd9, smeS_st (i := j) (by omega), if_neg (by omega)])
            · have c_427 : ¬ (¬ (nI d9) = (nI d)) := of_decide_eq_false c_427
              have n_427 : d9 = d := (eq_nI (p := d9) (n := d) (by omega) (by omega)).mp (Decidable.not_not.mp c_427)
              refine ps_st (S' := (431, [(0, .ref m0), (1, .int (nI p)), (2, .int (nI (by2 f pM))), (3, .int (nI f0)), (4, .int (nI ib)), (5, .int (nI k)), (6, .int (nI (by2 f p))), (7, .int (nI a)), (9, .int (nI i9)), (10, .int (nI d)), (11, .int (nI (f0 + k))), (12, .int (nI (f0 + j)))], [.ref m0], M1)) rfl rfl rfl ?_
              refine ps_st (S' := (433, [(0, .ref m0), (1, .int (nI p)), (2, .int (nI (by2 f pM))), (3, .int (nI f0)), (4, .int (nI ib)), (5, .int (nI k)), (6, .int (nI (by2 f p))), (7, .int (nI a)), (9, .int (nI i9)), (10, .int (nI d)), (11, .int (nI (f0 + k))), (12, .int (nI (f0 + j)))], [.int 26, .ref m0], M1)) rfl rfl rfl ?_
              refine ps_st (S' := (434, [(0, .ref m0), (1, .int (nI p)), (2, .int (nI (by2 f pM))), (3, .int (nI f0)), (4, .int (nI ib)), (5, .int (nI k)), (6, .int (nI (by2 f p))), (7, .int (nI a)), (9, .int (nI i9)), (10, .int (nI d)), (11, .int (nI (f0 + k))), (12, .int (nI (f0 + j)))], [.int (nI p), .int 26, .ref m0], M1)) rfl rfl rfl ?_
              refine pl_call (a := [.ref m0, .int 26, .int (nI p)]) (rest := []) rfl rfl rfl (rd_wrong (x1 := 26) (x2 := (nI p)) hR1) (fun v812 M813 q814 => ?_)
              obtain ⟨I815, R816, rfl, hR817, hI818, hX819, hi820, hi821⟩ := q814
              have hi822 := (hI818 51 (by decide)).trans hl51
              have hi823 := (hI818 52 (by decide)).trans hl52
              have hi824 := (hI818 53 (by decide)).trans hl53
              have hi825 := (hI818 58 (by decide)).trans hl58
              have hi826 := (hI818 56 (by decide)).trans hl56
              have hi827 := (hI818 26 (by decide)).trans hl26
              have hi828 := (hI818 9 (by decide)).trans hl9
              have hi829 := (hI818 10 (by decide)).trans hl10
              have hF_830 := hF1.mono (cIx hI818 (by decide)) (cRx hX819 (by decide))
              have hY_831 := hY1.mono (cIx hI818 (by decide)) (cRx hX819 (by decide))
              have hP_832 := hP1.mono (cIx hI818 (by decide)) (cRx hX819 (by decide))
              have hK_833 := hK1.mono (cIx hI818 (by decide)) (cRx hX819 (by decide))
              have hN9_834 := hN91.mono (cIx hI818 (by decide)) (cRx hX819 (by decide))
              have c34_835 := c341.mono (cIx hI818 (by decide)) (cRx hX819 (by decide))
              have c35_836 := c351.mono (cIx hI818 (by decide)) (cRx hX819 (by decide))
              have c36_837 := c361.mono (cIx hI818 (by decide)) (cRx hX819 (by decide))
              have hC_838 := hC1.mono (cIx hI818 (by decide)) (cRx hX819 (by decide))
              have hQ_839 := hQ1.mono (cIx hI818 (by decide)) (cRx hX819 (by decide))
              have hWc_840 := hWc1.mono (cIx hI818 (by decide)) (cRx hX819 (by decide))
              have c45_841 := c451.mono (cIx hI818 (by decide)) (cRx hX819 (by decide))
              have c46_842 := c461.mono (cIx hI818 (by decide)) (cRx hX819 (by decide))
              have hEI843 := hEI1.tr hI818 (by decide)
              have hER844 := hER1.tr hX819 (by decide)
              show pl _ _ _ (437, [(0, .ref m0), (1, .int (nI p)), (2, .int (nI (by2 f pM))), (3, .int (nI f0)), (4, .int (nI ib)), (5, .int (nI k)), (6, .int (nI (by2 f p))), (7, .int (nI a)), (9, .int (nI i9)), (10, .int (nI d)), (11, .int (nI (f0 + k))), (12, .int (nI (f0 + j)))], [.int 0], M813) _
              exact ps_ret rfl rfl (Or.inr ⟨(26, p), I815, R816, by
                  rw [← hs, mtS_st (i := k) (by omega), ← hpk, mh_26 hnm hfl hds (by rw [← hd9, smeS_st (i := j) (by omega), if_pos (by omega)]; exact fun h9 => by cases h9)], rfl, hR817, hEI843, hER844, hi820, hi821⟩)
  refine ps_st (S' := (1, [(0, .ref m0)], [.ref m0], M)) rfl rfl rfl ?_
  refine pr_int (j := 56) (S' := (4, [(0, .ref m0)], [.int (nI pM)], M)) rfl hR rfl hi56 rfl ?_
  refine ps_st (S' := (5, [(1, .int (nI pM)), (0, .ref m0)], [], M)) rfl rfl rfl ?_
  refine ps_st (S' := (6, [(1, .int (nI pM)), (0, .ref m0)], [.ref m0], M)) rfl rfl rfl ?_
  refine ps_st (S' := (7, [(1, .int (nI pM)), (0, .ref m0)], [.int (nI pM), .ref m0], M)) rfl rfl rfl ?_
  refine pl_call (a := [.ref m0, .int (nI pM)]) (rest := []) rfl rfl rfl (rd_u2 (n := n) (f := f) (p := pM) hR hF (by omega)) (fun v845 M846 q847 => ?_)
  obtain ⟨rfl, rfl⟩ := q847
  show pl _ _ _ (10, [(1, .int (nI pM)), (0, .ref m0)], [.int (nI (by2 f pM))], M) _
  have hu_7 := by2_lt f pM
  refine ps_st (S' := (11, [(2, .int (nI (by2 f pM))), (1, .int (nI pM)), (0, .ref m0)], [], M)) rfl rfl rfl ?_
  refine ps_st (S' := (14, [(1, .int ((nI pM) + 2)), (2, .int (nI (by2 f pM))), (0, .ref m0)], [], M)) rfl rfl rfl ?_
  rw [nI_add1 (p := pM) (k := 2) (x := 2) rfl (by omega)]
  show pl _ _ _ (_, [(1, .int (nI (pM + 2))), (2, .int (nI (by2 f pM))), (0, .ref m0)], [], M) _
  refine ps_st (S' := (15, [(1, .int (nI (pM + 2))), (2, .int (nI (by2 f pM))), (0, .ref m0)], [.ref m0], M)) rfl rfl rfl ?_
  refine pr_int (j := 26) (S' := (18, [(1, .int (nI (pM + 2))), (2, .int (nI (by2 f pM))), (0, .ref m0)], [.int (nI f0)], M)) rfl hR rfl hi26 rfl ?_
  refine ps_st (S' := (19, [(3, .int (nI f0)), (1, .int (nI (pM + 2))), (2, .int (nI (by2 f pM))), (0, .ref m0)], [], M)) rfl rfl rfl ?_
  refine ps_st (S' := (20, [(3, .int (nI f0)), (1, .int (nI (pM + 2))), (2, .int (nI (by2 f pM))), (0, .ref m0)], [.ref m0], M)) rfl rfl rfl ?_
  refine pr_int (j := 58) (S' := (23, [(3, .int (nI f0)), (1, .int (nI (pM + 2))), (2, .int (nI (by2 f pM))), (0, .ref m0)], [.int (nI cf)], M)) rfl hR rfl hi58 rfl ?_
  refine ps_st (S' := (26, [(3, .int (nI f0)), (1, .int (nI (pM + 2))), (2, .int (nI (by2 f pM))), (0, .ref m0)], [.int 512, .int (nI cf)], M)) rfl rfl rfl ?_
  refine ps_st (S' := (27, [(3, .int (nI f0)), (1, .int (nI (pM + 2))), (2, .int (nI (by2 f pM))), (0, .ref m0)], [.int ((nI cf) &&& 512)], M)) rfl rfl rfl ?_
  rw [nI_an (p := cf) (k := 512) (x := 512) rfl]
  show pl _ _ _ (_, [(3, .int (nI f0)), (1, .int (nI (pM + 2))), (2, .int (nI (by2 f pM))), (0, .ref m0)], [.int (nI (aN cf 512))], M) _
  refine ps_if (S1 := (34, [(3, .int (nI f0)), (1, .int (nI (pM + 2))), (2, .int (nI (by2 f pM))), (0, .ref m0)], [], M)) (S2 := (30, [(3, .int (nI f0)), (1, .int (nI (pM + 2))), (2, .int (nI (by2 f pM))), (0, .ref m0)], [], M)) rfl rfl rfl (fun c_27 => ?_) (fun c_27 => ?_)
  · have c_27 : (nI (aN cf 512)) = 0 := of_decide_eq_true c_27
    have n_27 : aN cf 512 = 0 := (eq_nI (p := aN cf 512) (n := 0) (Nat.lt_of_le_of_lt (an_le _ _) (by decide)) (by decide)).mp c_27
    refine ps_st (S' := (35, [(0, .ref m0), (1, .int (nI (pM + 2))), (2, .int (nI (by2 f pM))), (3, .int (nI f0))], [.int 0], M)) rfl rfl rfl ?_
    refine ps_st (S' := (37, [(4, .int 0), (0, .ref m0), (1, .int (nI (pM + 2))), (2, .int (nI (by2 f pM))), (3, .int (nI f0))], [], M)) rfl rfl rfl ?_
    refine ps_st (S' := (38, [(4, .int 0), (0, .ref m0), (1, .int (nI (pM + 2))), (2, .int (nI (by2 f pM))), (3, .int (nI f0))], [.int 0], M)) rfl rfl rfl ?_
    refine ps_st (S' := (40, [(0, .ref m0), (1, .int (nI (pM + 2))), (2, .int (nI (by2 f pM))), (3, .int (nI f0)), (4, .int 0), (5, .int 0)], [], M)) rfl rfl rfl ?_
    exact (LL kf).1 (0) (pM + 2) (0) M I R hR hEI hER hi51 hi52 hi53 hi58 hi56 hi26 hi9 hi10 hF hY hP hK hFN0 hFQ0 (by omega) (fun h9 => (hMB.2.2.1 (by omega)).symm) (by omega) (rfl) (by omega)
  · have c_27 : ¬ ((nI (aN cf 512)) = 0) := of_decide_eq_false c_27
    have n_27 : ¬ (aN cf 512 = 0) := fun h9 => c_27 ((eq_nI (p := aN cf 512) (n := 0) (Nat.lt_of_le_of_lt (an_le _ _) (by decide)) (by decide)).mpr h9)
    refine ps_st (S' := (31, [(3, .int (nI f0)), (1, .int (nI (pM + 2))), (2, .int (nI (by2 f pM))), (0, .ref m0)], [.int 1], M)) rfl rfl rfl ?_
    refine ps_st (S' := (35, [(0, .ref m0), (1, .int (nI (pM + 2))), (2, .int (nI (by2 f pM))), (3, .int (nI f0))], [.int 1], M)) rfl rfl rfl ?_
    refine ps_st (S' := (37, [(4, .int 1), (0, .ref m0), (1, .int (nI (pM + 2))), (2, .int (nI (by2 f pM))), (3, .int (nI f0))], [], M)) rfl rfl rfl ?_
    refine ps_st (S' := (38, [(4, .int 1), (0, .ref m0), (1, .int (nI (pM + 2))), (2, .int (nI (by2 f pM))), (3, .int (nI f0))], [.int 0], M)) rfl rfl rfl ?_
    refine ps_st (S' := (40, [(0, .ref m0), (1, .int (nI (pM + 2))), (2, .int (nI (by2 f pM))), (3, .int (nI f0)), (4, .int 1), (5, .int 0)], [], M)) rfl rfl rfl ?_
    exact (LL kf).1 (0) (pM + 2) (1) M I R hR hEI hER hi51 hi52 hi53 hi58 hi56 hi26 hi9 hi10 hF hY hP hK hFN0 hFQ0 (by omega) (fun h9 => (hMB.2.2.1 (by omega)).symm) (by omega) (rfl) (by omega)
end
section
/-! what the class keeps (my own text) -/
section KCA
variable {g : xe_G} {f : Nat → Int32} {n N q c da : Nat} {E : List (Nat × Nat)} {M M' : mi_H}
/-- members, whatever became of what isn't theirs -/
theorem MV.mov3 {B : List Nat} {mm k : Nat} {G : Nat → Nat} (h : MV f B mm G k M) (hz : M.2.1 ≤ M'.2.1) (hm : ∀ z c', z < M.2.1 → M.1 z = some c' → (∀ o, c' = .inr o → o.1 = 6) → (∀ k F, c' ≠ ar .byte k F) → M'.1 z = some c') : MV f B mm G k M' :=
  h.move hz (fun C n R e => (hm mm _ h.1 e (fun o h9 => by cases h9) (fun k F h9 => by
    simp only [ar, ro, Sum.inl.injEq, Prod.mk.injEq] at h9
    exact absurd h9.1 (fun e9 => by cases e9))).trans e.symm) (fun i hi x1 x2 x3 x4 v e => ⟨x1, x2, x3, x4, v, hm _ _ (h.2.2.2 i hi).1 e (fun o h9 => by cases h9; rfl) (fun k F h9 => by cases h9), fun _ => ⟨rfl, rfl, rfl, rfl, rfl⟩⟩)
/-- what a kept file tells of its members and its attributes -/
def KCM (f : Nat → Int32) (n : Nat) (E : List (Nat × Nat)) (p1 pF pM pA q : Nat) (w : List Value) (M : mi_H) : Prop := ∃ (fr mr : Nat) (G1 G2 : Nat → Nat) (k1 k2 bc : Nat) (K : KT), w = [.int (nI (by2 f 4)), .int (nI (by2 f 6)), .int (nI p1), .int (nI (by2 f (p1 + 6))), .ref fr, .ref mr, .int (nI (by2 f pA)), .int (nI (pA + 2)), .int (nI K.1), .int (nI bc), .int (nI K.2.1), .int (nI K.2.2.1), .int (nI K.2.2.2.1), .int (nI K.2.2.2.2.1), .int K.2.2.2.2.2] ∧ MV f (mbs f n (by2 f pF) (pF + 2)) fr G1 k1 M ∧ MV f (mbs f n (by2 f pM) (pM + 2)) mr G2 k2 M ∧ s_class f n p1 = .inr pF ∧ s_mbs f n pF = .inr pM ∧ s_mbs f n pM = .inr pA ∧ s_attributes f n pA = .inr n ∧ clS f n E (by2 f p1) (by2 f 6) (by2 f pA) (pA + 2) 0 0 = .inr bc ∧ clU f n E (by2 f 6) (by2 f pA) (pA + 2) (0, 0, 0, 0, 0, -1) = K ∧ DF f n E (mbs f n (by2 f pF) (pF + 2)) G1 (mbs f n (by2 f pF) (pF + 2)).length M ∧ DMk f n E (by2 f 6) q (mbs f n (by2 f pM) (pM + 2)) G2 M
theorem KCM.mov3 {p1 pF pM pA q : Nat} {w : List Value} (h : KCM f n E p1 pF pM pA q w M) (hz : M.2.1 ≤ M'.2.1) (hm : ∀ z c', z < M.2.1 → M.1 z = some c' → (∀ o, c' = .inr o → o.1 = 6) → (∀ k F, c' ≠ ar .byte k F) → M'.1 z = some c') (hq : H4 M M') : KCM f n E p1 pF pM pA q w M' := by
  obtain ⟨fr, mr, G1, G2, k1, k2, bc, K, h1, h2, h3, g1, g2, g3, g4, g5, g6, g7, g8⟩ := h
  exact ⟨fr, mr, G1, G2, k1, k2, bc, K, h1, h2.mov3 hz hm, h3.mov3 hz hm, g1, g2, g3, g4, g5, g6, g7.mov3 hz hm, g8.mov3 hz hm hq⟩
/-- a file that is kept: its bytes, its pool -/
def KC (g : xe_G) (f : Nat → Int32) (n c da : Nat) (M : mi_H) : Prop := ∃ (b q N : Nat) (E : List (Nat × Nat)) (p1 pF pM pA : Nat) (w : List Value), M.1 c = some (ob 3 (.ref b :: .ref q :: w)) ∧ M.1 b = some (ob 1 [.ref da]) ∧ M.1 da = some (ar .byte n f) ∧ PV g f n N E q M ∧ s_whole f n = .inr (E, p1, pF, pM, pA) ∧ N = by2 f 8 ∧ (c < M.2.1 ∧ b < M.2.1 ∧ da < M.2.1) ∧ n ≤ 65540 ∧ KCM f n E p1 pF pM pA q w M
/-- bytes may change, and objects but for pools and literals -/
theorem PV.mov2 (h : PV g f n N E q M) (hz : M.2.1 ≤ M'.2.1) (hm : ∀ z c, z < M.2.1 → M.1 z = some c → (∀ o, c = .inr o → o.1 = 7 ∨ 100 ≤ o.1) → (∀ k F, c ≠ ar .byte k F) → M'.1 z = some c) : PV g f n N E q M' := by
  obtain ⟨hL, H, m, qq, F, cc, ⟨a0, a1, a6⟩, hT, ⟨b0, b1⟩, h3⟩ := h
  have hi : ∀ {z k : Nat} {F : Nat → Int32}, z < M.2.1 → M.1 z = some (ar .int k F) → M'.1 z = some (ar .int k F) := fun hl hc => hm _ _ hl hc (fun o h9 => by cases h9) (fun k F h9 => by simp [ar] at h9)
  have hc : ∀ {z k : Nat} {F : Nat → Int32}, z < M.2.1 → M.1 z = some (ar .char k F) → M'.1 z = some (ar .char k F) := fun hl hc => hm _ _ hl hc (fun o h9 => by cases h9) (fun k F h9 => by simp [ar] at h9)
  have h7 := hm q _ b0 a0 (fun o h9 => by cases h9; exact Or.inl rfl) (fun k F h9 => by cases h9)
  refine ⟨fun k hk => ?_, H, m, qq, F, cc, ⟨h7, fun i h1 h2 => hi (b1 i h1 (by omega)) (a1 i h1 h2), hc (b1 6 (by decide) (by decide)) a6⟩, hT, ⟨by omega, fun i h1 h2 => Nat.lt_of_lt_of_le (b1 i h1 h2) hz⟩, h3⟩
  obtain ⟨k1, k', fl, k2, k3, k4⟩ := hL k hk
  exact ⟨by omega, k', fl, k2, hm _ _ k1 k3 (fun o h9 => by cases h9; exact Or.inr (Nat.le_add_right _ _)) (fun k F h9 => by cases h9), k4⟩
theorem KC.mov2 (h : KC g f n c da M) (hz : M.2.1 ≤ M'.2.1) (hm : ∀ z c', z < M.2.1 → M.1 z = some c' → (∀ o, c' = .inr o → o.1 = 7 ∨ o.1 = 3 ∨ o.1 = 1 ∨ 100 ≤ o.1 ∨ o.1 = 6) → (∀ k F, c' = ar .byte k F → z = da) → M'.1 z = some c') (hq : H4 M M') : KC g f n c da M' := by
  obtain ⟨b, q, N, E, p1, pF, pM, pA, w, h1, h2, h3, h4, h5, h6, ⟨l1, l2, l3⟩, h8⟩ := h
  exact ⟨b, q, N, E, p1, pF, pM, pA, w, hm c _ l1 h1 (fun o h9 => by cases h9; exact Or.inr (Or.inl rfl)) (fun k F h9 => by cases h9), hm b _ l2 h2 (fun o h9 => by cases h9; exact Or.inr (Or.inr (Or.inl rfl))) (fun k F h9 => by cases h9), hm da _ l3 h3 (fun o h9 => by cases h9) (fun k F h9 => rfl), h4.mov2 hz (fun z c' hl hc ho hb => hm z c' hl hc (fun o h9 => (ho o h9).elim Or.inl (fun h => Or.inr (Or.inr (Or.inr (Or.inl h))))) (fun k F h9 => absurd h9 (hb k F))), h5, h6, ⟨by omega, by omega, by omega⟩, h8.1, h8.2.mov3 hz (fun z c' hl hc ho hb => hm z c' hl hc (fun o h9 => Or.inr (Or.inr (Or.inr (Or.inr (ho o h9))))) (fun k F h9 => absurd h9 (hb k F))) hq⟩
theorem KC.fr (h : KC g f n c da M) (hf : frD M M') : KC g f n c da M' :=
  h.mov2 hf.1.2 (fun z c' hl hc ho _ => (hf.1.1 z hl (fun o h9 hw => by
    rw [hc] at h9
    have h1 := ho o (Option.some.inj h9)
    simp only [List.mem_cons, List.not_mem_nil, or_false] at hw
    omega)).trans hc) hf.2
theorem KC.gmk {S : List Nat} (h : KC g f n c da M) (hf : gm S M M') (hs : ∀ z ∈ S, (∃ l, M.1 z = some (ob 11 l)) ∨ (z ≠ da ∧ ∃ k F, M.1 z = some (ar .byte k F))) : KC g f n c da M' :=
  h.mov2 hf.2 (fun z c' hl hc ho hb => (hf.1 z hl (fun hz => by
    rcases hs z hz with ⟨l, e⟩ | ⟨e1, k, F, e⟩
    · rw [hc] at e
      have h1 := ho _ (Option.some.inj e)
      dsimp only at h1
      omega
    · rw [hc] at e
      exact e1 (hb k F (Option.some.inj e)))).trans hc) (fun z l hl hc h9 => ⟨l, (hf.1 z hl (fun hz => by
    rcases hs z hz with ⟨l2, e⟩ | ⟨-, k, F, e⟩
    · rw [hc] at e
      exact ob_411 (Option.some.inj e)
    · rw [hc] at e
      cases e)).trans hc, h9, rfl⟩)
/-- the same cells, others beside them -/
theorem KC.sp {F : Nat → Option mi_C} (h : KC g f n c da M) (hs : spR F M M') : KC g f n c da M' := by
  have ez : M'.2.1 = M.2.1 := by rw [hs.1]
  obtain ⟨b, q, N, E, p1, pF, pM, pA, w, h1, h2, h3, ⟨hL, H, m, qq, F', cc, ⟨a0, a1, a6⟩, hT, ⟨b0, b1⟩, h4⟩, h5, h6, ⟨l1, l2, l3⟩, h8⟩ := h
  refine ⟨b, q, N, E, p1, pF, pM, pA, w, hs.get h1, hs.get h2, hs.get h3, ⟨fun k hk => ?_, H, m, qq, F', cc, ⟨hs.get a0, fun i h1 h2 => hs.get (a1 i h1 h2), hs.get a6⟩, hT, ⟨by omega, fun i h1 h2 => by rw [ez]; exact b1 i h1 h2⟩, h4⟩, h5, h6, ⟨by omega, by omega, by omega⟩, h8.1, h8.2.mov3 (by omega) (fun z c' _ hc _ _ => hs.get hc) (fun z l _ hc h9 => ⟨l, hs.get hc, h9, rfl⟩)⟩
  obtain ⟨k1, k', fl, k2, k3, k4⟩ := hL k hk
  exact ⟨by omega, k', fl, k2, hs.get k3, k4⟩
/-- what is kept, if anything is -/
def KPC (g : xe_G) (ko : Option (Nat × (Nat → Int32))) (kv : Value) (cm : Nat) (M : mi_H) : Prop := match ko with
  | none => kv = .null
  | some p => ∃ c da, kv = .ref c ∧ KC g p.2 p.1 c da M ∧ da ≠ cm ∧ s_read p.2 p.1 = none
variable {ko : Option (Nat × (Nat → Int32))} {kv : Value} {cm x : Nat}
theorem KPC.mov (h : KPC g ko kv cm M) (hz : M.2.1 ≤ M'.2.1) (hm : ∀ a c', a < M.2.1 → M.1 a = some c' → (∀ l, c' ≠ ob 11 l) → M'.1 a = some c') : KPC g ko kv cm M' := by
  cases ko with
  | none => exact h
  | some p =>
    obtain ⟨c, da, h1, h2, h3, h4⟩ := h
    refine ⟨c, da, h1, h2.mov2 hz (fun z c' hl hc ho _ => hm z c' hl hc (fun l e => ?_)) (fun z l hl hc h9 => ⟨l, hm z _ hl hc (fun l2 e => ob_411 e), h9, rfl⟩), h3, h4⟩
    have h9 := ho (11, fun i => l[i]?) e
    dsimp only at h9
    omega
theorem KPC.fr (h : KPC g ko kv cm M) (hf : frD M M') : KPC g ko kv cm M' := by
  cases ko with
  | none => exact h
  | some p =>
    obtain ⟨c, da, h1, h2, h3, h4⟩ := h
    exact ⟨c, da, h1, h2.fr hf, h3, h4⟩
theorem KPC.gmk {S : List Nat} (h : KPC g ko kv cm M) (hf : gm S M M') (hs : ∀ z ∈ S, ∃ l, M.1 z = some (ob 11 l)) : KPC g ko kv cm M' := by
  cases ko with
  | none => exact h
  | some p =>
    obtain ⟨c, da, h1, h2, h3, h4⟩ := h
    exact ⟨c, da, h1, h2.gmk hf (fun z hz => Or.inl (hs z hz)), h3, h4⟩
theorem KPC.gmk2 {cm2 m : Nat} {C : Nat → Int32} {l : List Value} (h : KPC g ko kv cm M) (hf : gm [x, cm] M M') (hx : M.1 x = some (ob 11 l)) (hc : M.1 cm = some (ar .byte m C)) (hd : cm2 = cm ∨ M.2.1 ≤ cm2) : KPC g ko kv cm2 M' := by
  cases ko with
  | none => exact h
  | some p =>
    obtain ⟨c, da, h1, h2, h3, h4⟩ := h
    have hl : da < M.2.1 := by
      obtain ⟨b, q, N, E, p1, pF, pM, pA, w, -, -, -, -, -, -, ⟨-, -, l3⟩, -⟩ := h2
      exact l3
    refine ⟨c, da, h1, h2.gmk hf (fun z hz => ?_), fun e => ?_, h4⟩
    · simp only [List.mem_cons, List.not_mem_nil, or_false] at hz
      rcases hz with rfl | rfl
      · exact Or.inl ⟨l, hx⟩
      · exact Or.inr ⟨fun e => h3 e.symm, m, C, hc⟩
    · rcases hd with e2 | e2
      · exact h3 (e.trans e2)
      · omega
end KCA
set_option maxHeartbeats 1000000 in
theorem dk_holds2_c {g : xe_G} {M : mi_H} {f : Nat → Int32} {n N q : Nat} {E : List (Nat × Nat)} {ox ac o z9 c b da vd fr mr fa ic mj na pa e0 : Nat} {s1 mi ru wa k1 : Int32} {B1 B2 : List Nat} {G1 G2 : Nat → Nat} {og ga gf : Nat} {gn gw : Int32} {gk : Value} (h_ox : M.1 ox = some (ob 8 [.ref q, .int (nI mj), .ref vd])) (h_ac : M.1 ac = some (ob 0 [.ref c, .ref b, .ref q, .ref vd, .int s1])) (h_o : M.1 o = some (ob 2 [.ref c, .ref b, .ref q, .ref vd, .ref ac])) (h_c : M.1 c = some (ob 3 [.ref b, .ref q, .int mi, .int (nI mj), .int (nI fa), .int (nI ic), .ref fr, .ref mr, .int (nI na), .int (nI pa), .int k1, .int 0, .int 0, .int 0, .int 0, .int 0, .int (-1)])) (h_b : M.1 b = some (ob 1 [.ref da])) (h_da : M.1 da = some (ar .byte n f)) (h_vd : M.1 vd = some (ob 10 [.int ru, .int wa])) (h_og : M.1 og = some (ob 11 [.ref ga, .int gn, .ref gf, gk, .int gw])) (hn : n ≤ 65540) (hmj : mj < 65536) (hfa : fa + 8 ≤ n) (hic : fa + 8 + 2 * ic ≤ n) (hic2 : ic < 65536) (hna : na < 65536 ∧ pa ≤ n) (hat : s_atts f n na pa = .inr e0) (hB91 : B1.length < 65536) (hB92 : B2.length < 65536) (hB1 : ∀ i, i < B1.length → B1.getD i 0 + 8 ≤ n ∧ ∃ e0, s_atts f n (by2 f (B1.getD i 0 + 6)) (B1.getD i 0 + 8) = .inr e0) (hB2 : ∀ i, i < B2.length → B2.getD i 0 + 8 ≤ n ∧ ∃ e0, s_atts f n (by2 f (B2.getD i 0 + 6)) (B2.getD i 0 + 8) = .inr e0) (hDs : ∀ i j, i < B1.length → j < B2.length → ¬ G1 i = G2 j) (l_c : c < M.2.1) (l_b : b < M.2.1) (l_da : da < M.2.1) (l_vd : vd < M.2.1) (l_q : q < M.2.1) (l_og : og < M.2.1) (l_ox : ox < M.2.1) (l_ac : ac < M.2.1) (l_o : o < M.2.1) (hz9 : z9 ≤ M.2.1) (hq40 : chkP f n E mj (N - 1) 1 = none) (hq48 : hdS f n E fa = none) (hq56 : ifS f n E (fa + 8) ic 0 = none) (hq64 : flS f n E (by2 f fa) B1 B1.length 0 = none) (hq72 : mtS f n E (by2 f fa) mj B2 B2.length 0 = none) (hV : PV g f n N E q M) (hM1 : MV f B1 fr G1 B1.length M) (hM2 : MV f B2 mr G2 B2.length M) (hDF : DF f n E B1 G1 B1.length M) (hDM : DMe f n E mj q b B2 G2 M) (kf : Nat) : pl (mT g) kf (mb_11 g).2 (78, [(4, .ref o), (3, .ref ac), (2, .ref ox), (0, .ref c), (1, .ref vd)], [], M) (fun v M' => (∃ (bc : Nat) (K : KT), (s_chk f n N E mj fa ic B1 B2 na pa = none) ∧ (clS f n E (by2 f fa) mj na pa 0 0 = .inr bc) ∧ (clU f n E mj na pa (0, 0, 0, 0, 0, -1) = K) ∧ (PV g f n N E q M') ∧ (MV f B1 fr G1 B1.length M') ∧ (MV f B2 mr G2 B2.length M') ∧ (DF f n E B1 G1 B1.length M') ∧ (DMe f n E mj q b B2 G2 M') ∧ v = some (.int 1) ∧ M'.1 vd = some (ob 10 [.int ru, .int wa]) ∧ M'.1 og = some (ob 11 [.ref ga, .int gn, .ref gf, gk, .int gw]) ∧ M'.1 c = some (ob 3 [.ref b, .ref q, .int mi, .int (nI mj), .int (nI fa), .int (nI ic), .ref fr, .ref mr, .int (nI na), .int (nI pa), .int (nI K.1), .int (nI bc), .int (nI K.2.1), .int (nI K.2.2.1), .int (nI K.2.2.2.1), .int (nI K.2.2.2.2.1), .int K.2.2.2.2.2]) ∧ M'.1 b = some (ob 1 [.ref da]) ∧ M'.1 da = some (ar .byte n f) ∧ z9 ≤ M'.2.1) ∨ (∃ (e9 : Nat × Nat), (s_chk f n N E mj fa ic B1 B2 na pa = some e9) ∧ v = some (.int 0) ∧ M'.1 vd = some (ob 10 [.int (nI e9.1), .int (nI e9.2)]) ∧ M'.1 og = some (ob 11 [.ref ga, .int gn, .ref gf, gk, .int gw]) ∧ z9 ≤ M'.2.1)) := by
  obtain ⟨z0, tp0⟩ : ∃ z0, M.2.1 = z0 := ⟨_, rfl⟩
  refine ps_st (S' := (79, [(4, .ref o), (3, .ref ac), (2, .ref ox), (0, .ref c), (1, .ref vd)], [.ref ac], M)) rfl rfl rfl ?_
  refine pl_call (a := [.ref ac]) (rest := []) rfl rfl rfl (dk_ofClass (f := f) (n := n) (N := N) (q := q) (E := E) (ac := ac) (c := c) (b := b) (da := da) (vd := vd) (fr := fr) (mr := mr) (fa := fa) (ic := ic) (mj := mj) (na := na) (pa := pa) (mi := mi) (ru := ru) (wa := wa) (s1 := s1) (k1 := k1) (e0 := e0) (bc0 := 0) (K0 := (0, 0, 0, 0, 0, -1)) h_ac h_b h_da h_c h_vd (hn) (hmj) (hfa) (hna) (by decide) (hat) (rfl) (hV)) (fun v1 M2 q3 => ?_)
  rcases q3 with q3 | q3
  · skip
    obtain ⟨bc4, K5, s26, q79_s, q79_l, q79_U, rfl, h7, h8, h9, f10⟩ := q3
    have h12 := (f10.1 ox (nin3 (ob_ne h_ox h_ac (by decide)) (ob_ne h_ox h_vd (by decide)) (ob_ne h_ox h_c (by decide)))).trans h_ox
    have h13 := (f10.1 o (nin3 (ob_ne h_o h_ac (by decide)) (ob_ne h_o h_vd (by decide)) (ob_ne h_o h_c (by decide)))).trans h_o
    have h14 := (f10.1 b (nin3 (ob_ne h_b h_ac (by decide)) (ob_ne h_b h_vd (by decide)) (ob_ne h_b h_c (by decide)))).trans h_b
    have h15 := (f10.1 da (nin3 (Ne.symm (ob_ar h_ac h_da)) (Ne.symm (ob_ar h_vd h_da)) (Ne.symm (ob_ar h_c h_da)))).trans h_da
    have h16 := (f10.1 og (nin3 (ob_ne h_og h_ac (by decide)) (ob_ne h_og h_vd (by decide)) (ob_ne h_og h_c (by decide)))).trans h_og
    have tp18 : M2.2.1 = z0 := by rw [f10.2]; exact tp0
    have hV19 := hV.keep f10.gm (n7c h_ac (by decide) (n7c h_vd (by decide) (n7c h_c (by decide) (n7nil))))
    have hV20 := hM1.keep f10.gm (n6o h_ac (by decide) (n6o h_vd (by decide) (n6o h_c (by decide) (n6on))))
    have hV21 := hM2.keep f10.gm (n6o h_ac (by decide) (n6o h_vd (by decide) (n6o h_c (by decide) (n6on))))
    have hV22 := hDF.keep f10.gm (nDc h_ac (by decide) (nDc h_vd (by decide) (nDc h_c (by decide) (nDn))))
    have hV23 := hDM.keep f10.gm (nDc h_ac (by decide) (nDc h_vd (by decide) (nDc h_c (by decide) (nDn))))
    show pl _ _ _ (82, [(4, .ref o), (3, .ref ac), (2, .ref ox), (0, .ref c), (1, .ref vd)], [.int 1], M2) _
    clear h_ox h_ac h_o h_c h_b h_da h_vd h_og hV hM1 hM2 hDF hDM f10
    refine ps_if (S1 := (100, [], [], M2)) (S2 := (85, [(4, .ref o), (3, .ref ac), (2, .ref ox), (0, .ref c), (1, .ref vd)], [], M2)) rfl rfl rfl (fun c_82 => ?_) (fun c_82 => ?_)
    · exact absurd (of_decide_eq_true c_82) (by decide)
    refine ps_st (S' := (86, [(4, .ref o), (3, .ref ac), (2, .ref ox), (0, .ref c), (1, .ref vd)], [.ref ox], M2)) rfl rfl rfl ?_
    refine ps_st (S' := (87, [(4, .ref o), (3, .ref ac), (2, .ref ox), (0, .ref c), (1, .ref vd)], [.ref c, .ref ox], M2)) rfl rfl rfl ?_
    refine ps_get (S' := (90, [(4, .ref o), (3, .ref ac), (2, .ref ox), (0, .ref c), (1, .ref vd)], [.int (nI bc4), .ref ox], M2)) rfl h9 rfl rfl ?_
    refine pl_call (a := [.ref ox, .int (nI bc4)]) (rest := []) rfl rfl rfl (dk_bootstrapsHold (f := f) (n := n) (N := N) (q := q) (E := E) (o := ox) (vd := vd) (mj := mj) (bc := bc4) (ru := ru) (wa := wa) h12 h7 (hmj) (q79_l) (hV19)) (fun v24 M25 q26 => ?_)
    rcases q26 with q26 | q26
    · skip
      obtain ⟨q90_s, rfl, h27, f28⟩ := q26
      have h30 := (f28.1 ox (nin1 (ob_ne h12 h7 (by decide)))).trans h12
      have h31 := (f28.1 ac (nin1 (ob_ne h8 h7 (by decide)))).trans h8
      have h32 := (f28.1 o (nin1 (ob_ne h13 h7 (by decide)))).trans h13
      have h33 := (f28.1 c (nin1 (ob_ne h9 h7 (by decide)))).trans h9
      have h34 := (f28.1 b (nin1 (ob_ne h14 h7 (by decide)))).trans h14
      have h35 := (f28.1 da (nin1 (Ne.symm (ob_ar h7 h15)))).trans h15
      have h36 := (f28.1 og (nin1 (ob_ne h16 h7 (by decide)))).trans h16
      have tp38 : M25.2.1 = z0 := by rw [f28.2]; exact tp18
      have hV39 := hV19.keep f28.gm (n7c h7 (by decide) (n7nil))
      have hV40 := hV20.keep f28.gm (n6o h7 (by decide) (n6on))
      have hV41 := hV21.keep f28.gm (n6o h7 (by decide) (n6on))
      have hV42 := hV22.keep f28.gm (nDc h7 (by decide) (nDn))
      have hV43 := hV23.keep f28.gm (nDc h7 (by decide) (nDn))
      show pl _ _ _ (93, [(4, .ref o), (3, .ref ac), (2, .ref ox), (0, .ref c), (1, .ref vd)], [.int 1], M25) _
      clear h12 h8 h13 h9 h14 h15 h7 h16 hV19 hV20 hV21 hV22 hV23 f28
      refine ps_if (S1 := (100, [], [], M25)) (S2 := (96, [(4, .ref o), (3, .ref ac), (2, .ref ox), (0, .ref c), (1, .ref vd)], [], M25)) rfl rfl rfl (fun c_93 => ?_) (fun c_93 => ?_)
      · exact absurd (of_decide_eq_true c_93) (by decide)
      refine ps_st (S' := (97, [(4, .ref o), (3, .ref ac), (2, .ref ox), (0, .ref c), (1, .ref vd)], [.int 1], M25)) rfl rfl rfl ?_
      refine ps_st (S' := (101, [], [.int 1], M25)) rfl rfl rfl ?_
      exact ps_ret rfl rfl (Or.inl ⟨bc4, K5, by
          unfold s_chk
          rw [hq40]
          try dsimp only
          rw [hq48]
          try dsimp only
          rw [hq56]
          try dsimp only
          rw [hq64]
          try dsimp only
          rw [hq72]
          try dsimp only
          rw [q79_s]
          try dsimp only
          rw [q90_s]
          try dsimp only
          first | done | rfl, q79_s, q79_U, hV39, hV40, hV41, hV42, hV43, rfl, h27, h36, h33, h34, h35, by omega⟩)
    · skip
      obtain ⟨e44, q90_s, rfl, h45, f46⟩ := q26
      have h48 := (f46.1 ox (nin1 (ob_ne h12 h7 (by decide)))).trans h12
      have h49 := (f46.1 ac (nin1 (ob_ne h8 h7 (by decide)))).trans h8
      have h50 := (f46.1 o (nin1 (ob_ne h13 h7 (by decide)))).trans h13
      have h51 := (f46.1 c (nin1 (ob_ne h9 h7 (by decide)))).trans h9
      have h52 := (f46.1 b (nin1 (ob_ne h14 h7 (by decide)))).trans h14
      have h53 := (f46.1 da (nin1 (Ne.symm (ob_ar h7 h15)))).trans h15
      have h54 := (f46.1 og (nin1 (ob_ne h16 h7 (by decide)))).trans h16
      have tp56 : M25.2.1 = z0 := by rw [f46.2]; exact tp18
      have hV57 := hV19.keep f46.gm (n7c h7 (by decide) (n7nil))
      have hV58 := hV20.keep f46.gm (n6o h7 (by decide) (n6on))
      have hV59 := hV21.keep f46.gm (n6o h7 (by decide) (n6on))
      have hV60 := hV22.keep f46.gm (nDc h7 (by decide) (nDn))
      have hV61 := hV23.keep f46.gm (nDc h7 (by decide) (nDn))
      show pl _ _ _ (93, [(4, .ref o), (3, .ref ac), (2, .ref ox), (0, .ref c), (1, .ref vd)], [.int 0], M25) _
      clear h12 h8 h13 h9 h14 h15 h7 h16 hV19 hV20 hV21 hV22 hV23 f46
      refine ps_if (S1 := (100, [], [], M25)) (S2 := (96, [(4, .ref o), (3, .ref ac), (2, .ref ox), (0, .ref c), (1, .ref vd)], [], M25)) rfl rfl rfl (fun c_93 => ?_) (fun c_93 => ?_)
      rotate_left
      · exact absurd (by decide) (of_decide_eq_false c_93)
      refine ps_st (S' := (101, [], [.int 0], M25)) rfl rfl rfl ?_
      exact ps_ret rfl rfl (Or.inr ⟨e44, by
          unfold s_chk
          rw [hq40]
          try dsimp only
          rw [hq48]
          try dsimp only
          rw [hq56]
          try dsimp only
          rw [hq64]
          try dsimp only
          rw [hq72]
          try dsimp only
          rw [q79_s]
          try dsimp only
          rw [q90_s]
          try dsimp only
          first | done | rfl, rfl, h45, h54, by omega⟩)
  · skip
    obtain ⟨e962, q79_s, rfl, h63, f64⟩ := q3
    have h66 := (f64.1 ox (nin3 (ob_ne h_ox h_ac (by decide)) (ob_ne h_ox h_vd (by decide)) (ob_ne h_ox h_c (by decide)))).trans h_ox
    have h67 := (f64.1 o (nin3 (ob_ne h_o h_ac (by decide)) (ob_ne h_o h_vd (by decide)) (ob_ne h_o h_c (by decide)))).trans h_o
    have h68 := (f64.1 b (nin3 (ob_ne h_b h_ac (by decide)) (ob_ne h_b h_vd (by decide)) (ob_ne h_b h_c (by decide)))).trans h_b
    have h69 := (f64.1 da (nin3 (Ne.symm (ob_ar h_ac h_da)) (Ne.symm (ob_ar h_vd h_da)) (Ne.symm (ob_ar h_c h_da)))).trans h_da
    have h70 := (f64.1 og (nin3 (ob_ne h_og h_ac (by decide)) (ob_ne h_og h_vd (by decide)) (ob_ne h_og h_c (by decide)))).trans h_og
    have tp72 : M2.2.1 = z0 := by rw [f64.2]; exact tp0
    have hV73 := hV.keep f64.gm (n7c h_ac (by decide) (n7c h_vd (by decide) (n7c h_c (by decide) (n7nil))))
    have hV74 := hM1.keep f64.gm (n6o h_ac (by decide) (n6o h_vd (by decide) (n6o h_c (by decide) (n6on))))
    have hV75 := hM2.keep f64.gm (n6o h_ac (by decide) (n6o h_vd (by decide) (n6o h_c (by decide) (n6on))))
    have hV76 := hDF.keep f64.gm (nDc h_ac (by decide) (nDc h_vd (by decide) (nDc h_c (by decide) (nDn))))
    have hV77 := hDM.keep f64.gm (nDc h_ac (by decide) (nDc h_vd (by decide) (nDc h_c (by decide) (nDn))))
    show pl _ _ _ (82, [(4, .ref o), (3, .ref ac), (2, .ref ox), (0, .ref c), (1, .ref vd)], [.int 0], M2) _
    clear h_ox h_ac h_o h_c h_b h_da h_vd h_og hV hM1 hM2 hDF hDM f64
    refine ps_if (S1 := (100, [], [], M2)) (S2 := (85, [(4, .ref o), (3, .ref ac), (2, .ref ox), (0, .ref c), (1, .ref vd)], [], M2)) rfl rfl rfl (fun c_82 => ?_) (fun c_82 => ?_)
    rotate_left
    · exact absurd (by decide) (of_decide_eq_false c_82)
    refine ps_st (S' := (101, [], [.int 0], M2)) rfl rfl rfl ?_
    exact ps_ret rfl rfl (Or.inr ⟨e962, by
        unfold s_chk
        rw [hq40]
        try dsimp only
        rw [hq48]
        try dsimp only
        rw [hq56]
        try dsimp only
        rw [hq64]
        try dsimp only
        rw [hq72]
        try dsimp only
        rw [q79_s]
        try dsimp only
        first | done | rfl, rfl, h63, h70, by omega⟩)
set_option maxHeartbeats 1000000 in
theorem dk_holds2_b {g : xe_G} {M : mi_H} {f : Nat → Int32} {n N q : Nat} {E : List (Nat × Nat)} {ox ac o z9 c b da vd fr mr fa ic mj na pa e0 : Nat} {s1 mi ru wa k1 : Int32} {B1 B2 : List Nat} {G1 G2 : Nat → Nat} {og ga gf : Nat} {gn gw : Int32} {gk : Value} (h_ox : M.1 ox = some (ob 8 [.ref q, .int (nI mj), .ref vd])) (h_ac : M.1 ac = some (ob 0 [.ref c, .ref b, .ref q, .ref vd, .int s1])) (h_o : M.1 o = some (ob 2 [.ref c, .ref b, .ref q, .ref vd, .ref ac])) (h_c : M.1 c = some (ob 3 [.ref b, .ref q, .int mi, .int (nI mj), .int (nI fa), .int (nI ic), .ref fr, .ref mr, .int (nI na), .int (nI pa), .int k1, .int 0, .int 0, .int 0, .int 0, .int 0, .int (-1)])) (h_b : M.1 b = some (ob 1 [.ref da])) (h_da : M.1 da = some (ar .byte n f)) (h_vd : M.1 vd = some (ob 10 [.int ru, .int wa])) (h_og : M.1 og = some (ob 11 [.ref ga, .int gn, .ref gf, gk, .int gw])) (hn : n ≤ 65540) (hmj : mj < 65536) (hfa : fa + 8 ≤ n) (hic : fa + 8 + 2 * ic ≤ n) (hic2 : ic < 65536) (hna : na < 65536 ∧ pa ≤ n) (hat : s_atts f n na pa = .inr e0) (hB91 : B1.length < 65536) (hB92 : B2.length < 65536) (hB1 : ∀ i, i < B1.length → B1.getD i 0 + 8 ≤ n ∧ ∃ e0, s_atts f n (by2 f (B1.getD i 0 + 6)) (B1.getD i 0 + 8) = .inr e0) (hB2 : ∀ i, i < B2.length → B2.getD i 0 + 8 ≤ n ∧ ∃ e0, s_atts f n (by2 f (B2.getD i 0 + 6)) (B2.getD i 0 + 8) = .inr e0) (hDs : ∀ i j, i < B1.length → j < B2.length → ¬ G1 i = G2 j) (l_c : c < M.2.1) (l_b : b < M.2.1) (l_da : da < M.2.1) (l_vd : vd < M.2.1) (l_q : q < M.2.1) (l_og : og < M.2.1) (l_ox : ox < M.2.1) (l_ac : ac < M.2.1) (l_o : o < M.2.1) (hz9 : z9 ≤ M.2.1) (hq40 : chkP f n E mj (N - 1) 1 = none) (hq48 : hdS f n E fa = none) (hq56 : ifS f n E (fa + 8) ic 0 = none) (hV : PV g f n N E q M) (hM1 : MV f B1 fr G1 0 M) (hM2 : MV f B2 mr G2 0 M) (kf : Nat) : pl (mT g) kf (mb_11 g).2 (62, [(4, .ref o), (3, .ref ac), (2, .ref ox), (0, .ref c), (1, .ref vd)], [], M) (fun v M' => (∃ (bc : Nat) (K : KT), (s_chk f n N E mj fa ic B1 B2 na pa = none) ∧ (clS f n E (by2 f fa) mj na pa 0 0 = .inr bc) ∧ (clU f n E mj na pa (0, 0, 0, 0, 0, -1) = K) ∧ (PV g f n N E q M') ∧ (MV f B1 fr G1 B1.length M') ∧ (MV f B2 mr G2 B2.length M') ∧ (DF f n E B1 G1 B1.length M') ∧ (DMe f n E mj q b B2 G2 M') ∧ v = some (.int 1) ∧ M'.1 vd = some (ob 10 [.int ru, .int wa]) ∧ M'.1 og = some (ob 11 [.ref ga, .int gn, .ref gf, gk, .int gw]) ∧ M'.1 c = some (ob 3 [.ref b, .ref q, .int mi, .int (nI mj), .int (nI fa), .int (nI ic), .ref fr, .ref mr, .int (nI na), .int (nI pa), .int (nI K.1), .int (nI bc), .int (nI K.2.1), .int (nI K.2.2.1), .int (nI K.2.2.2.1), .int (nI K.2.2.2.2.1), .int K.2.2.2.2.2]) ∧ M'.1 b = some (ob 1 [.ref da]) ∧ M'.1 da = some (ar .byte n f) ∧ z9 ≤ M'.2.1) ∨ (∃ (e9 : Nat × Nat), (s_chk f n N E mj fa ic B1 B2 na pa = some e9) ∧ v = some (.int 0) ∧ M'.1 vd = some (ob 10 [.int (nI e9.1), .int (nI e9.2)]) ∧ M'.1 og = some (ob 11 [.ref ga, .int gn, .ref gf, gk, .int gw]) ∧ z9 ≤ M'.2.1)) := by
  obtain ⟨z0, tp0⟩ : ∃ z0, M.2.1 = z0 := ⟨_, rfl⟩
  refine ps_st (S' := (64, [(4, .ref o), (3, .ref ac), (2, .ref ox), (0, .ref c), (1, .ref vd)], [.ref o], M)) rfl rfl rfl ?_
  refine pl_call (a := [.ref o]) (rest := []) rfl rfl rfl (dk_fieldsHold7 (f := f) (n := n) (N := N) (q := q) (E := E) (o := o) (c := c) (b := b) (da := da) (vd := vd) (ac := ac) (mr := mr) (fa := fa) (ic := ic) (mj := mj) (na := na) (pa := pa) (mi := mi) (ru := ru) (wa := wa) (k1 := k1) (k2 := 0) (k3 := 0) (k4 := 0) (k5 := 0) (k6 := 0) (k7 := (-1)) (ox := ox) (og := og) (ga := ga) (gf := gf) (gn := gn) (gw := gw) (gk := gk) (s1 := s1) (B := B1) (G := G1) (mm := fr) (B2 := B2) (G2 := G2) (m2 := mr) (kk2 := 0) h_ox h_og h_o h_c h_b h_da h_vd h_ac (hn) (hmj) (hfa) (hB91) (hB1) (hDs) (by omega) (by omega) (by omega) (by omega) (by omega) (by omega) (by omega) (by omega) (by omega) (hV) (hM1) (hM2)) (fun v1 M2 q3 => ?_)
  rcases q3 with q3 | q3
  · skip
    obtain ⟨s24, q64_s, q64_V, q64_W, q64_X, q64_D, rfl, h5, h6, h7, h8, h9, h10, h11, h12, tp14⟩ := q3
    obtain ⟨t15, tp16⟩ : ∃ t9, M2.2.1 = t9 := ⟨_, rfl⟩
    rw [tp0, tp16] at tp14
    show pl _ _ _ (67, [(4, .ref o), (3, .ref ac), (2, .ref ox), (0, .ref c), (1, .ref vd)], [.int 1], M2) _
    refine ps_if (S1 := (100, [], [], M2)) (S2 := (70, [(4, .ref o), (3, .ref ac), (2, .ref ox), (0, .ref c), (1, .ref vd)], [], M2)) rfl rfl rfl (fun c_67 => ?_) (fun c_67 => ?_)
    · exact absurd (of_decide_eq_true c_67) (by decide)
    refine ps_st (S' := (72, [(4, .ref o), (3, .ref ac), (2, .ref ox), (0, .ref c), (1, .ref vd)], [.ref o], M2)) rfl rfl rfl ?_
    refine pl_call (a := [.ref o]) (rest := []) rfl rfl rfl (dk_methodsHold7 (f := f) (n := n) (N := N) (q := q) (E := E) (o := o) (c := c) (b := b) (da := da) (vd := vd) (ac := ac) (fr := fr) (fa := fa) (ic := ic) (mj := mj) (na := na) (pa := pa) (mi := mi) (ru := ru) (wa := wa) (k1 := k1) (k2 := 0) (k3 := 0) (k4 := 0) (k5 := 0) (k6 := 0) (k7 := (-1)) (ox := ox) (og := og) (ga := ga) (gf := gf) (gn := gn) (gw := gw) (gk := gk) (s1 := s24) (B := B2) (G := G2) (mm := mr) (B2 := B1) (G2 := G1) (m2 := fr) (kk2 := B1.length) h5 h6 h7 h8 h9 h10 h11 h12 (hn) (hmj) (hfa) (hB92) (hB2) (fun i j hi hj e9 => hDs j i hj hi e9.symm) (by omega) (by omega) (by omega) (by omega) (by omega) (by omega) (by omega) (by omega) (by omega) (q64_V) (q64_W) (q64_X) (q64_D)) (fun v17 M18 q19 => ?_)
    rcases q19 with q19 | q19
    · skip
      obtain ⟨s220, q72_s, q72_V, q72_W, q72_X, q72_D, q72_O, rfl, h21, h22, h23, h24, h25, h26, h27, h28, tp30⟩ := q19
      obtain ⟨t31, tp32⟩ : ∃ t9, M18.2.1 = t9 := ⟨_, rfl⟩
      rw [tp16, tp32] at tp30
      show pl _ _ _ (75, [(4, .ref o), (3, .ref ac), (2, .ref ox), (0, .ref c), (1, .ref vd)], [.int 1], M18) _
      have hDM9 : DMe f n E mj q b B2 G2 M18 := ⟨_, q72_D⟩
      refine ps_if (S1 := (100, [], [], M18)) (S2 := (78, [(4, .ref o), (3, .ref ac), (2, .ref ox), (0, .ref c), (1, .ref vd)], [], M18)) rfl rfl rfl (fun c_75 => ?_) (fun c_75 => ?_)
      · exact absurd (of_decide_eq_true c_75) (by decide)
      exact dk_holds2_c (z9 := z9) (e0 := e0) h21 h28 h23 h24 h25 h26 h27 h22 hn hmj hfa hic hic2 hna hat hB91 hB92 hB1 hB2 hDs (by omega) (by omega) (by omega) (by omega) (by omega) (by omega) (by omega) (by omega) (by omega) (by omega) hq40 hq48 hq56 q64_s q72_s q72_V q72_W q72_X q72_O hDM9 kf
    · skip
      obtain ⟨e933, q72_s, rfl, h34, h35, tp37⟩ := q19
      obtain ⟨t38, tp39⟩ : ∃ t9, M18.2.1 = t9 := ⟨_, rfl⟩
      rw [tp16, tp39] at tp37
      show pl _ _ _ (75, [(4, .ref o), (3, .ref ac), (2, .ref ox), (0, .ref c), (1, .ref vd)], [.int 0], M18) _
      refine ps_if (S1 := (100, [], [], M18)) (S2 := (78, [(4, .ref o), (3, .ref ac), (2, .ref ox), (0, .ref c), (1, .ref vd)], [], M18)) rfl rfl rfl (fun c_75 => ?_) (fun c_75 => ?_)
      rotate_left
      · exact absurd (by decide) (of_decide_eq_false c_75)
      refine ps_st (S' := (101, [], [.int 0], M18)) rfl rfl rfl ?_
      exact ps_ret rfl rfl (Or.inr ⟨e933, by
          unfold s_chk
          rw [hq40]
          try dsimp only
          rw [hq48]
          try dsimp only
          rw [hq56]
          try dsimp only
          rw [q64_s]
          try dsimp only
          rw [q72_s]
          try dsimp only
          first | done | rfl, rfl, h34, h35, by omega⟩)
  · skip
    obtain ⟨e940, q64_s, rfl, h41, h42, tp44⟩ := q3
    obtain ⟨t45, tp46⟩ : ∃ t9, M2.2.1 = t9 := ⟨_, rfl⟩
    rw [tp0, tp46] at tp44
    show pl _ _ _ (67, [(4, .ref o), (3, .ref ac), (2, .ref ox), (0, .ref c), (1, .ref vd)], [.int 0], M2) _
    refine ps_if (S1 := (100, [], [], M2)) (S2 := (70, [(4, .ref o), (3, .ref ac), (2, .ref ox), (0, .ref c), (1, .ref vd)], [], M2)) rfl rfl rfl (fun c_67 => ?_) (fun c_67 => ?_)
    rotate_left
    · exact absurd (by decide) (of_decide_eq_false c_67)
    refine ps_st (S' := (101, [], [.int 0], M2)) rfl rfl rfl ?_
    exact ps_ret rfl rfl (Or.inr ⟨e940, by
        unfold s_chk
        rw [hq40]
        try dsimp only
        rw [hq48]
        try dsimp only
        rw [hq56]
        try dsimp only
        rw [q64_s]
        try dsimp only
        first | done | rfl, rfl, h41, h42, by omega⟩)
set_option maxHeartbeats 1000000 in
theorem dk_holds2 {g : xe_G} {M : mi_H} {f : Nat → Int32} {n N q : Nat} {E : List (Nat × Nat)} {c b da vd fr mr fa ic mj na pa e0 : Nat} {mi ru wa k1 : Int32} {B1 B2 : List Nat} {G1 G2 : Nat → Nat} {og ga gf : Nat} {gn gw : Int32} {gk : Value} (h_c : M.1 c = some (ob 3 [.ref b, .ref q, .int mi, .int (nI mj), .int (nI fa), .int (nI ic), .ref fr, .ref mr, .int (nI na), .int (nI pa), .int k1, .int 0, .int 0, .int 0, .int 0, .int 0, .int (-1)])) (h_b : M.1 b = some (ob 1 [.ref da])) (h_da : M.1 da = some (ar .byte n f)) (h_vd : M.1 vd = some (ob 10 [.int ru, .int wa])) (h_og : M.1 og = some (ob 11 [.ref ga, .int gn, .ref gf, gk, .int gw])) (hn : n ≤ 65540) (hmj : mj < 65536) (hfa : fa + 8 ≤ n) (hic : fa + 8 + 2 * ic ≤ n) (hic2 : ic < 65536) (hna : na < 65536 ∧ pa ≤ n) (hat : s_atts f n na pa = .inr e0) (hB91 : B1.length < 65536) (hB92 : B2.length < 65536) (hB1 : ∀ i, i < B1.length → B1.getD i 0 + 8 ≤ n ∧ ∃ e0, s_atts f n (by2 f (B1.getD i 0 + 6)) (B1.getD i 0 + 8) = .inr e0) (hB2 : ∀ i, i < B2.length → B2.getD i 0 + 8 ≤ n ∧ ∃ e0, s_atts f n (by2 f (B2.getD i 0 + 6)) (B2.getD i 0 + 8) = .inr e0) (hDs : ∀ i j, i < B1.length → j < B2.length → ¬ G1 i = G2 j) (l_c : c < M.2.1) (l_b : b < M.2.1) (l_da : da < M.2.1) (l_vd : vd < M.2.1) (l_q : q < M.2.1) (l_og : og < M.2.1) (hW : PW g f n N E q M) (hM1 : MV f B1 fr G1 0 M) (hM2 : MV f B2 mr G2 0 M) : pt (mT g) 11 [.ref c, .ref vd] M (fun v M' => (∃ (bc : Nat) (K : KT), (s_chk f n N E mj fa ic B1 B2 na pa = none) ∧ (clS f n E (by2 f fa) mj na pa 0 0 = .inr bc) ∧ (clU f n E mj na pa (0, 0, 0, 0, 0, -1) = K) ∧ (PV g f n N E q M') ∧ (MV f B1 fr G1 B1.length M') ∧ (MV f B2 mr G2 B2.length M') ∧ (DF f n E B1 G1 B1.length M') ∧ (DMe f n E mj q b B2 G2 M') ∧ v = some (.int 1) ∧ M'.1 vd = some (ob 10 [.int ru, .int wa]) ∧ M'.1 og = some (ob 11 [.ref ga, .int gn, .ref gf, gk, .int gw]) ∧ M'.1 c = some (ob 3 [.ref b, .ref q, .int mi, .int (nI mj), .int (nI fa), .int (nI ic), .ref fr, .ref mr, .int (nI na), .int (nI pa), .int (nI K.1), .int (nI bc), .int (nI K.2.1), .int (nI K.2.2.1), .int (nI K.2.2.2.1), .int (nI K.2.2.2.2.1), .int K.2.2.2.2.2]) ∧ M'.1 b = some (ob 1 [.ref da]) ∧ M'.1 da = some (ar .byte n f) ∧ M.2.1 ≤ M'.2.1) ∨ (∃ (e9 : Nat × Nat), (s_chk f n N E mj fa ic B1 B2 na pa = some e9) ∧ v = some (.int 0) ∧ M'.1 vd = some (ob 10 [.int (nI e9.1), .int (nI e9.2)]) ∧ M'.1 og = some (ob 11 [.ref ga, .int gn, .ref gf, gk, .int gw]) ∧ M.2.1 ≤ M'.2.1)) := by
  refine pt_in (b := mb_11 g) rfl (fun kf => ?_)
  show pl (mT g) kf (mb_11 g).2 (0, [(0, .ref c), (1, .ref vd)], [], M) _
  obtain ⟨z0, tp0⟩ : ∃ z0, M.2.1 = z0 := ⟨_, rfl⟩
  obtain ⟨hL, H, m, qq, F, cc, hP, hT, hBd, hb, hVF, hD⟩ := hW
  have h_q := hP.1
  have h_qq_1 := hP.2.1 1 (by decide) (by decide)
  have h_qq_2 := hP.2.1 2 (by decide) (by decide)
  have h_qq_3 := hP.2.1 3 (by decide) (by decide)
  have h_qq_4 := hP.2.1 4 (by decide) (by decide)
  have h_qq_5 := hP.2.1 5 (by decide) (by decide)
  have h_qq_6 := hP.2.2
  have l_qq_1 := hBd.2 1 (by decide) (by decide)
  have l_qq_2 := hBd.2 2 (by decide) (by decide)
  have l_qq_3 := hBd.2 3 (by decide) (by decide)
  have l_qq_4 := hBd.2 4 (by decide) (by decide)
  have l_qq_5 := hBd.2 5 (by decide) (by decide)
  have l_qq_6 := hBd.2 6 (by decide) (by decide)
  have l_fr := hM1.1
  have l_mr := hM2.1
  refine ps_st (S' := (1, [(0, .ref c), (1, .ref vd)], [.ref c], M)) rfl rfl rfl ?_
  refine ps_get (S' := (4, [(0, .ref c), (1, .ref vd)], [.ref q], M)) rfl h_c rfl rfl ?_
  refine pl_call (a := [.ref q]) (rest := []) rfl rfl rfl (dk_describeTexts (f := f) (n := n) (N := N) (H := H) (m := m) (q := q) (E := E) (qq := qq) (F := F) (cc := cc) h_q h_qq_1 h_qq_2 h_qq_3 h_qq_4 h_qq_5 h_qq_6 (by omega) (hVF) (hD)) (fun v1 M2 q3 => ?_)
  obtain ⟨G54, q4_s, rfl, h5, f6⟩ := q3
  have h8 := (f6.1 c (nin1 (ob_ar h_c h_qq_5))).trans h_c
  have h9 := (f6.1 b (nin1 (ob_ar h_b h_qq_5))).trans h_b
  have h10 := (f6.1 da (nin1 (ar_ne h_da h_qq_5 (by decide)))).trans h_da
  have h11 := (f6.1 vd (nin1 (ob_ar h_vd h_qq_5))).trans h_vd
  have h12 := (f6.1 og (nin1 (ob_ar h_og h_qq_5))).trans h_og
  have h13 := (f6.1 q (nin1 (ob_ar h_q h_qq_5))).trans h_q
  have h14 := (f6.1 (qq 1) (nin1 (hD 1 (by decide) (by decide)))).trans h_qq_1
  have h15 := (f6.1 (qq 2) (nin1 (hD 2 (by decide) (by decide)))).trans h_qq_2
  have h16 := (f6.1 (qq 3) (nin1 (hD 3 (by decide) (by decide)))).trans h_qq_3
  have h17 := (f6.1 (qq 4) (nin1 (hD 4 (by decide) (by decide)))).trans h_qq_4
  have h18 := (f6.1 (qq 6) (nin1 (ar_ne h_qq_6 h_qq_5 (by decide)))).trans h_qq_6
  have tp20 : M2.2.1 = z0 := by rw [f6.2]; exact tp0
  show pl _ _ _ (7, [(0, .ref c), (1, .ref vd)], [], M2) _
  have hV21 := hM1.keepX f6.gm h_qq_5 (by decide)
  have hV22 := hM2.keepX f6.gm h_qq_5 (by decide)
  have hV23 := hL.keepX f6.gm h_qq_5
  have hV : PV g f n N E q M2 := PV_of hV23 (PL5 h13 h14 h15 h16 h17 h5 h18) hT hBd f6.2 hb hVF q4_s
  clear h_c h_b h_da h_vd h_og h_q h_qq_1 h_qq_2 h_qq_3 h_qq_4 h_qq_5 h_qq_6 hM1 hM2 hL f6
  refine ps_newz rfl tp20 (fun M24 h25 f26 tp27 => ?_)
  have h28 := (f26 c (show c ≠ z0 by omega)).trans h8
  have h29 := (f26 b (show b ≠ z0 by omega)).trans h9
  have h30 := (f26 da (show da ≠ z0 by omega)).trans h10
  have h31 := (f26 vd (show vd ≠ z0 by omega)).trans h11
  have h32 := (f26 og (show og ≠ z0 by omega)).trans h12
  have hV33 := hV.new tp20 f26 tp27
  have hV34 := hV21.new tp20 f26 tp27
  have hV35 := hV22.new tp20 f26 tp27
  clear h8 h9 h10 h11 h12 hV hV21 hV22 f26
  show pl _ _ _ (10, [(0, .ref c), (1, .ref vd)], [.ref z0], M24) _
  refine ps_st (S' := (11, [(0, .ref c), (1, .ref vd)], [.ref z0, .ref z0], M24)) rfl rfl rfl ?_
  refine ps_st (S' := (12, [(0, .ref c), (1, .ref vd)], [.ref c, .ref z0, .ref z0], M24)) rfl rfl rfl ?_
  refine ps_st (S' := (13, [(0, .ref c), (1, .ref vd)], [.ref vd, .ref c, .ref z0, .ref z0], M24)) rfl rfl rfl ?_
  refine pl_call (a := [.ref z0, .ref c, .ref vd]) (rest := [.ref z0]) rfl rfl rfl (dk_poolCheck0 (q := q) (c := c) (b := b) (fr := fr) (mr := mr) (fa := fa) (ic := ic) (mj := mj) (na := na) (pa := pa) (vd := vd) (o8 := z0) (mi := mi) (k1 := k1) (k2 := 0) (k3 := 0) (k4 := 0) (k5 := 0) (k6 := 0) (k7 := (-1)) h25 h28) (fun v37 M38 q39 => ?_)
  obtain ⟨rfl, h40, f41⟩ := q39
  have h43 := (f41.1 c (nin1 (show c ≠ z0 by omega))).trans h28
  have h44 := (f41.1 b (nin1 (show b ≠ z0 by omega))).trans h29
  have h45 := (f41.1 da (nin1 (show da ≠ z0 by omega))).trans h30
  have h46 := (f41.1 vd (nin1 (show vd ≠ z0 by omega))).trans h31
  have h47 := (f41.1 og (nin1 (show og ≠ z0 by omega))).trans h32
  have tp49 : M38.2.1 = z0 + 1 := by rw [f41.2]; exact tp27
  have hV50 := hV33.keep f41.gm (n7c h25 (by decide) (n7nil))
  have hV51 := hV34.keep f41.gm (n6o h25 (by decide) (n6on))
  have hV52 := hV35.keep f41.gm (n6o h25 (by decide) (n6on))
  show pl _ _ _ (16, [(0, .ref c), (1, .ref vd)], [.ref z0], M38) _
  clear h28 h29 h30 h31 h32 h25 hV33 hV34 hV35 f41
  refine ps_st (S' := (17, [(2, .ref z0), (0, .ref c), (1, .ref vd)], [], M38)) rfl rfl rfl ?_
  refine ps_newz rfl tp49 (fun M53 h54 f55 tp56 => ?_)
  have h57 := (f55 c (show c ≠ (z0 + 1) by omega)).trans h43
  have h58 := (f55 b (show b ≠ (z0 + 1) by omega)).trans h44
  have h59 := (f55 da (show da ≠ (z0 + 1) by omega)).trans h45
  have h60 := (f55 vd (show vd ≠ (z0 + 1) by omega)).trans h46
  have h61 := (f55 og (show og ≠ (z0 + 1) by omega)).trans h47
  have h62 := (f55 z0 (show z0 ≠ (z0 + 1) by omega)).trans h40
  have hV63 := hV50.new tp49 f55 tp56
  have hV64 := hV51.new tp49 f55 tp56
  have hV65 := hV52.new tp49 f55 tp56
  clear h43 h44 h45 h46 h47 h40 hV50 hV51 hV52 f55
  show pl _ _ _ (20, [(2, .ref z0), (0, .ref c), (1, .ref vd)], [.ref (z0 + 1)], M53) _
  refine ps_st (S' := (21, [(2, .ref z0), (0, .ref c), (1, .ref vd)], [.ref (z0 + 1), .ref (z0 + 1)], M53)) rfl rfl rfl ?_
  refine ps_st (S' := (22, [(2, .ref z0), (0, .ref c), (1, .ref vd)], [.ref c, .ref (z0 + 1), .ref (z0 + 1)], M53)) rfl rfl rfl ?_
  refine ps_st (S' := (23, [(2, .ref z0), (0, .ref c), (1, .ref vd)], [.ref vd, .ref c, .ref (z0 + 1), .ref (z0 + 1)], M53)) rfl rfl rfl ?_
  refine pl_call (a := [.ref (z0 + 1), .ref c, .ref vd]) (rest := [.ref (z0 + 1)]) rfl rfl rfl (dk_attrCheck0 (q := q) (c := c) (b := b) (fr := fr) (mr := mr) (fa := fa) (ic := ic) (mj := mj) (na := na) (pa := pa) (vd := vd) (o0 := (z0 + 1)) (mi := mi) (k1 := k1) (k2 := 0) (k3 := 0) (k4 := 0) (k5 := 0) (k6 := 0) (k7 := (-1)) h54 h57) (fun v67 M68 q69 => ?_)
  obtain ⟨rfl, h70, f71⟩ := q69
  have h73 := (f71.1 c (nin1 (show c ≠ (z0 + 1) by omega))).trans h57
  have h74 := (f71.1 b (nin1 (show b ≠ (z0 + 1) by omega))).trans h58
  have h75 := (f71.1 da (nin1 (show da ≠ (z0 + 1) by omega))).trans h59
  have h76 := (f71.1 vd (nin1 (show vd ≠ (z0 + 1) by omega))).trans h60
  have h77 := (f71.1 og (nin1 (show og ≠ (z0 + 1) by omega))).trans h61
  have h78 := (f71.1 z0 (nin1 (show z0 ≠ (z0 + 1) by omega))).trans h62
  have tp80 : M68.2.1 = z0 + 2 := by rw [f71.2]; exact tp56
  have hV81 := hV63.keep f71.gm (n7c h54 (by decide) (n7nil))
  have hV82 := hV64.keep f71.gm (n6o h54 (by decide) (n6on))
  have hV83 := hV65.keep f71.gm (n6o h54 (by decide) (n6on))
  show pl _ _ _ (26, [(2, .ref z0), (0, .ref c), (1, .ref vd)], [.ref (z0 + 1)], M68) _
  clear h57 h58 h59 h60 h61 h62 h54 hV63 hV64 hV65 f71
  refine ps_st (S' := (27, [(3, .ref (z0 + 1)), (2, .ref z0), (0, .ref c), (1, .ref vd)], [], M68)) rfl rfl rfl ?_
  refine ps_newz rfl tp80 (fun M84 h85 f86 tp87 => ?_)
  have h88 := (f86 c (show c ≠ (z0 + 2) by omega)).trans h73
  have h89 := (f86 b (show b ≠ (z0 + 2) by omega)).trans h74
  have h90 := (f86 da (show da ≠ (z0 + 2) by omega)).trans h75
  have h91 := (f86 vd (show vd ≠ (z0 + 2) by omega)).trans h76
  have h92 := (f86 og (show og ≠ (z0 + 2) by omega)).trans h77
  have h93 := (f86 z0 (show z0 ≠ (z0 + 2) by omega)).trans h78
  have h94 := (f86 (z0 + 1) (show (z0 + 1) ≠ (z0 + 2) by omega)).trans h70
  have hV95 := hV81.new tp80 f86 tp87
  have hV96 := hV82.new tp80 f86 tp87
  have hV97 := hV83.new tp80 f86 tp87
  clear h73 h74 h75 h76 h77 h78 h70 hV81 hV82 hV83 f86
  show pl _ _ _ (30, [(3, .ref (z0 + 1)), (2, .ref z0), (0, .ref c), (1, .ref vd)], [.ref (z0 + 2)], M84) _
  refine ps_st (S' := (31, [(3, .ref (z0 + 1)), (2, .ref z0), (0, .ref c), (1, .ref vd)], [.ref (z0 + 2), .ref (z0 + 2)], M84)) rfl rfl rfl ?_
  refine ps_st (S' := (32, [(3, .ref (z0 + 1)), (2, .ref z0), (0, .ref c), (1, .ref vd)], [.ref c, .ref (z0 + 2), .ref (z0 + 2)], M84)) rfl rfl rfl ?_
  refine ps_st (S' := (33, [(3, .ref (z0 + 1)), (2, .ref z0), (0, .ref c), (1, .ref vd)], [.ref vd, .ref c, .ref (z0 + 2), .ref (z0 + 2)], M84)) rfl rfl rfl ?_
  refine ps_st (S' := (34, [(3, .ref (z0 + 1)), (2, .ref z0), (0, .ref c), (1, .ref vd)], [.ref (z0 + 1), .ref vd, .ref c, .ref (z0 + 2), .ref (z0 + 2)], M84)) rfl rfl rfl ?_
  refine pl_call (a := [.ref (z0 + 2), .ref c, .ref vd, .ref (z0 + 1)]) (rest := [.ref (z0 + 2)]) rfl rfl rfl (dk_classCheck0 (q := q) (c := c) (b := b) (fr := fr) (mr := mr) (fa := fa) (ic := ic) (mj := mj) (na := na) (pa := pa) (vd := vd) (o2 := (z0 + 2)) (ac := (z0 + 1)) (mi := mi) (k1 := k1) (k2 := 0) (k3 := 0) (k4 := 0) (k5 := 0) (k6 := 0) (k7 := (-1)) h85 h88) (fun v99 M100 q101 => ?_)
  obtain ⟨rfl, h102, f103⟩ := q101
  have h105 := (f103.1 c (nin1 (show c ≠ (z0 + 2) by omega))).trans h88
  have h106 := (f103.1 b (nin1 (show b ≠ (z0 + 2) by omega))).trans h89
  have h107 := (f103.1 da (nin1 (show da ≠ (z0 + 2) by omega))).trans h90
  have h108 := (f103.1 vd (nin1 (show vd ≠ (z0 + 2) by omega))).trans h91
  have h109 := (f103.1 og (nin1 (show og ≠ (z0 + 2) by omega))).trans h92
  have h110 := (f103.1 z0 (nin1 (show z0 ≠ (z0 + 2) by omega))).trans h93
  have h111 := (f103.1 (z0 + 1) (nin1 (show (z0 + 1) ≠ (z0 + 2) by omega))).trans h94
  have tp113 : M100.2.1 = z0 + 3 := by rw [f103.2]; exact tp87
  have hV114 := hV95.keep f103.gm (n7c h85 (by decide) (n7nil))
  have hV115 := hV96.keep f103.gm (n6o h85 (by decide) (n6on))
  have hV116 := hV97.keep f103.gm (n6o h85 (by decide) (n6on))
  show pl _ _ _ (37, [(3, .ref (z0 + 1)), (2, .ref z0), (0, .ref c), (1, .ref vd)], [.ref (z0 + 2)], M100) _
  clear h88 h89 h90 h91 h92 h93 h94 h85 hV95 hV96 hV97 f103
  refine ps_st (S' := (39, [(4, .ref (z0 + 2)), (3, .ref (z0 + 1)), (2, .ref z0), (0, .ref c), (1, .ref vd)], [], M100)) rfl rfl rfl ?_
  refine ps_st (S' := (40, [(4, .ref (z0 + 2)), (3, .ref (z0 + 1)), (2, .ref z0), (0, .ref c), (1, .ref vd)], [.ref z0], M100)) rfl rfl rfl ?_
  refine pl_call (a := [.ref z0]) (rest := []) rfl rfl rfl (dk_entriesHold (f := f) (n := n) (N := N) (q := q) (E := E) (o := z0) (vd := vd) (mj := mj) (ru := ru) (wa := wa) h110 h108 (hmj) (hV114)) (fun v117 M118 q119 => ?_)
  rcases q119 with q119 | q119
  · skip
    obtain ⟨q40_s, rfl, h120, f121⟩ := q119
    have h123 := (f121.1 c (nin1 (ob_ne h105 h108 (by decide)))).trans h105
    have h124 := (f121.1 b (nin1 (ob_ne h106 h108 (by decide)))).trans h106
    have h125 := (f121.1 da (nin1 (Ne.symm (ob_ar h108 h107)))).trans h107
    have h126 := (f121.1 og (nin1 (ob_ne h109 h108 (by decide)))).trans h109
    have h127 := (f121.1 z0 (nin1 (show z0 ≠ vd by omega))).trans h110
    have h128 := (f121.1 (z0 + 1) (nin1 (show (z0 + 1) ≠ vd by omega))).trans h111
    have h129 := (f121.1 (z0 + 2) (nin1 (show (z0 + 2) ≠ vd by omega))).trans h102
    have tp131 : M118.2.1 = z0 + 3 := by rw [f121.2]; exact tp113
    have hV132 := hV114.keep f121.gm (n7c h108 (by decide) (n7nil))
    have hV133 := hV115.keep f121.gm (n6o h108 (by decide) (n6on))
    have hV134 := hV116.keep f121.gm (n6o h108 (by decide) (n6on))
    show pl _ _ _ (43, [(4, .ref (z0 + 2)), (3, .ref (z0 + 1)), (2, .ref z0), (0, .ref c), (1, .ref vd)], [.int 1], M118) _
    clear h105 h106 h107 h108 h109 h110 h111 h102 hV114 hV115 hV116 f121
    refine ps_if (S1 := (100, [], [], M118)) (S2 := (46, [(4, .ref (z0 + 2)), (3, .ref (z0 + 1)), (2, .ref z0), (0, .ref c), (1, .ref vd)], [], M118)) rfl rfl rfl (fun c_43 => ?_) (fun c_43 => ?_)
    · exact absurd (of_decide_eq_true c_43) (by decide)
    refine ps_st (S' := (48, [(4, .ref (z0 + 2)), (3, .ref (z0 + 1)), (2, .ref z0), (0, .ref c), (1, .ref vd)], [.ref (z0 + 2)], M118)) rfl rfl rfl ?_
    refine pl_call (a := [.ref (z0 + 2)]) (rest := []) rfl rfl rfl (dk_headHolds (f := f) (n := n) (N := N) (q := q) (E := E) (o := (z0 + 2)) (c := c) (b := b) (da := da) (vd := vd) (ac := (z0 + 1)) (fr := fr) (mr := mr) (fa := fa) (ic := ic) (mj := mj) (na := na) (pa := pa) (mi := mi) (ru := ru) (wa := wa) (k1 := k1) (k2 := 0) (k3 := 0) (k4 := 0) (k5 := 0) (k6 := 0) (k7 := (-1)) h129 h123 h124 h125 h120 (hn) (hmj) (hfa) (hV132)) (fun v135 M136 q137 => ?_)
    rcases q137 with q137 | q137
    · skip
      obtain ⟨q48_s, rfl, h138, f139⟩ := q137
      have h141 := (f139.1 c (nin1 (ob_ne h123 h120 (by decide)))).trans h123
      have h142 := (f139.1 b (nin1 (ob_ne h124 h120 (by decide)))).trans h124
      have h143 := (f139.1 da (nin1 (Ne.symm (ob_ar h120 h125)))).trans h125
      have h144 := (f139.1 og (nin1 (ob_ne h126 h120 (by decide)))).trans h126
      have h145 := (f139.1 z0 (nin1 (show z0 ≠ vd by omega))).trans h127
      have h146 := (f139.1 (z0 + 1) (nin1 (show (z0 + 1) ≠ vd by omega))).trans h128
      have h147 := (f139.1 (z0 + 2) (nin1 (show (z0 + 2) ≠ vd by omega))).trans h129
      have tp149 : M136.2.1 = z0 + 3 := by rw [f139.2]; exact tp131
      have hV150 := hV132.keep f139.gm (n7c h120 (by decide) (n7nil))
      have hV151 := hV133.keep f139.gm (n6o h120 (by decide) (n6on))
      have hV152 := hV134.keep f139.gm (n6o h120 (by decide) (n6on))
      show pl _ _ _ (51, [(4, .ref (z0 + 2)), (3, .ref (z0 + 1)), (2, .ref z0), (0, .ref c), (1, .ref vd)], [.int 1], M136) _
      clear h123 h124 h125 h120 h126 h127 h128 h129 hV132 hV133 hV134 f139
      refine ps_if (S1 := (100, [], [], M136)) (S2 := (54, [(4, .ref (z0 + 2)), (3, .ref (z0 + 1)), (2, .ref z0), (0, .ref c), (1, .ref vd)], [], M136)) rfl rfl rfl (fun c_51 => ?_) (fun c_51 => ?_)
      · exact absurd (of_decide_eq_true c_51) (by decide)
      refine ps_st (S' := (56, [(4, .ref (z0 + 2)), (3, .ref (z0 + 1)), (2, .ref z0), (0, .ref c), (1, .ref vd)], [.ref (z0 + 2)], M136)) rfl rfl rfl ?_
      refine pl_call (a := [.ref (z0 + 2)]) (rest := []) rfl rfl rfl (dk_interfacesHold (f := f) (n := n) (N := N) (q := q) (E := E) (o := (z0 + 2)) (c := c) (b := b) (da := da) (vd := vd) (ac := (z0 + 1)) (fr := fr) (mr := mr) (fa := fa) (ic := ic) (mj := mj) (na := na) (pa := pa) (mi := mi) (ru := ru) (wa := wa) (k1 := k1) (k2 := 0) (k3 := 0) (k4 := 0) (k5 := 0) (k6 := 0) (k7 := (-1)) h147 h141 h142 h143 h138 (hn) (hmj) (hfa) (hic) (hV150)) (fun v153 M154 q155 => ?_)
      rcases q155 with q155 | q155
      · skip
        obtain ⟨q56_s, rfl, h156, f157⟩ := q155
        have h159 := (f157.1 c (nin1 (ob_ne h141 h138 (by decide)))).trans h141
        have h160 := (f157.1 b (nin1 (ob_ne h142 h138 (by decide)))).trans h142
        have h161 := (f157.1 da (nin1 (Ne.symm (ob_ar h138 h143)))).trans h143
        have h162 := (f157.1 og (nin1 (ob_ne h144 h138 (by decide)))).trans h144
        have h163 := (f157.1 z0 (nin1 (show z0 ≠ vd by omega))).trans h145
        have h164 := (f157.1 (z0 + 1) (nin1 (show (z0 + 1) ≠ vd by omega))).trans h146
        have h165 := (f157.1 (z0 + 2) (nin1 (show (z0 + 2) ≠ vd by omega))).trans h147
        have tp167 : M154.2.1 = z0 + 3 := by rw [f157.2]; exact tp149
        have hV168 := hV150.keep f157.gm (n7c h138 (by decide) (n7nil))
        have hV169 := hV151.keep f157.gm (n6o h138 (by decide) (n6on))
        have hV170 := hV152.keep f157.gm (n6o h138 (by decide) (n6on))
        show pl _ _ _ (59, [(4, .ref (z0 + 2)), (3, .ref (z0 + 1)), (2, .ref z0), (0, .ref c), (1, .ref vd)], [.int 1], M154) _
        clear h141 h142 h143 h138 h144 h145 h146 h147 hV150 hV151 hV152 f157
        refine ps_if (S1 := (100, [], [], M154)) (S2 := (62, [(4, .ref (z0 + 2)), (3, .ref (z0 + 1)), (2, .ref z0), (0, .ref c), (1, .ref vd)], [], M154)) rfl rfl rfl (fun c_59 => ?_) (fun c_59 => ?_)
        · exact absurd (of_decide_eq_true c_59) (by decide)
        exact dk_holds2_b (z9 := M.2.1) (e0 := e0) h163 h164 h165 h159 h160 h161 h156 h162 hn hmj hfa hic hic2 hna hat hB91 hB92 hB1 hB2 hDs (by omega) (by omega) (by omega) (by omega) (by omega) (by omega) (by omega) (by omega) (by omega) (by omega) q40_s q48_s q56_s hV168 hV169 hV170 kf
      · skip
        obtain ⟨e171, q56_s, rfl, h172, f173⟩ := q155
        have h175 := (f173.1 c (nin1 (ob_ne h141 h138 (by decide)))).trans h141
        have h176 := (f173.1 b (nin1 (ob_ne h142 h138 (by decide)))).trans h142
        have h177 := (f173.1 da (nin1 (Ne.symm (ob_ar h138 h143)))).trans h143
        have h178 := (f173.1 og (nin1 (ob_ne h144 h138 (by decide)))).trans h144
        have h179 := (f173.1 z0 (nin1 (show z0 ≠ vd by omega))).trans h145
        have h180 := (f173.1 (z0 + 1) (nin1 (show (z0 + 1) ≠ vd by omega))).trans h146
        have h181 := (f173.1 (z0 + 2) (nin1 (show (z0 + 2) ≠ vd by omega))).trans h147
        have tp183 : M154.2.1 = z0 + 3 := by rw [f173.2]; exact tp149
        have hV184 := hV150.keep f173.gm (n7c h138 (by decide) (n7nil))
        have hV185 := hV151.keep f173.gm (n6o h138 (by decide) (n6on))
        have hV186 := hV152.keep f173.gm (n6o h138 (by decide) (n6on))
        show pl _ _ _ (59, [(4, .ref (z0 + 2)), (3, .ref (z0 + 1)), (2, .ref z0), (0, .ref c), (1, .ref vd)], [.int 0], M154) _
        clear h141 h142 h143 h138 h144 h145 h146 h147 hV150 hV151 hV152 f173
        refine ps_if (S1 := (100, [], [], M154)) (S2 := (62, [(4, .ref (z0 + 2)), (3, .ref (z0 + 1)), (2, .ref z0), (0, .ref c), (1, .ref vd)], [], M154)) rfl rfl rfl (fun c_59 => ?_) (fun c_59 => ?_)
        rotate_left
        · exact absurd (by decide) (of_decide_eq_false c_59)
        refine ps_st (S' := (101, [], [.int 0], M154)) rfl rfl rfl ?_
        exact ps_ret rfl rfl (Or.inr ⟨e171, by
            unfold s_chk
            rw [q40_s]
            try dsimp only
            rw [q48_s]
            try dsimp only
            rw [q56_s]
            try dsimp only
            first | done | rfl, rfl, h172, h178, by omega⟩)
    · skip
      obtain ⟨e187, q48_s, rfl, h188, f189⟩ := q137
      have h191 := (f189.1 c (nin1 (ob_ne h123 h120 (by decide)))).trans h123
      have h192 := (f189.1 b (nin1 (ob_ne h124 h120 (by decide)))).trans h124
      have h193 := (f189.1 da (nin1 (Ne.symm (ob_ar h120 h125)))).trans h125
      have h194 := (f189.1 og (nin1 (ob_ne h126 h120 (by decide)))).trans h126
      have h195 := (f189.1 z0 (nin1 (show z0 ≠ vd by omega))).trans h127
      have h196 := (f189.1 (z0 + 1) (nin1 (show (z0 + 1) ≠ vd by omega))).trans h128
      have h197 := (f189.1 (z0 + 2) (nin1 (show (z0 + 2) ≠ vd by omega))).trans h129
      have tp199 : M136.2.1 = z0 + 3 := by rw [f189.2]; exact tp131
      have hV200 := hV132.keep f189.gm (n7c h120 (by decide) (n7nil))
      have hV201 := hV133.keep f189.gm (n6o h120 (by decide) (n6on))
      have hV202 := hV134.keep f189.gm (n6o h120 (by decide) (n6on))
      show pl _ _ _ (51, [(4, .ref (z0 + 2)), (3, .ref (z0 + 1)), (2, .ref z0), (0, .ref c), (1, .ref vd)], [.int 0], M136) _
      clear h123 h124 h125 h120 h126 h127 h128 h129 hV132 hV133 hV134 f189
      refine ps_if (S1 := (100, [], [], M136)) (S2 := (54, [(4, .ref (z0 + 2)), (3, .ref (z0 + 1)), (2, .ref z0), (0, .ref c), (1, .ref vd)], [], M136)) rfl rfl rfl (fun c_51 => ?_) (fun c_51 => ?_)
      rotate_left
      · exact absurd (by decide) (of_decide_eq_false c_51)
      refine ps_st (S' := (101, [], [.int 0], M136)) rfl rfl rfl ?_
      exact ps_ret rfl rfl (Or.inr ⟨e187, by
          unfold s_chk
          rw [q40_s]
          try dsimp only
          rw [q48_s]
          try dsimp only
          first | done | rfl, rfl, h188, h194, by omega⟩)
  · skip
    obtain ⟨e203, q40_s, rfl, h204, f205⟩ := q119
    have h207 := (f205.1 c (nin1 (ob_ne h105 h108 (by decide)))).trans h105
    have h208 := (f205.1 b (nin1 (ob_ne h106 h108 (by decide)))).trans h106
    have h209 := (f205.1 da (nin1 (Ne.symm (ob_ar h108 h107)))).trans h107
    have h210 := (f205.1 og (nin1 (ob_ne h109 h108 (by decide)))).trans h109
    have h211 := (f205.1 z0 (nin1 (show z0 ≠ vd by omega))).trans h110
    have h212 := (f205.1 (z0 + 1) (nin1 (show (z0 + 1) ≠ vd by omega))).trans h111
    have h213 := (f205.1 (z0 + 2) (nin1 (show (z0 + 2) ≠ vd by omega))).trans h102
    have tp215 : M118.2.1 = z0 + 3 := by rw [f205.2]; exact tp113
    have hV216 := hV114.keep f205.gm (n7c h108 (by decide) (n7nil))
    have hV217 := hV115.keep f205.gm (n6o h108 (by decide) (n6on))
    have hV218 := hV116.keep f205.gm (n6o h108 (by decide) (n6on))
    show pl _ _ _ (43, [(4, .ref (z0 + 2)), (3, .ref (z0 + 1)), (2, .ref z0), (0, .ref c), (1, .ref vd)], [.int 0], M118) _
    clear h105 h106 h107 h108 h109 h110 h111 h102 hV114 hV115 hV116 f205
    refine ps_if (S1 := (100, [], [], M118)) (S2 := (46, [(4, .ref (z0 + 2)), (3, .ref (z0 + 1)), (2, .ref z0), (0, .ref c), (1, .ref vd)], [], M118)) rfl rfl rfl (fun c_43 => ?_) (fun c_43 => ?_)
    rotate_left
    · exact absurd (by decide) (of_decide_eq_false c_43)
    refine ps_st (S' := (101, [], [.int 0], M118)) rfl rfl rfl ?_
    exact ps_ret rfl rfl (Or.inr ⟨e203, by
        unfold s_chk
        rw [q40_s]
        try dsimp only
        first | done | rfl, rfl, h204, h210, by omega⟩)
set_option maxHeartbeats 1000000 in
theorem dk_read2 {g : xe_G} {M : mi_H} {f : Nat → Int32} {n o ca da : Nat} {cn wp : Int32} {kv : Value} (h_o : M.1 o = some (ob 11 [.ref ca, .int cn, .ref da, kv, .int wp])) (h_da : M.1 da = some (ar .byte n f)) (hn : n ≤ 65540) (l_o : o < M.2.1) (l_da : da < M.2.1) (hL : LT g M) : pt (mT g) 18 [.ref o] M (fun v M' => (∃ (c2 : Nat), (s_read f n = none) ∧ (KC g f n c2 da M') ∧ (M.2.1 ≤ c2) ∧ v = some (.int 0) ∧ M'.1 o = some (ob 11 [.ref ca, .int cn, .ref g.1, .ref c2, .int (-1)]) ∧ M.2.1 ≤ M'.2.1) ∨ (∃ (e9 : Nat × Nat), (s_read f n = some e9) ∧ v = some (.int (nI e9.1)) ∧ M'.1 o = some (ob 11 [.ref ca, .int cn, .ref g.1, kv, .int (nI e9.2)]) ∧ M.2.1 ≤ M'.2.1)) := by
  refine pt_in (b := mb_18 g) rfl (fun kf => ?_)
  show pl (mT g) kf (mb_18 g).2 (0, [(0, .ref o)], [], M) _
  obtain ⟨z0, tp0⟩ : ∃ z0, M.2.1 = z0 := ⟨_, rfl⟩
  refine ps_newz rfl tp0 (fun M1 h2 f3 tp4 => ?_)
  have h5 := (f3 o (show o ≠ z0 by omega)).trans h_o
  have h6 := (f3 da (show da ≠ z0 by omega)).trans h_da
  have hV7 := hL.new tp0 f3 tp4
  clear h_o h_da hL f3
  show pl _ _ _ (3, [(0, .ref o)], [.ref z0], M1) _
  refine ps_st (S' := (4, [(0, .ref o)], [.ref z0, .ref z0], M1)) rfl rfl rfl ?_
  refine ps_newz rfl tp4 (fun M9 h10 f11 tp12 => ?_)
  have h13 := (f11 o (show o ≠ (z0 + 1) by omega)).trans h5
  have h14 := (f11 da (show da ≠ (z0 + 1) by omega)).trans h6
  have h15 := (f11 z0 (show z0 ≠ (z0 + 1) by omega)).trans h2
  have hV16 := hV7.new tp4 f11 tp12
  clear h5 h6 h2 hV7 f11
  show pl _ _ _ (7, [(0, .ref o)], [.ref (z0 + 1), .ref z0, .ref z0], M9) _
  refine ps_st (S' := (8, [(0, .ref o)], [.ref (z0 + 1), .ref (z0 + 1), .ref z0, .ref z0], M9)) rfl rfl rfl ?_
  refine ps_st (S' := (9, [(0, .ref o)], [.ref o, .ref (z0 + 1), .ref (z0 + 1), .ref z0, .ref z0], M9)) rfl rfl rfl ?_
  refine ps_get (S' := (12, [(0, .ref o)], [.ref da, .ref (z0 + 1), .ref (z0 + 1), .ref z0, .ref z0], M9)) rfl h13 rfl rfl ?_
  refine pl_call (a := [.ref (z0 + 1), .ref da]) (rest := [.ref (z0 + 1), .ref z0, .ref z0]) rfl rfl rfl (dk_bytes0 (o1 := (z0 + 1)) (da := da) h10) (fun v18 M19 q20 => ?_)
  obtain ⟨rfl, h21, f22⟩ := q20
  have h24 := (f22.1 o (nin1 (show o ≠ (z0 + 1) by omega))).trans h13
  have h25 := (f22.1 da (nin1 (show da ≠ (z0 + 1) by omega))).trans h14
  have h26 := (f22.1 z0 (nin1 (show z0 ≠ (z0 + 1) by omega))).trans h15
  have tp28 : M19.2.1 = z0 + 2 := by rw [f22.2]; exact tp12
  have hV29 := hV16.keep f22.gm (n7c h10 (by decide) (n7nil))
  show pl _ _ _ (15, [(0, .ref o)], [.ref (z0 + 1), .ref z0, .ref z0], M19) _
  clear h13 h14 h15 h10 hV16 f22
  refine pl_call (a := [.ref z0, .ref (z0 + 1)]) (rest := [.ref z0]) rfl rfl rfl (dk_classFile0 (o3 := z0) (b := (z0 + 1)) h26 (by omega)) (fun v30 M31 q32 => ?_)
  obtain ⟨u133, u634, u735, rfl, h36, f37, tp38⟩ := q32
  have h39 := (f37.1 o (by omega) (nin1 (show o ≠ z0 by omega))).trans h24
  have h40 := (f37.1 da (by omega) (nin1 (show da ≠ z0 by omega))).trans h25
  have h41 := (f37.1 (z0 + 1) (by omega) (nin1 (show (z0 + 1) ≠ z0 by omega))).trans h21
  obtain ⟨t43, tp44⟩ : ∃ t9, M31.2.1 = t9 := ⟨_, rfl⟩
  rw [tp28, tp44] at tp38
  have hV45 := hV29.keep f37 (n7c h26 (by decide) (n7nil))
  show pl _ _ _ (18, [(0, .ref o)], [.ref z0], M31) _
  clear h24 h25 h26 h21 hV29 f37
  refine ps_st (S' := (19, [(1, .ref z0), (0, .ref o)], [], M31)) rfl rfl rfl ?_
  refine ps_newz rfl tp44 (fun M46 h47 f48 tp49 => ?_)
  have h50 := (f48 o (show o ≠ t43 by omega)).trans h39
  have h51 := (f48 da (show da ≠ t43 by omega)).trans h40
  have h52 := (f48 z0 (show z0 ≠ t43 by omega)).trans h36
  have h53 := (f48 (z0 + 1) (show (z0 + 1) ≠ t43 by omega)).trans h41
  have hV54 := hV45.new tp44 f48 tp49
  clear h39 h40 h36 h41 hV45 f48
  show pl _ _ _ (22, [(1, .ref z0), (0, .ref o)], [.ref t43], M46) _
  refine ps_st (S' := (23, [(1, .ref z0), (0, .ref o)], [.ref t43, .ref t43], M46)) rfl rfl rfl ?_
  refine pl_call (a := [.ref t43]) (rest := [.ref t43]) rfl rfl rfl (dk_verdict0 (o10 := t43) h47) (fun v56 M57 q58 => ?_)
  obtain ⟨rfl, h59, f60⟩ := q58
  have h62 := (f60.1 o (nin1 (show o ≠ t43 by omega))).trans h50
  have h63 := (f60.1 da (nin1 (show da ≠ t43 by omega))).trans h51
  have h64 := (f60.1 z0 (nin1 (show z0 ≠ t43 by omega))).trans h52
  have h65 := (f60.1 (z0 + 1) (nin1 (show (z0 + 1) ≠ t43 by omega))).trans h53
  have tp67 : M57.2.1 = t43 + 1 := by rw [f60.2]; exact tp49
  have hV68 := hV54.keep f60.gm (n7c h47 (by decide) (n7nil))
  show pl _ _ _ (26, [(1, .ref z0), (0, .ref o)], [.ref t43], M57) _
  clear h50 h51 h52 h53 h47 hV54 f60
  refine ps_st (S' := (27, [(2, .ref t43), (1, .ref z0), (0, .ref o)], [], M57)) rfl rfl rfl ?_
  refine ps_st (S' := (28, [(2, .ref t43), (1, .ref z0), (0, .ref o)], [.ref o], M57)) rfl rfl rfl ?_
  refine ps_st (S' := (31, [(2, .ref t43), (1, .ref z0), (0, .ref o)], [.ref g.1, .ref o], M57)) rfl rfl rfl ?_
  refine ps_put (l' := [.ref ca, .int cn, .ref g.1, kv, .int wp]) rfl h62 rfl rfl (fun M69 h70 f71 z72 => ?_)
  have h73 := (f71 da (Ne.symm (ob_ar h62 h63))).trans h63
  have h74 := (f71 z0 (show z0 ≠ o by omega)).trans h64
  have h75 := (f71 (z0 + 1) (show (z0 + 1) ≠ o by omega)).trans h65
  have h76 := (f71 t43 (show t43 ≠ o by omega)).trans h59
  have hV77 := hV68.put h62 (by decide) f71 z72
  have tp79 : M69.2.1 = t43 + 1 := by rw [z72]; exact tp67
  clear h62 h63 h64 h65 h59 hV68 f71
  show pl _ _ _ (34, [(2, .ref t43), (1, .ref z0), (0, .ref o)], [], M69) _
  refine ps_st (S' := (35, [(2, .ref t43), (1, .ref z0), (0, .ref o)], [.ref z0], M69)) rfl rfl rfl ?_
  refine ps_st (S' := (36, [(2, .ref t43), (1, .ref z0), (0, .ref o)], [.ref t43, .ref z0], M69)) rfl rfl rfl ?_
  refine pl_call (a := [.ref z0, .ref t43]) (rest := []) rfl rfl rfl (dk_isWhole (f := f) (n := n) (c := z0) (b := (z0 + 1)) (da := da) (vd := t43) (ru := 0) (wa := (-1)) (mi := 0) (ma := 0) (fa := 0) (ic := 0) (ac := 0) (aa := 0) (k1 := 0) (k2 := 0) (k3 := 0) (k4 := 0) (k5 := 0) (k6 := 0) (k7 := (-1)) (u1 := u133) (u6 := u634) (u7 := u735) (og := o) (ga := ca) (gf := g.1) (gn := cn) (gw := wp) (gk := kv) h74 h75 h73 h76 h70 (hn) (by omega) (by omega) (by omega) (by omega) (by omega) (hV77)) (fun v80 M81 q82 => ?_)
  rcases q82 with q82 | q82
  · skip
    obtain ⟨E83, q84, p185, pF86, pM87, pA88, m189, m290, G191, G292, q36_s, q36_b, q36_c, q36_f, q36_m, q36_a, q36_V, q36_M1, q36_M2, q36_D, rfl, h93, h94, h95, h96, h97, tp99⟩ := q82
    obtain ⟨t100, tp101⟩ : ∃ t9, M81.2.1 = t9 := ⟨_, rfl⟩
    rw [tp79, tp101] at tp99
    show pl _ _ _ (39, [(2, .ref t43), (1, .ref z0), (0, .ref o)], [.int 1], M81) _
    refine ps_if (S1 := (55, [(0, .ref o), (2, .ref t43)], [], M81)) (S2 := (42, [(2, .ref t43), (1, .ref z0), (0, .ref o)], [], M81)) rfl rfl rfl (fun c_39 => ?_) (fun c_39 => ?_)
    · exact absurd (of_decide_eq_true c_39) (by decide)
    refine ps_st (S' := (43, [(2, .ref t43), (1, .ref z0), (0, .ref o)], [.ref z0], M81)) rfl rfl rfl ?_
    refine ps_st (S' := (44, [(2, .ref t43), (1, .ref z0), (0, .ref o)], [.ref t43, .ref z0], M81)) rfl rfl rfl ?_
    have hb1 := mbs_of q36_f
    have hb2 := mbs_of q36_m
    have hc9 := s_class_in q36_c
    obtain ⟨ha8, ha9⟩ := s_atts_of q36_a
    have hu1 := by2_lt f pF86
    have hu2 := by2_lt f pM87
    refine pl_call (a := [.ref z0, .ref t43]) (rest := []) rfl rfl rfl (dk_holds2 (f := f) (n := n) (N := (by2 f 8)) (q := q84) (E := E83) (c := z0) (b := (z0 + 1)) (da := da) (vd := t43) (fr := m189) (mr := m290) (fa := p185) (ic := (by2 f (p185 + 6))) (mj := (by2 f 6)) (na := (by2 f pA88)) (pa := (pA88 + 2)) (e0 := n) (mi := (nI (by2 f 4))) (ru := 0) (wa := (-1)) (k1 := 0) (B1 := (mbs f n (by2 f pF86) (pF86 + 2))) (B2 := (mbs f n (by2 f pM87) (pM87 + 2))) (G1 := G191) (G2 := G292) (og := o) (ga := ca) (gf := g.1) (gn := cn) (gw := wp) (gk := kv) h93 h94 h95 h96 h97 (hn) (by2_lt _ _) (by omega) (by omega) (by2_lt _ _) (⟨by2_lt _ _, by omega⟩) (ha9) (by omega) (by omega) (hb1.2) (hb2.2) (q36_D) (by omega) (by omega) (by omega) (by omega) (by omega) (by omega) (q36_V) (q36_M1) (q36_M2)) (fun v102 M103 q104 => ?_)
    rcases q104 with q104 | q104
    · skip
      obtain ⟨bc105, K106, q44_s, q44_B, q44_U, q44_V, q44_M1, q44_M2, q44_D1, q44_D2, rfl, h107, h108, h109, h110, h111, tp113⟩ := q104
      obtain ⟨t114, tp115⟩ : ∃ t9, M103.2.1 = t9 := ⟨_, rfl⟩
      rw [tp101, tp115] at tp113
      show pl _ _ _ (47, [(2, .ref t43), (1, .ref z0), (0, .ref o)], [.int 1], M103) _
      refine ps_if (S1 := (55, [(0, .ref o), (2, .ref t43)], [], M103)) (S2 := (50, [(2, .ref t43), (1, .ref z0), (0, .ref o)], [], M103)) rfl rfl rfl (fun c_47 => ?_) (fun c_47 => ?_)
      · exact absurd (of_decide_eq_true c_47) (by decide)
      refine ps_st (S' := (51, [(2, .ref t43), (1, .ref z0), (0, .ref o)], [.ref o], M103)) rfl rfl rfl ?_
      refine ps_st (S' := (52, [(2, .ref t43), (1, .ref z0), (0, .ref o)], [.ref z0, .ref o], M103)) rfl rfl rfl ?_
      refine ps_put (l' := [.ref ca, .int cn, .ref g.1, .ref z0, .int wp]) rfl h108 rfl rfl (fun M116 h117 f118 z119 => ?_)
      have h120 := (f118 t43 (show t43 ≠ o by omega)).trans h107
      have h121 := (f118 z0 (show z0 ≠ o by omega)).trans h109
      have h122 := (f118 (z0 + 1) (show (z0 + 1) ≠ o by omega)).trans h110
      have h123 := (f118 da (Ne.symm (ob_ar h108 h111))).trans h111
      have hV124 := q44_V.put h108 (by decide) f118 z119
      have hV125 := q44_M1.put h108 (by decide) f118 z119
      have hV126 := q44_M2.put h108 (by decide) f118 z119
      have hV127 := q44_D1.put h108 (by decide) f118 z119
      have hV128 := q44_D2.put h108 (by decide) f118 z119
      have tp130 : M116.2.1 = t114 := by rw [z119]; exact tp115
      clear h107 h108 h109 h110 h111 q44_V q44_M1 q44_M2 q44_D1 q44_D2 f118
      show pl _ _ _ (55, [(0, .ref o), (2, .ref t43)], [], M116) _
      refine ps_st (S' := (56, [(0, .ref o), (2, .ref t43)], [.ref o], M116)) rfl rfl rfl ?_
      refine ps_st (S' := (57, [(0, .ref o), (2, .ref t43)], [.ref t43, .ref o], M116)) rfl rfl rfl ?_
      refine ps_get (S' := (60, [(0, .ref o), (2, .ref t43)], [.int (-1), .ref o], M116)) rfl h120 rfl rfl ?_
      refine ps_put (l' := [.ref ca, .int cn, .ref g.1, .ref z0, .int (-1)]) rfl h117 rfl rfl (fun M131 h132 f133 z134 => ?_)
      have h135 := (f133 t43 (show t43 ≠ o by omega)).trans h120
      have h136 := (f133 z0 (show z0 ≠ o by omega)).trans h121
      have h137 := (f133 (z0 + 1) (show (z0 + 1) ≠ o by omega)).trans h122
      have h138 := (f133 da (Ne.symm (ob_ar h117 h123))).trans h123
      have hV139 := hV124.put h117 (by decide) f133 z134
      have hV140 := hV125.put h117 (by decide) f133 z134
      have hV141 := hV126.put h117 (by decide) f133 z134
      have hV142 := hV127.put h117 (by decide) f133 z134
      have hV143 := hV128.put h117 (by decide) f133 z134
      have tp145 : M131.2.1 = t114 := by rw [z134]; exact tp130
      clear h120 h117 h121 h122 h123 hV124 hV125 hV126 hV127 hV128 f133
      show pl _ _ _ (63, [(0, .ref o), (2, .ref t43)], [], M131) _
      refine ps_st (S' := (64, [(0, .ref o), (2, .ref t43)], [.ref t43], M131)) rfl rfl rfl ?_
      refine ps_get (S' := (67, [(0, .ref o), (2, .ref t43)], [.int 0], M131)) rfl h135 rfl rfl ?_
      have hrd : s_read f n = none := s_read_2 q36_s q44_s
      exact ps_ret rfl rfl (Or.inl ⟨z0, hrd, ⟨z0 + 1, q84, by2 f 8, E83, p185, pF86, pM87, pA88, _, h136, h137, h138, hV139, q36_s, rfl, ⟨by omega, by omega, by omega⟩, hn, ⟨m189, m290, G191, G292, _, _, _, _, rfl, hV140, hV141, q36_c, q36_f, q36_m, q36_a, q44_B, q44_U, hV142, hV143.k⟩⟩, by omega, rfl, h132, by omega⟩)
    · skip
      obtain ⟨e9146, q44_s, rfl, h147, h148, tp150⟩ := q104
      obtain ⟨t151, tp152⟩ : ∃ t9, M103.2.1 = t9 := ⟨_, rfl⟩
      rw [tp101, tp152] at tp150
      show pl _ _ _ (47, [(2, .ref t43), (1, .ref z0), (0, .ref o)], [.int 0], M103) _
      refine ps_if (S1 := (55, [(0, .ref o), (2, .ref t43)], [], M103)) (S2 := (50, [(2, .ref t43), (1, .ref z0), (0, .ref o)], [], M103)) rfl rfl rfl (fun c_47 => ?_) (fun c_47 => ?_)
      rotate_left
      · exact absurd (by decide) (of_decide_eq_false c_47)
      refine ps_st (S' := (56, [(0, .ref o), (2, .ref t43)], [.ref o], M103)) rfl rfl rfl ?_
      refine ps_st (S' := (57, [(0, .ref o), (2, .ref t43)], [.ref t43, .ref o], M103)) rfl rfl rfl ?_
      refine ps_get (S' := (60, [(0, .ref o), (2, .ref t43)], [.int (nI e9146.2), .ref o], M103)) rfl h147 rfl rfl ?_
      refine ps_put (l' := [.ref ca, .int cn, .ref g.1, kv, .int (nI e9146.2)]) rfl h148 rfl rfl (fun M153 h154 f155 z156 => ?_)
      have h157 := (f155 t43 (show t43 ≠ o by omega)).trans h147
      have tp159 : M153.2.1 = t151 := by rw [z156]; exact tp152
      clear h147 h148 f155
      show pl _ _ _ (63, [(0, .ref o), (2, .ref t43)], [], M153) _
      refine ps_st (S' := (64, [(0, .ref o), (2, .ref t43)], [.ref t43], M153)) rfl rfl rfl ?_
      refine ps_get (S' := (67, [(0, .ref o), (2, .ref t43)], [.int (nI e9146.1)], M153)) rfl h157 rfl rfl ?_
      exact ps_reti rfl (Or.inr ⟨e9146, s_read_2 q36_s q44_s, rfl, h154, by omega⟩)
  · skip
    obtain ⟨e9160, q36_s, rfl, h161, h162, tp164⟩ := q82
    obtain ⟨t165, tp166⟩ : ∃ t9, M81.2.1 = t9 := ⟨_, rfl⟩
    rw [tp79, tp166] at tp164
    show pl _ _ _ (39, [(2, .ref t43), (1, .ref z0), (0, .ref o)], [.int 0], M81) _
    refine ps_if (S1 := (55, [(0, .ref o), (2, .ref t43)], [], M81)) (S2 := (42, [(2, .ref t43), (1, .ref z0), (0, .ref o)], [], M81)) rfl rfl rfl (fun c_39 => ?_) (fun c_39 => ?_)
    rotate_left
    · exact absurd (by decide) (of_decide_eq_false c_39)
    refine ps_st (S' := (56, [(0, .ref o), (2, .ref t43)], [.ref o], M81)) rfl rfl rfl ?_
    refine ps_st (S' := (57, [(0, .ref o), (2, .ref t43)], [.ref t43, .ref o], M81)) rfl rfl rfl ?_
    refine ps_get (S' := (60, [(0, .ref o), (2, .ref t43)], [.int (nI e9160.2), .ref o], M81)) rfl h161 rfl rfl ?_
    refine ps_put (l' := [.ref ca, .int cn, .ref g.1, kv, .int (nI e9160.2)]) rfl h162 rfl rfl (fun M167 h168 f169 z170 => ?_)
    have h171 := (f169 t43 (show t43 ≠ o by omega)).trans h161
    have tp173 : M167.2.1 = t165 := by rw [z170]; exact tp166
    clear h161 h162 f169
    show pl _ _ _ (63, [(0, .ref o), (2, .ref t43)], [], M167) _
    refine ps_st (S' := (64, [(0, .ref o), (2, .ref t43)], [.ref t43], M167)) rfl rfl rfl ?_
    refine ps_get (S' := (67, [(0, .ref o), (2, .ref t43)], [.int (nI e9160.1)], M167)) rfl h171 rfl rfl ?_
    exact ps_reti rfl (Or.inr ⟨e9160, s_read_1 q36_s, rfl, h168, by omega⟩)
end
