section
/-! all methods, with what they tell (laid by wip/p4/e40.py) -/
set_option maxHeartbeats 8000000 in
theorem rd_checkMethods7 {g : xe_G} {m0 : Nat} {q : Nat → Nat} {z : Nat × Nat} {I : rI} {R : rR} {M : mi_H} {n : Nat} {f : Nat → Int32} {tx : List (List Nat)} {cN : Nat} {A : Nat → Nat} {N mj : Nat} {E : List (Nat × Nat)} {pM f0 cf si sc : Nat} {B : List Nat} {E1 : Nat → Nat} (hR : RS g m0 q z I R M) (hi51 : I 51 = some 0) (hi52 : I 52 = some (nI N)) (hi53 : I 53 = some (nI mj)) (hi58 : I 58 = some (nI cf)) (hi56 : I 56 = some (nI pM)) (hi26 : I 26 = some (nI f0)) (hi9 : I 9 = some (nI si)) (hi10 : I 10 = some (nI sc)) (hF : FK n f I R) (hY : SYT tx cN A I R) (hP : RPV f n E tx N I R) (hK : KX I R) (hEP : EP f n E) (hN : N < 65536) (hmj : mj < 65536) (hMB : MBS f n B pM E1) (hf0 : f0 ≤ 8300) (hcf : cf < 65536) (hsi : si < tx.length ∧ tx.getD si [] = ltx 12) (hsc : sc < tx.length ∧ tx.getD sc [] = ltx 13) : pt (mT g) 191 [.ref m0] M (fun v M' => (∃  (I' : rI) (R' : rR), (mtS f n E cf mj B B.length 0 = none) ∧ v = some (.int 1) ∧ RS g m0 q z I' R' M' ∧ eqI [26, 47, 48] I I' ∧ eqR [34, 35, 36, 37, 38, 39, 40, 41, 42, 43, 44, 45, 46] R R' ∧ I' 26 = some (nI (f0 + B.length)) ∧ FN 35 36 f n E tx B f0 B.length I' R' ∧ MQX f n E B f0 B.length I' R') ∨ (∃ (e9 : Nat × Nat) (I' : rI) (R' : rR), (mtS f n E cf mj B B.length 0 = some e9) ∧ v = some (.int 0) ∧ RS g m0 q z I' R' M' ∧ eqI [26, 47, 48] I I' ∧ eqR [34, 35, 36, 37, 38, 39, 40, 41, 42, 43, 44, 45, 46] R R' ∧ I' 47 = some (nI e9.1) ∧ I' 48 = some (nI e9.2))) := by
  refine pt_in (b := mb_191 g) rfl (fun kf => ?_)
  show pl (mT g) kf (mb_191 g).2 (0, [(0, .ref m0)], [], M) _
  have hEI : eqI [26, 47, 48] I I := eqI.rf
  have hER : eqR [34, 35, 36, 37, 38, 39, 40, 41, 42, 43, 44, 45, 46] R R := eqR.rf
  have hn := hF.1
  have hBl := hMB.1
  have hp2 := hMB.2.1
  have hFN0 : FN 35 36 f n E tx B f0 0 I R := fun j hj => absurd hj (Nat.not_lt_zero _)
  have hFQ0 : MQX f n E B f0 0 I R := fun j hj => absurd hj (Nat.not_lt_zero _)
  have LL : ∀ (kf : Nat), (∀ (k p ib : Nat) (M1 : mi_H) (I1 : rI) (R1 : rR), (RS g m0 q z I1 R1 M1) → (eqI [26, 47, 48] I I1) → (eqR [34, 35, 36, 37, 38, 39, 40, 41, 42, 43, 44, 45, 46] R R1) → (I1 51 = some 0) → (I1 52 = some (nI N)) → (I1 53 = some (nI mj)) → (I1 58 = some (nI cf)) → (I1 56 = some (nI pM)) → (I1 26 = some (nI (f0 + k))) → (I1 9 = some (nI si)) → (I1 10 = some (nI sc)) → (FK n f I1 R1) → (SYT tx cN A I1 R1) → (RPV f n E tx N I1 R1) → (KX I1 R1) → (FN 35 36 f n E tx B f0 k I1 R1) → (MQX f n E B f0 k I1 R1) → (k ≤ by2 f pM) → (k < by2 f pM → p = B.getD k 0) → (p ≤ n) → (mtS f n E cf mj B (B.length - k) k = mtS f n E cf mj B B.length 0) → ((ib = 0 ∧ aN cf 512 = 0) ∨ (ib = 1 ∧ ¬ aN cf 512 = 0)) →  pl (mT g) kf (mb_191 g).2 (40, [(0, .ref m0), (1, .int (nI p)), (2, .int (nI (by2 f pM))), (3, .int (nI f0)), (4, .int (nI ib)), (5, .int (nI k))], [], M1) (fun v M' => (∃  (I' : rI) (R' : rR), (mtS f n E cf mj B B.length 0 = none) ∧ v = some (.int 1) ∧ RS g m0 q z I' R' M' ∧ eqI [26, 47, 48] I I' ∧ eqR [34, 35, 36, 37, 38, 39, 40, 41, 42, 43, 44, 45, 46] R R' ∧ I' 26 = some (nI (f0 + B.length)) ∧ FN 35 36 f n E tx B f0 B.length I' R' ∧ MQX f n E B f0 B.length I' R') ∨ (∃ (e9 : Nat × Nat) (I' : rI) (R' : rR), (mtS f n E cf mj B B.length 0 = some e9) ∧ v = some (.int 0) ∧ RS g m0 q z I' R' M' ∧ eqI [26, 47, 48] I I' ∧ eqR [34, 35, 36, 37, 38, 39, 40, 41, 42, 43, 44, 45, 46] R R' ∧ I' 47 = some (nI e9.1) ∧ I' 48 = some (nI e9.2)))) ∧ (∀ (k p ib a i9 i8 : Nat) (M1 : mi_H) (I1 : rI) (R1 : rR), (RS g m0 q z I1 R1 M1) → (eqI [26, 47, 48] I I1) → (eqR [34, 35, 36, 37, 38, 39, 40, 41, 42, 43, 44, 45, 46] R R1) → (I1 51 = some 0) → (I1 52 = some (nI N)) → (I1 53 = some (nI mj)) → (I1 58 = some (nI cf)) → (I1 56 = some (nI pM)) → (I1 26 = some (nI (f0 + k))) → (I1 9 = some (nI si)) → (I1 10 = some (nI sc)) → (FK n f I1 R1) → (SYT tx cN A I1 R1) → (RPV f n E tx N I1 R1) → (KX I1 R1) → (FN 35 36 f n E tx B f0 k I1 R1) → (MQX f n E B f0 k I1 R1) → (k < by2 f pM) → (p = B.getD k 0) → (p + 8 ≤ n) → (mtS f n E cf mj B (B.length - k) k = mtS f n E cf mj B B.length 0) → ((ib = 0 ∧ aN cf 512 = 0) ∨ (ib = 1 ∧ ¬ aN cf 512 = 0)) → (a < tx.length ∧ tx.getD a [] = tX f n E (by2 f (p + 2))) → (tg f E (by2 f (p + 2)) = 1) → (¬ mnmN f n E cf (by2 f (p + 2)) = 0) → (¬ mflN f n E cf mj (by2 f p) (by2 f (p + 2)) = 0) → ((i9 = 1 ∧ ¬ eqN (tX f n E (by2 f (p + 2))) (ltx 13) = 0) ∨ (i9 = 0 ∧ eqN (tX f n E (by2 f (p + 2))) (ltx 13) = 0)) → ((i8 = 1 ∧ ¬ eqN (tX f n E (by2 f (p + 2))) (ltx 12) = 0) ∨ (i8 = 0 ∧ eqN (tX f n E (by2 f (p + 2))) (ltx 12) = 0)) →  pl (mT g) kf (mb_191 g).2 (183, [(0, .ref m0), (1, .int (nI p)), (2, .int (nI (by2 f pM))), (3, .int (nI f0)), (4, .int (nI ib)), (5, .int (nI k)), (6, .int (nI (by2 f p))), (7, .int (nI a)), (8, .int (nI i8)), (9, .int (nI i9))], [], M1) (fun v M' => (∃  (I' : rI) (R' : rR), (mtS f n E cf mj B B.length 0 = none) ∧ v = some (.int 1) ∧ RS g m0 q z I' R' M' ∧ eqI [26, 47, 48] I I' ∧ eqR [34, 35, 36, 37, 38, 39, 40, 41, 42, 43, 44, 45, 46] R R' ∧ I' 26 = some (nI (f0 + B.length)) ∧ FN 35 36 f n E tx B f0 B.length I' R' ∧ MQX f n E B f0 B.length I' R') ∨ (∃ (e9 : Nat × Nat) (I' : rI) (R' : rR), (mtS f n E cf mj B B.length 0 = some e9) ∧ v = some (.int 0) ∧ RS g m0 q z I' R' M' ∧ eqI [26, 47, 48] I I' ∧ eqR [34, 35, 36, 37, 38, 39, 40, 41, 42, 43, 44, 45, 46] R R' ∧ I' 47 = some (nI e9.1) ∧ I' 48 = some (nI e9.2)))) ∧ (∀ (k p ib a i9 d : Nat) (M1 : mi_H) (I1 : rI) (R1 : rR), (RS g m0 q z I1 R1 M1) → (eqI [26, 47, 48] I I1) → (eqR [34, 35, 36, 37, 38, 39, 40, 41, 42, 43, 44, 45, 46] R R1) → (I1 51 = some 0) → (I1 52 = some (nI N)) → (I1 53 = some (nI mj)) → (I1 58 = some (nI cf)) → (I1 56 = some (nI pM)) → (I1 26 = some (nI (f0 + k))) → (I1 9 = some (nI si)) → (I1 10 = some (nI sc)) → (FK n f I1 R1) → (SYT tx cN A I1 R1) → (RPV f n E tx N I1 R1) → (KX I1 R1) → (FN 35 36 f n E tx B f0 k I1 R1) → (MQX f n E B f0 k I1 R1) → (k < by2 f pM) → (p = B.getD k 0) → (p + 8 ≤ n) → (mtS f n E cf mj B (B.length - k) k = mtS f n E cf mj B B.length 0) → ((ib = 0 ∧ aN cf 512 = 0) ∨ (ib = 1 ∧ ¬ aN cf 512 = 0)) → (a < tx.length ∧ tx.getD a [] = tX f n E (by2 f (p + 2))) → (tg f E (by2 f (p + 2)) = 1) → (¬ mnmN f n E cf (by2 f (p + 2)) = 0) → (¬ mflN f n E cf mj (by2 f p) (by2 f (p + 2)) = 0) → ((i9 = 1 ∧ ¬ eqN (tX f n E (by2 f (p + 2))) (ltx 13) = 0) ∨ (i9 = 0 ∧ eqN (tX f n E (by2 f (p + 2))) (ltx 13) = 0)) → (d < tx.length ∧ tx.getD d [] = tX f n E (by2 f (p + 4))) → (tg f E (by2 f (p + 4)) = 1) → (¬ mthN (tX f n E (by2 f (p + 4))) = 0) → (¬ mdsN f n E (by2 f (p + 2)) (by2 f (p + 4)) (apN f n E p) = 0) →  pl (mT g) kf (mb_191 g).2 (279, [(0, .ref m0), (1, .int (nI p)), (2, .int (nI (by2 f pM))), (3, .int (nI f0)), (4, .int (nI ib)), (5, .int (nI k)), (6, .int (nI (by2 f p))), (7, .int (nI a)), (9, .int (nI i9)), (10, .int (nI d))], [], M1) (fun v M' => (∃  (I' : rI) (R' : rR), (mtS f n E cf mj B B.length 0 = none) ∧ v = some (.int 1) ∧ RS g m0 q z I' R' M' ∧ eqI [26, 47, 48] I I' ∧ eqR [34, 35, 36, 37, 38, 39, 40, 41, 42, 43, 44, 45, 46] R R' ∧ I' 26 = some (nI (f0 + B.length)) ∧ FN 35 36 f n E tx B f0 B.length I' R' ∧ MQX f n E B f0 B.length I' R') ∨ (∃ (e9 : Nat × Nat) (I' : rI) (R' : rR), (mtS f n E cf mj B B.length 0 = some e9) ∧ v = some (.int 0) ∧ RS g m0 q z I' R' M' ∧ eqI [26, 47, 48] I I' ∧ eqR [34, 35, 36, 37, 38, 39, 40, 41, 42, 43, 44, 45, 46] R R' ∧ I' 47 = some (nI e9.1) ∧ I' 48 = some (nI e9.2)))) ∧ (∀ (k p ib a i9 d j : Nat) (M1 : mi_H) (I1 : rI) (R1 : rR), (RS g m0 q z I1 R1 M1) → (eqI [26, 47, 48] I I1) → (eqR [34, 35, 36, 37, 38, 39, 40, 41, 42, 43, 44, 45, 46] R R1) → (I1 51 = some 0) → (I1 52 = some (nI N)) → (I1 53 = some (nI mj)) → (I1 58 = some (nI cf)) → (I1 56 = some (nI pM)) → (I1 26 = some (nI (f0 + k))) → (I1 9 = some (nI si)) → (I1 10 = some (nI sc)) → (FK n f I1 R1) → (SYT tx cN A I1 R1) → (RPV f n E tx N I1 R1) → (KX I1 R1) → (FN 35 36 f n E tx B f0 k I1 R1) → (CE 34 (f0 + k) (nI (by2 f p)) I1 R1) → (CE 35 (f0 + k) (nI a) I1 R1) → (CE 36 (f0 + k) (nI d) I1 R1) → (CX 0 (f0 + k) I1 R1) → (MQX f n E B f0 k I1 R1) → (MWc f (f0 + k) (0, 0, 0) I1 R1) → (CE 45 (f0 + k) (nI (by2 f (p + 2))) I1 R1) → (CE 46 (f0 + k) (nI (by2 f (p + 4))) I1 R1) → (k < by2 f pM) → (p = B.getD k 0) → (p + 8 ≤ n) → (mtS f n E cf mj B (B.length - k) k = mtS f n E cf mj B B.length 0) → ((ib = 0 ∧ aN cf 512 = 0) ∨ (ib = 1 ∧ ¬ aN cf 512 = 0)) → (a < tx.length ∧ tx.getD a [] = tX f n E (by2 f (p + 2))) → (tg f E (by2 f (p + 2)) = 1) → (¬ mnmN f n E cf (by2 f (p + 2)) = 0) → (¬ mflN f n E cf mj (by2 f p) (by2 f (p + 2)) = 0) → ((i9 = 1 ∧ ¬ eqN (tX f n E (by2 f (p + 2))) (ltx 13) = 0) ∨ (i9 = 0 ∧ eqN (tX f n E (by2 f (p + 2))) (ltx 13) = 0)) → (d < tx.length ∧ tx.getD d [] = tX f n E (by2 f (p + 4))) → (tg f E (by2 f (p + 4)) = 1) → (¬ mthN (tX f n E (by2 f (p + 4))) = 0) → (¬ mdsN f n E (by2 f (p + 2)) (by2 f (p + 4)) (apN f n E p) = 0) → (j ≤ k) → (f0 + k < 8300) → (smeS f n E B (by2 f (p + 2)) (by2 f (p + 4)) (k - j) j = smeS f n E B (by2 f (p + 2)) (by2 f (p + 4)) k 0) →  pl (mT g) kf (mb_191 g).2 (399, [(0, .ref m0), (1, .int (nI p)), (2, .int (nI (by2 f pM))), (3, .int (nI f0)), (4, .int (nI ib)), (5, .int (nI k)), (6, .int (nI (by2 f p))), (7, .int (nI a)), (9, .int (nI i9)), (10, .int (nI d)), (11, .int (nI (f0 + k))), (12, .int (nI (f0 + j)))], [], M1) (fun v M' => (∃  (I' : rI) (R' : rR), (mtS f n E cf mj B B.length 0 = none) ∧ v = some (.int 1) ∧ RS g m0 q z I' R' M' ∧ eqI [26, 47, 48] I I' ∧ eqR [34, 35, 36, 37, 38, 39, 40, 41, 42, 43, 44, 45, 46] R R' ∧ I' 26 = some (nI (f0 + B.length)) ∧ FN 35 36 f n E tx B f0 B.length I' R' ∧ MQX f n E B f0 B.length I' R') ∨ (∃ (e9 : Nat × Nat) (I' : rI) (R' : rR), (mtS f n E cf mj B B.length 0 = some e9) ∧ v = some (.int 0) ∧ RS g m0 q z I' R' M' ∧ eqI [26, 47, 48] I I' ∧ eqR [34, 35, 36, 37, 38, 39, 40, 41, 42, 43, 44, 45, 46] R R' ∧ I' 47 = some (nI e9.1) ∧ I' 48 = some (nI e9.2)))) := by
    intro kf
    induction kf with
    | zero => exact ⟨by intros; exact pl_0, by intros; exact pl_0, by intros; exact pl_0, by intros; exact pl_0⟩
    | succ kf ih =>
      refine ⟨?_, ?_, ?_, ?_⟩
      · skip
        intro k p ib M1 I1 R1 hR1 hEI1 hER1 hl51 hl52 hl53 hl58 hl56 hl26 hl9 hl10 hF1 hY1 hP1 hK1 hN91 hQ1 hk hp hpn hs hib
        have hn := hF1.1
        have hu9 := by2_lt f pM
        have htl := hY1.1.2.2.1
        have hBl := hMB.1
        have hi7 := hsi.1
        have hc7 := hsc.1
        refine ps_st1 (S' := (42, [(0, .ref m0), (1, .int (nI p)), (2, .int (nI (by2 f pM))), (3, .int (nI f0)), (4, .int (nI ib)), (5, .int (nI k))], [.int (nI k)], M1)) rfl rfl rfl ?_
        refine ps_st (S' := (43, [(0, .ref m0), (1, .int (nI p)), (2, .int (nI (by2 f pM))), (3, .int (nI f0)), (4, .int (nI ib)), (5, .int (nI k))], [.int (nI (by2 f pM)), .int (nI k)], M1)) rfl rfl rfl ?_
        refine ps_if2 (S1 := (532, [(0, .ref m0), (1, .int (nI p)), (2, .int (nI (by2 f pM))), (3, .int (nI f0)), (4, .int (nI ib)), (5, .int (nI k))], [], M1)) (S2 := (46, [(0, .ref m0), (1, .int (nI p)), (2, .int (nI (by2 f pM))), (3, .int (nI f0)), (4, .int (nI ib)), (5, .int (nI k))], [], M1)) rfl rfl rfl (fun c_43 => ?_) (fun c_43 => ?_)
        · have c_43 : (nI (by2 f pM)) ≤ (nI k) := of_decide_eq_true c_43
          have n_43 : by2 f pM ≤ k := (le_nI (p := by2 f pM) (n := k) (Nat.lt_trans (by2_lt _ _) (by decide)) (by omega)).mp c_43
          refine ps_st (S' := (533, [(0, .ref m0), (1, .int (nI p)), (2, .int (nI (by2 f pM))), (3, .int (nI f0)), (4, .int (nI ib)), (5, .int (nI k))], [.int 1], M1)) rfl rfl rfl ?_
          exact ps_ret rfl rfl (Or.inl ⟨I1, R1, by
              rw [← hs, show B.length - k = 0 by omega]
              rfl, rfl, hR1, hEI1, hER1, by rw [show B.length = k by omega]; exact hl26, by rw [show B.length = k by omega]; exact hN91, by rw [show B.length = k by omega]; exact hQ1⟩)
        · have c_43 : ¬ ((nI (by2 f pM)) ≤ (nI k)) := of_decide_eq_false c_43
          have n_43 : ¬ (by2 f pM ≤ k) := fun h9 => c_43 ((le_nI (p := by2 f pM) (n := k) (Nat.lt_trans (by2_lt _ _) (by decide)) (by omega)).mpr h9)
          have hpk := hp (by omega)
          have hm8 := (hMB.2.2.2 k (by omega)).1
          have hm7 := (hMB.2.2.2 k (by omega)).2.1
          rw [← hpk] at hm8
          have hpe : p + 8 ≤ n := by omega
          have hu8 := by2_lt f p
          refine ps_st (S' := (47, [(0, .ref m0), (1, .int (nI p)), (2, .int (nI (by2 f pM))), (3, .int (nI f0)), (4, .int (nI ib)), (5, .int (nI k))], [.ref m0], M1)) rfl rfl rfl ?_
          refine ps_st (S' := (48, [(0, .ref m0), (1, .int (nI p)), (2, .int (nI (by2 f pM))), (3, .int (nI f0)), (4, .int (nI ib)), (5, .int (nI k))], [.int (nI p), .ref m0], M1)) rfl rfl rfl ?_
          refine pl_call (a := [.ref m0, .int (nI p)]) (rest := []) rfl rfl rfl (rd_u2 (n := n) (f := f) (p := p) hR1 hF1 (by omega)) (fun v1 M2 q3 => ?_)
          obtain ⟨rfl, rfl⟩ := q3
          show pl _ _ _ (51, [(0, .ref m0), (1, .int (nI p)), (2, .int (nI (by2 f pM))), (3, .int (nI f0)), (4, .int (nI ib)), (5, .int (nI k))], [.int (nI (by2 f p))], M1) _
          have hu_48 := by2_lt f p
          refine ps_st (S' := (53, [(6, .int (nI (by2 f p))), (0, .ref m0), (1, .int (nI p)), (2, .int (nI (by2 f pM))), (3, .int (nI f0)), (4, .int (nI ib)), (5, .int (nI k))], [], M1)) rfl rfl rfl ?_
          refine ps_st (S' := (54, [(6, .int (nI (by2 f p))), (0, .ref m0), (1, .int (nI p)), (2, .int (nI (by2 f pM))), (3, .int (nI f0)), (4, .int (nI ib)), (5, .int (nI k))], [.ref m0], M1)) rfl rfl rfl ?_
          refine ps_st (S' := (55, [(6, .int (nI (by2 f p))), (0, .ref m0), (1, .int (nI p)), (2, .int (nI (by2 f pM))), (3, .int (nI f0)), (4, .int (nI ib)), (5, .int (nI k))], [.ref m0, .ref m0], M1)) rfl rfl rfl ?_
          refine ps_st (S' := (56, [(6, .int (nI (by2 f p))), (0, .ref m0), (1, .int (nI p)), (2, .int (nI (by2 f pM))), (3, .int (nI f0)), (4, .int (nI ib)), (5, .int (nI k))], [.int (nI p), .ref m0, .ref m0], M1)) rfl rfl rfl ?_
          refine ps_st (S' := (57, [(6, .int (nI (by2 f p))), (0, .ref m0), (1, .int (nI p)), (2, .int (nI (by2 f pM))), (3, .int (nI f0)), (4, .int (nI ib)), (5, .int (nI k))], [.int 2, .int (nI p), .ref m0, .ref m0], M1)) rfl rfl rfl ?_
          refine ps_st (S' := (58, [(6, .int (nI (by2 f p))), (0, .ref m0), (1, .int (nI p)), (2, .int (nI (by2 f pM))), (3, .int (nI f0)), (4, .int (nI ib)), (5, .int (nI k))], [.int ((nI p) + 2), .ref m0, .ref m0], M1)) rfl rfl rfl ?_
          rw [nI_add1 (p := p) (k := 2) (x := 2) rfl (by omega)]
          show pl _ _ _ (_, [(6, .int (nI (by2 f p))), (0, .ref m0), (1, .int (nI p)), (2, .int (nI (by2 f pM))), (3, .int (nI f0)), (4, .int (nI ib)), (5, .int (nI k))], [.int (nI (p + 2)), .ref m0, .ref m0], M1) _
          refine pl_call (a := [.ref m0, .int (nI (p + 2))]) (rest := [.ref m0]) rfl rfl rfl (rd_u2 (n := n) (f := f) (p := (p + 2)) hR1 hF1 (by omega)) (fun v4 M5 q6 => ?_)
          obtain ⟨rfl, rfl⟩ := q6
          show pl _ _ _ (61, [(6, .int (nI (by2 f p))), (0, .ref m0), (1, .int (nI p)), (2, .int (nI (by2 f pM))), (3, .int (nI f0)), (4, .int (nI ib)), (5, .int (nI k))], [.int (nI (by2 f (p + 2))), .ref m0], M1) _
          have hu_58 := by2_lt f (p + 2)
          refine pl_call (a := [.ref m0, .int (nI (by2 f (p + 2)))]) (rest := []) rfl rfl rfl (rd_tag (n := n) (f := f) (tx := tx) (cN := cN) (A := A) (N := N) (mj := mj) (E := E) (k := (by2 f (p + 2))) hR1 hl51 hl52 hl53 hF1 hY1 hP1 (hEP) (hN) (hmj) (by2_lt _ _)) (fun v7 M8 q9 => ?_)
          obtain ⟨rfl, rfl⟩ := q9
          show pl _ _ _ (64, [(6, .int (nI (by2 f p))), (0, .ref m0), (1, .int (nI p)), (2, .int (nI (by2 f pM))), (3, .int (nI f0)), (4, .int (nI ib)), (5, .int (nI k))], [.int (nI (tg f E (by2 f (p + 2))))], M1) _
          have htg_61 := tg_lt f E (by2 f (p + 2))
          refine ps_st (S' := (65, [(6, .int (nI (by2 f p))), (0, .ref m0), (1, .int (nI p)), (2, .int (nI (by2 f pM))), (3, .int (nI f0)), (4, .int (nI ib)), (5, .int (nI k))], [.int 1, .int (nI (tg f E (by2 f (p + 2))))], M1)) rfl rfl rfl ?_
          refine ps_if2 (S1 := (82, [(6, .int (nI (by2 f p))), (0, .ref m0), (1, .int (nI p)), (2, .int (nI (by2 f pM))), (3, .int (nI f0)), (4, .int (nI ib)), (5, .int (nI k))], [], M1)) (S2 := (68, [(6, .int (nI (by2 f p))), (0, .ref m0), (1, .int (nI p)), (2, .int (nI (by2 f pM))), (3, .int (nI f0)), (4, .int (nI ib)), (5, .int (nI k))], [], M1)) rfl rfl rfl (fun c_65 => ?_) (fun c_65 => ?_)
          · have c_65 : ¬ (nI (tg f E (by2 f (p + 2)))) = 1 := of_decide_eq_true c_65
            have n_65 : ¬ (tg f E (by2 f (p + 2)) = 1) := fun h9 => c_65 ((eq_nI (p := tg f E (by2 f (p + 2))) (n := 1) (Nat.lt_trans (tg_lt _ _ _) (by decide)) (by decide)).mpr h9)
            refine ps_st (S' := (83, [(0, .ref m0), (1, .int (nI p)), (2, .int (nI (by2 f pM))), (3, .int (nI f0)), (4, .int (nI ib)), (5, .int (nI k)), (6, .int (nI (by2 f p)))], [.int (-1)], M1)) rfl rfl rfl ?_
            refine ps_st (S' := (85, [(7, .int (-1)), (0, .ref m0), (1, .int (nI p)), (2, .int (nI (by2 f pM))), (3, .int (nI f0)), (4, .int (nI ib)), (5, .int (nI k)), (6, .int (nI (by2 f p)))], [], M1)) rfl rfl rfl ?_
            refine ps_st (S' := (87, [(7, .int (-1)), (0, .ref m0), (1, .int (nI p)), (2, .int (nI (by2 f pM))), (3, .int (nI f0)), (4, .int (nI ib)), (5, .int (nI k)), (6, .int (nI (by2 f p)))], [.int (-1)], M1)) rfl rfl rfl ?_
            refine ps_st (S' := (88, [(7, .int (-1)), (0, .ref m0), (1, .int (nI p)), (2, .int (nI (by2 f pM))), (3, .int (nI f0)), (4, .int (nI ib)), (5, .int (nI k)), (6, .int (nI (by2 f p)))], [.ref m0, .int (-1)], M1)) rfl rfl rfl ?_
            refine pr_int (j := 9) (S' := (91, [(7, .int (-1)), (0, .ref m0), (1, .int (nI p)), (2, .int (nI (by2 f pM))), (3, .int (nI f0)), (4, .int (nI ib)), (5, .int (nI k)), (6, .int (nI (by2 f p)))], [.int (nI si), .int (-1)], M1)) rfl hR1 rfl hl9 rfl ?_
            refine ps_if2 (S1 := (98, [(7, .int (-1)), (0, .ref m0), (1, .int (nI p)), (2, .int (nI (by2 f pM))), (3, .int (nI f0)), (4, .int (nI ib)), (5, .int (nI k)), (6, .int (nI (by2 f p)))], [], M1)) (S2 := (94, [(7, .int (-1)), (0, .ref m0), (1, .int (nI p)), (2, .int (nI (by2 f pM))), (3, .int (nI f0)), (4, .int (nI ib)), (5, .int (nI k)), (6, .int (nI (by2 f p)))], [], M1)) rfl rfl rfl (fun c_91 => ?_) (fun c_91 => ?_)
            rotate_left
            · exact absurd (m1_ne (by omega)) (of_decide_eq_false c_91)
            refine ps_st (S' := (99, [(0, .ref m0), (1, .int (nI p)), (2, .int (nI (by2 f pM))), (3, .int (nI f0)), (4, .int (nI ib)), (5, .int (nI k)), (6, .int (nI (by2 f p))), (7, .int (-1))], [.int 0], M1)) rfl rfl rfl ?_
            refine ps_st (S' := (101, [(8, .int 0), (0, .ref m0), (1, .int (nI p)), (2, .int (nI (by2 f pM))), (3, .int (nI f0)), (4, .int (nI ib)), (5, .int (nI k)), (6, .int (nI (by2 f p))), (7, .int (-1))], [], M1)) rfl rfl rfl ?_
            refine ps_st (S' := (103, [(8, .int 0), (0, .ref m0), (1, .int (nI p)), (2, .int (nI (by2 f pM))), (3, .int (nI f0)), (4, .int (nI ib)), (5, .int (nI k)), (6, .int (nI (by2 f p))), (7, .int (-1))], [.int (-1)], M1)) rfl rfl rfl ?_
            refine ps_st (S' := (104, [(8, .int 0), (0, .ref m0), (1, .int (nI p)), (2, .int (nI (by2 f pM))), (3, .int (nI f0)), (4, .int (nI ib)), (5, .int (nI k)), (6, .int (nI (by2 f p))), (7, .int (-1))], [.ref m0, .int (-1)], M1)) rfl rfl rfl ?_
            refine pr_int (j := 10) (S' := (107, [(8, .int 0), (0, .ref m0), (1, .int (nI p)), (2, .int (nI (by2 f pM))), (3, .int (nI f0)), (4, .int (nI ib)), (5, .int (nI k)), (6, .int (nI (by2 f p))), (7, .int (-1))], [.int (nI sc), .int (-1)], M1)) rfl hR1 rfl hl10 rfl ?_
            refine ps_if2 (S1 := (114, [(8, .int 0), (0, .ref m0), (1, .int (nI p)), (2, .int (nI (by2 f pM))), (3, .int (nI f0)), (4, .int (nI ib)), (5, .int (nI k)), (6, .int (nI (by2 f p))), (7, .int (-1))], [], M1)) (S2 := (110, [(8, .int 0), (0, .ref m0), (1, .int (nI p)), (2, .int (nI (by2 f pM))), (3, .int (nI f0)), (4, .int (nI ib)), (5, .int (nI k)), (6, .int (nI (by2 f p))), (7, .int (-1))], [], M1)) rfl rfl rfl (fun c_107 => ?_) (fun c_107 => ?_)
            rotate_left
            · exact absurd (m1_ne (by omega)) (of_decide_eq_false c_107)
            refine ps_st (S' := (115, [(0, .ref m0), (1, .int (nI p)), (2, .int (nI (by2 f pM))), (3, .int (nI f0)), (4, .int (nI ib)), (5, .int (nI k)), (6, .int (nI (by2 f p))), (7, .int (-1)), (8, .int 0)], [.int 0], M1)) rfl rfl rfl ?_
            refine ps_st (S' := (117, [(9, .int 0), (0, .ref m0), (1, .int (nI p)), (2, .int (nI (by2 f pM))), (3, .int (nI f0)), (4, .int (nI ib)), (5, .int (nI k)), (6, .int (nI (by2 f p))), (7, .int (-1)), (8, .int 0)], [], M1)) rfl rfl rfl ?_
            refine ps_st (S' := (119, [(9, .int 0), (0, .ref m0), (1, .int (nI p)), (2, .int (nI (by2 f pM))), (3, .int (nI f0)), (4, .int (nI ib)), (5, .int (nI k)), (6, .int (nI (by2 f p))), (7, .int (-1)), (8, .int 0)], [.int (-1)], M1)) rfl rfl rfl ?_
            refine ps_if (S1 := (147, [(0, .ref m0), (1, .int (nI p))], [], M1)) (S2 := (122, [(9, .int 0), (0, .ref m0), (1, .int (nI p)), (2, .int (nI (by2 f pM))), (3, .int (nI f0)), (4, .int (nI ib)), (5, .int (nI k)), (6, .int (nI (by2 f p))), (7, .int (-1)), (8, .int 0)], [], M1)) rfl rfl rfl (fun c_119 => ?_) (fun c_119 => ?_)
            rotate_left
            · exact absurd (by decide) (of_decide_eq_false c_119)
            refine ps_st (S' := (148, [(0, .ref m0), (1, .int (nI p))], [.ref m0], M1)) rfl rfl rfl ?_
            refine ps_st (S' := (150, [(0, .ref m0), (1, .int (nI p))], [.int 24, .ref m0], M1)) rfl rfl rfl ?_
            refine ps_st (S' := (151, [(0, .ref m0), (1, .int (nI p))], [.int (nI p), .int 24, .ref m0], M1)) rfl rfl rfl ?_
            refine ps_st (S' := (152, [(0, .ref m0), (1, .int (nI p))], [.int 2, .int (nI p), .int 24, .ref m0], M1)) rfl rfl rfl ?_
            refine ps_st (S' := (153, [(0, .ref m0), (1, .int (nI p))], [.int ((nI p) + 2), .int 24, .ref m0], M1)) rfl rfl rfl ?_
            rw [nI_add1 (p := p) (k := 2) (x := 2) rfl (by omega)]
            show pl _ _ _ (_, [(0, .ref m0), (1, .int (nI p))], [.int (nI (p + 2)), .int 24, .ref m0], M1) _
            refine pl_call (a := [.ref m0, .int 24, .int (nI (p + 2))]) (rest := []) rfl rfl rfl (rd_wrong (x1 := 24) (x2 := (nI (p + 2))) hR1) (fun v10 M11 q12 => ?_)
            obtain ⟨I13, R14, rfl, hR15, hI16, hX17, hi18, hi19⟩ := q12
            have hi20 := (hI16 51 (by decide)).trans hl51
            have hi21 := (hI16 52 (by decide)).trans hl52
            have hi22 := (hI16 53 (by decide)).trans hl53
            have hi23 := (hI16 58 (by decide)).trans hl58
            have hi24 := (hI16 56 (by decide)).trans hl56
            have hi25 := (hI16 26 (by decide)).trans hl26
            have hi27 := (hI16 9 (by decide)).trans hl9
            have hi28 := (hI16 10 (by decide)).trans hl10
            have hF_29 := hF1.mono (cIx hI16 (by decide)) (cRx hX17 (by decide))
            have hY_30 := hY1.mono (cIx hI16 (by decide)) (cRx hX17 (by decide))
            have hP_31 := hP1.mono (cIx hI16 (by decide)) (cRx hX17 (by decide))
            have hK_32 := hK1.mono (cIx hI16 (by decide)) (cRx hX17 (by decide))
            have hN9_33 := hN91.mono (cIx hI16 (by decide)) (cRx hX17 (by decide))
            have hQ_34 := hQ1.mono (cIx hI16 (by decide)) (cRx hX17 (by decide))
            have hEI35 := hEI1.tr hI16 (by decide)
            have hER36 := hER1.tr hX17 (by decide)
            show pl _ _ _ (156, [(0, .ref m0), (1, .int (nI p))], [.int 0], M11) _
            exact ps_ret rfl rfl (Or.inr ⟨(24, p + 2), I13, R14, by
                rw [← hs, mtS_st (i := k) (by omega), ← hpk, mh_24 (mnm_no (by omega))], rfl, hR15, hEI35, hER36, hi18, hi19⟩)
          · have c_65 : ¬ (¬ (nI (tg f E (by2 f (p + 2)))) = 1) := of_decide_eq_false c_65
            have n_65 : tg f E (by2 f (p + 2)) = 1 := (eq_nI (p := tg f E (by2 f (p + 2))) (n := 1) (Nat.lt_trans (tg_lt _ _ _) (by decide)) (by decide)).mp (Decidable.not_not.mp c_65)
            refine ps_st (S' := (69, [(6, .int (nI (by2 f p))), (0, .ref m0), (1, .int (nI p)), (2, .int (nI (by2 f pM))), (3, .int (nI f0)), (4, .int (nI ib)), (5, .int (nI k))], [.ref m0], M1)) rfl rfl rfl ?_
            refine ps_st (S' := (70, [(6, .int (nI (by2 f p))), (0, .ref m0), (1, .int (nI p)), (2, .int (nI (by2 f pM))), (3, .int (nI f0)), (4, .int (nI ib)), (5, .int (nI k))], [.ref m0, .ref m0], M1)) rfl rfl rfl ?_
            refine ps_st (S' := (71, [(6, .int (nI (by2 f p))), (0, .ref m0), (1, .int (nI p)), (2, .int (nI (by2 f pM))), (3, .int (nI f0)), (4, .int (nI ib)), (5, .int (nI k))], [.int (nI p), .ref m0, .ref m0], M1)) rfl rfl rfl ?_
            refine ps_st (S' := (72, [(6, .int (nI (by2 f p))), (0, .ref m0), (1, .int (nI p)), (2, .int (nI (by2 f pM))), (3, .int (nI f0)), (4, .int (nI ib)), (5, .int (nI k))], [.int 2, .int (nI p), .ref m0, .ref m0], M1)) rfl rfl rfl ?_
            refine ps_st (S' := (73, [(6, .int (nI (by2 f p))), (0, .ref m0), (1, .int (nI p)), (2, .int (nI (by2 f pM))), (3, .int (nI f0)), (4, .int (nI ib)), (5, .int (nI k))], [.int ((nI p) + 2), .ref m0, .ref m0], M1)) rfl rfl rfl ?_
            rw [nI_add1 (p := p) (k := 2) (x := 2) rfl (by omega)]
            show pl _ _ _ (_, [(6, .int (nI (by2 f p))), (0, .ref m0), (1, .int (nI p)), (2, .int (nI (by2 f pM))), (3, .int (nI f0)), (4, .int (nI ib)), (5, .int (nI k))], [.int (nI (p + 2)), .ref m0, .ref m0], M1) _
            refine pl_call (a := [.ref m0, .int (nI (p + 2))]) (rest := [.ref m0]) rfl rfl rfl (rd_u2 (n := n) (f := f) (p := (p + 2)) hR1 hF1 (by omega)) (fun v37 M38 q39 => ?_)
            obtain ⟨rfl, rfl⟩ := q39
            show pl _ _ _ (76, [(6, .int (nI (by2 f p))), (0, .ref m0), (1, .int (nI p)), (2, .int (nI (by2 f pM))), (3, .int (nI f0)), (4, .int (nI ib)), (5, .int (nI k))], [.int (nI (by2 f (p + 2))), .ref m0], M1) _
            have hu_73 := by2_lt f (p + 2)
            refine pl_call (a := [.ref m0, .int (nI (by2 f (p + 2)))]) (rest := []) rfl rfl rfl (rd_symOf (n := n) (f := f) (tx := tx) (cN := cN) (A := A) (N := N) (mj := mj) (E := E) (k := (by2 f (p + 2))) hR1 hl51 hl52 hl53 hF1 hY1 hP1 (hEP) (hN) (hmj) (by omega)) (fun v40 M41 q42 => ?_)
            obtain ⟨s43, q76_s, rfl, rfl⟩ := q42
            show pl _ _ _ (79, [(6, .int (nI (by2 f p))), (0, .ref m0), (1, .int (nI p)), (2, .int (nI (by2 f pM))), (3, .int (nI f0)), (4, .int (nI ib)), (5, .int (nI k))], [.int (nI s43)], M1) _
            have hsl_76 := q76_s.1
            have htl_76 := hY1.1.2.2.1
            refine ps_st (S' := (83, [(0, .ref m0), (1, .int (nI p)), (2, .int (nI (by2 f pM))), (3, .int (nI f0)), (4, .int (nI ib)), (5, .int (nI k)), (6, .int (nI (by2 f p)))], [.int (nI s43)], M1)) rfl rfl rfl ?_
            refine ps_st (S' := (85, [(7, .int (nI s43)), (0, .ref m0), (1, .int (nI p)), (2, .int (nI (by2 f pM))), (3, .int (nI f0)), (4, .int (nI ib)), (5, .int (nI k)), (6, .int (nI (by2 f p)))], [], M1)) rfl rfl rfl ?_
            have he1 := sym_eq hY1 q76_s hsi
            have he2 := sym_eq hY1 q76_s hsc
            have hic := ic_no (l := tX f n E (by2 f (p + 2)))
            have hiu := ic_unq (l := tX f n E (by2 f (p + 2)))
            refine ps_st (S' := (87, [(7, .int (nI s43)), (0, .ref m0), (1, .int (nI p)), (2, .int (nI (by2 f pM))), (3, .int (nI f0)), (4, .int (nI ib)), (5, .int (nI k)), (6, .int (nI (by2 f p)))], [.int (nI s43)], M1)) rfl rfl rfl ?_
            refine ps_st (S' := (88, [(7, .int (nI s43)), (0, .ref m0), (1, .int (nI p)), (2, .int (nI (by2 f pM))), (3, .int (nI f0)), (4, .int (nI ib)), (5, .int (nI k)), (6, .int (nI (by2 f p)))], [.ref m0, .int (nI s43)], M1)) rfl rfl rfl ?_
            refine pr_int (j := 9) (S' := (91, [(7, .int (nI s43)), (0, .ref m0), (1, .int (nI p)), (2, .int (nI (by2 f pM))), (3, .int (nI f0)), (4, .int (nI ib)), (5, .int (nI k)), (6, .int (nI (by2 f p)))], [.int (nI si), .int (nI s43)], M1)) rfl hR1 rfl hl9 rfl ?_
            refine ps_if2 (S1 := (98, [(7, .int (nI s43)), (0, .ref m0), (1, .int (nI p)), (2, .int (nI (by2 f pM))), (3, .int (nI f0)), (4, .int (nI ib)), (5, .int (nI k)), (6, .int (nI (by2 f p)))], [], M1)) (S2 := (94, [(7, .int (nI s43)), (0, .ref m0), (1, .int (nI p)), (2, .int (nI (by2 f pM))), (3, .int (nI f0)), (4, .int (nI ib)), (5, .int (nI k)), (6, .int (nI (by2 f p)))], [], M1)) rfl rfl rfl (fun c_91 => ?_) (fun c_91 => ?_)
            · have c_91 : ¬ (nI s43) = (nI si) := of_decide_eq_true c_91
              have n_91 : ¬ (s43 = si) := fun h9 => c_91 ((eq_nI (p := s43) (n := si) (by omega) (by omega)).mpr h9)
              refine ps_st (S' := (99, [(0, .ref m0), (1, .int (nI p)), (2, .int (nI (by2 f pM))), (3, .int (nI f0)), (4, .int (nI ib)), (5, .int (nI k)), (6, .int (nI (by2 f p))), (7, .int (nI s43))], [.int 0], M1)) rfl rfl rfl ?_
              refine ps_st (S' := (101, [(8, .int 0), (0, .ref m0), (1, .int (nI p)), (2, .int (nI (by2 f pM))), (3, .int (nI f0)), (4, .int (nI ib)), (5, .int (nI k)), (6, .int (nI (by2 f p))), (7, .int (nI s43))], [], M1)) rfl rfl rfl ?_
              refine ps_st (S' := (103, [(8, .int 0), (0, .ref m0), (1, .int (nI p)), (2, .int (nI (by2 f pM))), (3, .int (nI f0)), (4, .int (nI ib)), (5, .int (nI k)), (6, .int (nI (by2 f p))), (7, .int (nI s43))], [.int (nI s43)], M1)) rfl rfl rfl ?_
              refine ps_st (S' := (104, [(8, .int 0), (0, .ref m0), (1, .int (nI p)), (2, .int (nI (by2 f pM))), (3, .int (nI f0)), (4, .int (nI ib)), (5, .int (nI k)), (6, .int (nI (by2 f p))), (7, .int (nI s43))], [.ref m0, .int (nI s43)], M1)) rfl rfl rfl ?_
              refine pr_int (j := 10) (S' := (107, [(8, .int 0), (0, .ref m0), (1, .int (nI p)), (2, .int (nI (by2 f pM))), (3, .int (nI f0)), (4, .int (nI ib)), (5, .int (nI k)), (6, .int (nI (by2 f p))), (7, .int (nI s43))], [.int (nI sc), .int (nI s43)], M1)) rfl hR1 rfl hl10 rfl ?_
              refine ps_if2 (S1 := (114, [(8, .int 0), (0, .ref m0), (1, .int (nI p)), (2, .int (nI (by2 f pM))), (3, .int (nI f0)), (4, .int (nI ib)), (5, .int (nI k)), (6, .int (nI (by2 f p))), (7, .int (nI s43))], [], M1)) (S2 := (110, [(8, .int 0), (0, .ref m0), (1, .int (nI p)), (2, .int (nI (by2 f pM))), (3, .int (nI f0)), (4, .int (nI ib)), (5, .int (nI k)), (6, .int (nI (by2 f p))), (7, .int (nI s43))], [], M1)) rfl rfl rfl (fun c_107 => ?_) (fun c_107 => ?_)
              · have c_107 : ¬ (nI s43) = (nI sc) := of_decide_eq_true c_107
                have n_107 : ¬ (s43 = sc) := fun h9 => c_107 ((eq_nI (p := s43) (n := sc) (by omega) (by omega)).mpr h9)
                refine ps_st (S' := (115, [(0, .ref m0), (1, .int (nI p)), (2, .int (nI (by2 f pM))), (3, .int (nI f0)), (4, .int (nI ib)), (5, .int (nI k)), (6, .int (nI (by2 f p))), (7, .int (nI s43)), (8, .int 0)], [.int 0], M1)) rfl rfl rfl ?_
                refine ps_st (S' := (117, [(9, .int 0), (0, .ref m0), (1, .int (nI p)), (2, .int (nI (by2 f pM))), (3, .int (nI f0)), (4, .int (nI ib)), (5, .int (nI k)), (6, .int (nI (by2 f p))), (7, .int (nI s43)), (8, .int 0)], [], M1)) rfl rfl rfl ?_
                refine ps_st (S' := (119, [(9, .int 0), (0, .ref m0), (1, .int (nI p)), (2, .int (nI (by2 f pM))), (3, .int (nI f0)), (4, .int (nI ib)), (5, .int (nI k)), (6, .int (nI (by2 f p))), (7, .int (nI s43)), (8, .int 0)], [.int (nI s43)], M1)) rfl rfl rfl ?_
                refine ps_if (S1 := (147, [(0, .ref m0), (1, .int (nI p))], [], M1)) (S2 := (122, [(9, .int 0), (0, .ref m0), (1, .int (nI p)), (2, .int (nI (by2 f pM))), (3, .int (nI f0)), (4, .int (nI ib)), (5, .int (nI k)), (6, .int (nI (by2 f p))), (7, .int (nI s43)), (8, .int 0)], [], M1)) rfl rfl rfl (fun c_119 => ?_) (fun c_119 => ?_)
                · exact absurd (of_decide_eq_true c_119) (show ¬ ((nI s43) < 0) from fun h9 => absurd ((lt_nI (p := s43) (n := 0) (by omega) (by decide)).mp h9) (by omega))
                refine ps_st (S' := (124, [(9, .int 0), (0, .ref m0), (1, .int (nI p)), (2, .int (nI (by2 f pM))), (3, .int (nI f0)), (4, .int (nI ib)), (5, .int (nI k)), (6, .int (nI (by2 f p))), (7, .int (nI s43)), (8, .int 0)], [.int 0], M1)) rfl rfl rfl ?_
                refine ps_if (S1 := (157, [(0, .ref m0), (1, .int (nI p)), (2, .int (nI (by2 f pM))), (3, .int (nI f0)), (4, .int (nI ib)), (5, .int (nI k)), (6, .int (nI (by2 f p))), (7, .int (nI s43)), (8, .int 0), (9, .int 0)], [], M1)) (S2 := (127, [(9, .int 0), (0, .ref m0), (1, .int (nI p)), (2, .int (nI (by2 f pM))), (3, .int (nI f0)), (4, .int (nI ib)), (5, .int (nI k)), (6, .int (nI (by2 f p))), (7, .int (nI s43)), (8, .int 0)], [], M1)) rfl rfl rfl (fun c_124 => ?_) (fun c_124 => ?_)
                · exact absurd (of_decide_eq_true c_124) (by decide)
                refine ps_st (S' := (129, [(9, .int 0), (0, .ref m0), (1, .int (nI p)), (2, .int (nI (by2 f pM))), (3, .int (nI f0)), (4, .int (nI ib)), (5, .int (nI k)), (6, .int (nI (by2 f p))), (7, .int (nI s43)), (8, .int 0)], [.int 0], M1)) rfl rfl rfl ?_
                refine ps_if (S1 := (137, [(0, .ref m0), (1, .int (nI p)), (2, .int (nI (by2 f pM))), (3, .int (nI f0)), (4, .int (nI ib)), (5, .int (nI k)), (6, .int (nI (by2 f p))), (7, .int (nI s43)), (8, .int 0), (9, .int 0)], [], M1)) (S2 := (132, [(9, .int 0), (0, .ref m0), (1, .int (nI p)), (2, .int (nI (by2 f pM))), (3, .int (nI f0)), (4, .int (nI ib)), (5, .int (nI k)), (6, .int (nI (by2 f p))), (7, .int (nI s43)), (8, .int 0)], [], M1)) rfl rfl rfl (fun c_129 => ?_) (fun c_129 => ?_)
                rotate_left
                · exact absurd (by decide) (of_decide_eq_false c_129)
                refine ps_st (S' := (138, [(0, .ref m0), (1, .int (nI p)), (2, .int (nI (by2 f pM))), (3, .int (nI f0)), (4, .int (nI ib)), (5, .int (nI k)), (6, .int (nI (by2 f p))), (7, .int (nI s43)), (8, .int 0), (9, .int 0)], [.ref m0], M1)) rfl rfl rfl ?_
                refine ps_st (S' := (140, [(0, .ref m0), (1, .int (nI p)), (2, .int (nI (by2 f pM))), (3, .int (nI f0)), (4, .int (nI ib)), (5, .int (nI k)), (6, .int (nI (by2 f p))), (7, .int (nI s43)), (8, .int 0), (9, .int 0)], [.int (nI s43), .ref m0], M1)) rfl rfl rfl ?_
                refine ps_st (S' := (141, [(0, .ref m0), (1, .int (nI p)), (2, .int (nI (by2 f pM))), (3, .int (nI f0)), (4, .int (nI ib)), (5, .int (nI k)), (6, .int (nI (by2 f p))), (7, .int (nI s43)), (8, .int 0), (9, .int 0)], [.int 0, .int (nI s43), .ref m0], M1)) rfl rfl rfl ?_
                refine pl_call (a := [.ref m0, .int (nI s43), .int 0]) (rest := []) rfl rfl rfl (rd_unq0 (tx := tx) (cN := cN) (A := A) (s := s43) (l := (tX f n E (by2 f (p + 2)))) hR1 hY1 (q76_s)) (fun v44 M45 q46 => ?_)
                obtain ⟨rfl, rfl⟩ := q46
                show pl _ _ _ (144, [(0, .ref m0), (1, .int (nI p)), (2, .int (nI (by2 f pM))), (3, .int (nI f0)), (4, .int (nI ib)), (5, .int (nI k)), (6, .int (nI (by2 f p))), (7, .int (nI s43)), (8, .int 0), (9, .int 0)], [.int (nI (unq0 (tX f n E (by2 f (p + 2)))))], M1) _
                refine ps_if (S1 := (157, [(0, .ref m0), (1, .int (nI p)), (2, .int (nI (by2 f pM))), (3, .int (nI f0)), (4, .int (nI ib)), (5, .int (nI k)), (6, .int (nI (by2 f p))), (7, .int (nI s43)), (8, .int 0), (9, .int 0)], [], M1)) (S2 := (147, [(0, .ref m0), (1, .int (nI p))], [], M1)) rfl rfl rfl (fun c_144 => ?_) (fun c_144 => ?_)
                · have c_144 : ¬ (nI (unq0 (tX f n E (by2 f (p + 2))))) = 0 := of_decide_eq_true c_144
                  have n_144 : ¬ (unq0 (tX f n E (by2 f (p + 2))) = 0) := fun h9 => c_144 ((eq_nI (p := unq0 (tX f n E (by2 f (p + 2)))) (n := 0) (Nat.lt_trans (le1_unq0 _) (by decide)) (by decide)).mpr h9)
                  refine ps_st (S' := (159, [(0, .ref m0), (1, .int (nI p)), (2, .int (nI (by2 f pM))), (3, .int (nI f0)), (4, .int (nI ib)), (5, .int (nI k)), (6, .int (nI (by2 f p))), (7, .int (nI s43)), (8, .int 0), (9, .int 0)], [.int 0], M1)) rfl rfl rfl ?_
                  refine ps_if (S1 := (183, [(0, .ref m0), (1, .int (nI p)), (2, .int (nI (by2 f pM))), (3, .int (nI f0)), (4, .int (nI ib)), (5, .int (nI k)), (6, .int (nI (by2 f p))), (7, .int (nI s43)), (8, .int 0), (9, .int 0)], [], M1)) (S2 := (162, [(0, .ref m0), (1, .int (nI p)), (2, .int (nI (by2 f pM))), (3, .int (nI f0)), (4, .int (nI ib)), (5, .int (nI k)), (6, .int (nI (by2 f p))), (7, .int (nI s43)), (8, .int 0), (9, .int 0)], [], M1)) rfl rfl rfl (fun c_159 => ?_) (fun c_159 => ?_)
                  · exact absurd (of_decide_eq_true c_159) (by decide)
                  refine ps_st (S' := (163, [(0, .ref m0), (1, .int (nI p)), (2, .int (nI (by2 f pM))), (3, .int (nI f0)), (4, .int (nI ib)), (5, .int (nI k)), (6, .int (nI (by2 f p))), (7, .int (nI s43)), (8, .int 0), (9, .int 0)], [.ref m0], M1)) rfl rfl rfl ?_
                  refine ps_st (S' := (165, [(0, .ref m0), (1, .int (nI p)), (2, .int (nI (by2 f pM))), (3, .int (nI f0)), (4, .int (nI ib)), (5, .int (nI k)), (6, .int (nI (by2 f p))), (7, .int (nI s43)), (8, .int 0), (9, .int 0)], [.int (nI (by2 f p)), .ref m0], M1)) rfl rfl rfl ?_
                  refine ps_st (S' := (167, [(0, .ref m0), (1, .int (nI p)), (2, .int (nI (by2 f pM))), (3, .int (nI f0)), (4, .int (nI ib)), (5, .int (nI k)), (6, .int (nI (by2 f p))), (7, .int (nI s43)), (8, .int 0), (9, .int 0)], [.int 0, .int (nI (by2 f p)), .ref m0], M1)) rfl rfl rfl ?_
                  refine ps_st (S' := (169, [(0, .ref m0), (1, .int (nI p)), (2, .int (nI (by2 f pM))), (3, .int (nI f0)), (4, .int (nI ib)), (5, .int (nI k)), (6, .int (nI (by2 f p))), (7, .int (nI s43)), (8, .int 0), (9, .int 0)], [.int (nI ib), .int 0, .int (nI (by2 f p)), .ref m0], M1)) rfl rfl rfl ?_
                  refine pl_call (a := [.ref m0, .int (nI (by2 f p)), .int 0, .int (nI ib)]) (rest := []) rfl rfl rfl (rd_fitX (mj := mj) (x := (by2 f p)) (c := cf) (i := 0) (ib := ib) hR1 hl53 (hmj) (hu8) (by decide) (hib)) (fun v47 M48 q49 => ?_)
                  obtain ⟨rfl, rfl⟩ := q49
                  show pl _ _ _ (172, [(0, .ref m0), (1, .int (nI p)), (2, .int (nI (by2 f pM))), (3, .int (nI f0)), (4, .int (nI ib)), (5, .int (nI k)), (6, .int (nI (by2 f p))), (7, .int (nI s43)), (8, .int 0), (9, .int 0)], [.int (nI (fitN mj cf (by2 f p) 0))], M1) _
                  have hft := le1_fit mj cf (by2 f p) 0
                  refine ps_if (S1 := (183, [(0, .ref m0), (1, .int (nI p)), (2, .int (nI (by2 f pM))), (3, .int (nI f0)), (4, .int (nI ib)), (5, .int (nI k)), (6, .int (nI (by2 f p))), (7, .int (nI s43)), (8, .int 0), (9, .int 0)], [], M1)) (S2 := (175, [(0, .ref m0), (1, .int (nI p)), (2, .int (nI (by2 f pM))), (3, .int (nI f0)), (4, .int (nI ib)), (5, .int (nI k)), (6, .int (nI (by2 f p))), (7, .int (nI s43)), (8, .int 0), (9, .int 0)], [], M1)) rfl rfl rfl (fun c_172 => ?_) (fun c_172 => ?_)
                  · have c_172 : ¬ (nI (fitN mj cf (by2 f p) 0)) = 0 := of_decide_eq_true c_172
                    have n_172 : ¬ (fitN mj cf (by2 f p) 0 = 0) := fun h9 => c_172 ((eq_nI (p := fitN mj cf (by2 f p) 0) (n := 0) (Nat.lt_trans (le1_fit _ _ _ _) (by decide)) (by decide)).mpr h9)
                    have hnm : ¬ mnmN f n E cf (by2 f (p + 2)) = 0 := by
                      have m0_ := mnm_0 (f := f) (n := n) (E := E) (c := cf) (x := by2 f (p + 2))
                      have u0_ := uq0 (l := tX f n E (by2 f (p + 2)))
                      omega
                    have hfl : ¬ mflN f n E cf mj (by2 f p) (by2 f (p + 2)) = 0 := by
                      rw [mfl_n (by omega) (by omega)]
                      omega
                    exact ih.2.1 (k) (p) (ib) (s43) (0) (0) M1 I1 R1 hR1 hEI1 hER1 hl51 hl52 hl53 hl58 hl56 hl26 hl9 hl10 hF1 hY1 hP1 hK1 hN91 hQ1 (by omega) (hpk) (hpe) (hs) (hib) (q76_s) (by omega) (hnm) (hfl) (by omega) (by omega)
                  · have c_172 : ¬ (¬ (nI (fitN mj cf (by2 f p) 0)) = 0) := of_decide_eq_false c_172
                    have n_172 : fitN mj cf (by2 f p) 0 = 0 := (eq_nI (p := fitN mj cf (by2 f p) 0) (n := 0) (Nat.lt_trans (le1_fit _ _ _ _) (by decide)) (by decide)).mp (Decidable.not_not.mp c_172)
                    refine ps_st (S' := (176, [(0, .ref m0), (1, .int (nI p)), (2, .int (nI (by2 f pM))), (3, .int (nI f0)), (4, .int (nI ib)), (5, .int (nI k)), (6, .int (nI (by2 f p))), (7, .int (nI s43)), (8, .int 0), (9, .int 0)], [.ref m0], M1)) rfl rfl rfl ?_
                    refine ps_st (S' := (178, [(0, .ref m0), (1, .int (nI p)), (2, .int (nI (by2 f pM))), (3, .int (nI f0)), (4, .int (nI ib)), (5, .int (nI k)), (6, .int (nI (by2 f p))), (7, .int (nI s43)), (8, .int 0), (9, .int 0)], [.int 23, .ref m0], M1)) rfl rfl rfl ?_
                    refine ps_st (S' := (179, [(0, .ref m0), (1, .int (nI p)), (2, .int (nI (by2 f pM))), (3, .int (nI f0)), (4, .int (nI ib)), (5, .int (nI k)), (6, .int (nI (by2 f p))), (7, .int (nI s43)), (8, .int 0), (9, .int 0)], [.int (nI p), .int 23, .ref m0], M1)) rfl rfl rfl ?_
                    refine pl_call (a := [.ref m0, .int 23, .int (nI p)]) (rest := []) rfl rfl rfl (rd_wrong (x1 := 23) (x2 := (nI p)) hR1) (fun v50 M51 q52 => ?_)
                    obtain ⟨I53, R54, rfl, hR55, hI56, hX57, hi59, hi60⟩ := q52
                    have hi61 := (hI56 51 (by decide)).trans hl51
                    have hi62 := (hI56 52 (by decide)).trans hl52
                    have hi63 := (hI56 53 (by decide)).trans hl53
                    have hi64 := (hI56 58 (by decide)).trans hl58
                    have hi65 := (hI56 56 (by decide)).trans hl56
                    have hi66 := (hI56 26 (by decide)).trans hl26
                    have hi67 := (hI56 9 (by decide)).trans hl9
                    have hi68 := (hI56 10 (by decide)).trans hl10
                    have hF_69 := hF1.mono (cIx hI56 (by decide)) (cRx hX57 (by decide))
                    have hY_70 := hY1.mono (cIx hI56 (by decide)) (cRx hX57 (by decide))
                    have hP_71 := hP1.mono (cIx hI56 (by decide)) (cRx hX57 (by decide))
                    have hK_72 := hK1.mono (cIx hI56 (by decide)) (cRx hX57 (by decide))
                    have hN9_73 := hN91.mono (cIx hI56 (by decide)) (cRx hX57 (by decide))
                    have hQ_74 := hQ1.mono (cIx hI56 (by decide)) (cRx hX57 (by decide))
                    have hEI75 := hEI1.tr hI56 (by decide)
                    have hER76 := hER1.tr hX57 (by decide)
                    show pl _ _ _ (182, [(0, .ref m0), (1, .int (nI p)), (2, .int (nI (by2 f pM))), (3, .int (nI f0)), (4, .int (nI ib)), (5, .int (nI k)), (6, .int (nI (by2 f p))), (7, .int (nI s43)), (8, .int 0), (9, .int 0)], [.int 0], M51) _
                    exact ps_ret rfl rfl (Or.inr ⟨(23, p), I53, R54, by
                        have m0_ := mnm_0 (f := f) (n := n) (E := E) (c := cf) (x := by2 f (p + 2))
                        have u0_ := uq0 (l := tX f n E (by2 f (p + 2)))
                        rw [← hs, mtS_st (i := k) (by omega), ← hpk, mh_23 (by omega) (by rw [mfl_n (by omega) (by omega)]; omega)], rfl, hR55, hEI75, hER76, hi59, hi60⟩)
                · have c_144 : ¬ (¬ (nI (unq0 (tX f n E (by2 f (p + 2))))) = 0) := of_decide_eq_false c_144
                  have n_144 : unq0 (tX f n E (by2 f (p + 2))) = 0 := (eq_nI (p := unq0 (tX f n E (by2 f (p + 2)))) (n := 0) (Nat.lt_trans (le1_unq0 _) (by decide)) (by decide)).mp (Decidable.not_not.mp c_144)
                  refine ps_st (S' := (148, [(0, .ref m0), (1, .int (nI p))], [.ref m0], M1)) rfl rfl rfl ?_
                  refine ps_st (S' := (150, [(0, .ref m0), (1, .int (nI p))], [.int 24, .ref m0], M1)) rfl rfl rfl ?_
                  refine ps_st (S' := (151, [(0, .ref m0), (1, .int (nI p))], [.int (nI p), .int 24, .ref m0], M1)) rfl rfl rfl ?_
                  refine ps_st (S' := (152, [(0, .ref m0), (1, .int (nI p))], [.int 2, .int (nI p), .int 24, .ref m0], M1)) rfl rfl rfl ?_
                  refine ps_st (S' := (153, [(0, .ref m0), (1, .int (nI p))], [.int ((nI p) + 2), .int 24, .ref m0], M1)) rfl rfl rfl ?_
                  rw [nI_add1 (p := p) (k := 2) (x := 2) rfl (by omega)]
                  show pl _ _ _ (_, [(0, .ref m0), (1, .int (nI p))], [.int (nI (p + 2)), .int 24, .ref m0], M1) _
                  refine pl_call (a := [.ref m0, .int 24, .int (nI (p + 2))]) (rest := []) rfl rfl rfl (rd_wrong (x1 := 24) (x2 := (nI (p + 2))) hR1) (fun v77 M78 q79 => ?_)
                  obtain ⟨I80, R81, rfl, hR82, hI83, hX84, hi85, hi86⟩ := q79
                  have hi87 := (hI83 51 (by decide)).trans hl51
                  have hi88 := (hI83 52 (by decide)).trans hl52
                  have hi89 := (hI83 53 (by decide)).trans hl53
                  have hi90 := (hI83 58 (by decide)).trans hl58
                  have hi91 := (hI83 56 (by decide)).trans hl56
                  have hi92 := (hI83 26 (by decide)).trans hl26
                  have hi93 := (hI83 9 (by decide)).trans hl9
                  have hi94 := (hI83 10 (by decide)).trans hl10
                  have hF_95 := hF1.mono (cIx hI83 (by decide)) (cRx hX84 (by decide))
                  have hY_96 := hY1.mono (cIx hI83 (by decide)) (cRx hX84 (by decide))
                  have hP_97 := hP1.mono (cIx hI83 (by decide)) (cRx hX84 (by decide))
                  have hK_98 := hK1.mono (cIx hI83 (by decide)) (cRx hX84 (by decide))
                  have hN9_99 := hN91.mono (cIx hI83 (by decide)) (cRx hX84 (by decide))
                  have hQ_100 := hQ1.mono (cIx hI83 (by decide)) (cRx hX84 (by decide))
                  have hEI101 := hEI1.tr hI83 (by decide)
                  have hER102 := hER1.tr hX84 (by decide)
                  show pl _ _ _ (156, [(0, .ref m0), (1, .int (nI p))], [.int 0], M78) _
                  exact ps_ret rfl rfl (Or.inr ⟨(24, p + 2), I80, R81, by
                      rw [← hs, mtS_st (i := k) (by omega), ← hpk, mh_24 (by have m0_ := mnm_0 (f := f) (n := n) (E := E) (c := cf) (x := by2 f (p + 2)); have u0_ := uq0 (l := tX f n E (by2 f (p + 2))); omega)], rfl, hR82, hEI101, hER102, hi85, hi86⟩)
              · have c_107 : ¬ (¬ (nI s43) = (nI sc)) := of_decide_eq_false c_107
                have n_107 : s43 = sc := (eq_nI (p := s43) (n := sc) (by omega) (by omega)).mp (Decidable.not_not.mp c_107)
                refine ps_st (S' := (111, [(8, .int 0), (0, .ref m0), (1, .int (nI p)), (2, .int (nI (by2 f pM))), (3, .int (nI f0)), (4, .int (nI ib)), (5, .int (nI k)), (6, .int (nI (by2 f p))), (7, .int (nI s43))], [.int 1], M1)) rfl rfl rfl ?_
                refine ps_st (S' := (115, [(0, .ref m0), (1, .int (nI p)), (2, .int (nI (by2 f pM))), (3, .int (nI f0)), (4, .int (nI ib)), (5, .int (nI k)), (6, .int (nI (by2 f p))), (7, .int (nI s43)), (8, .int 0)], [.int 1], M1)) rfl rfl rfl ?_
                refine ps_st (S' := (117, [(9, .int 1), (0, .ref m0), (1, .int (nI p)), (2, .int (nI (by2 f pM))), (3, .int (nI f0)), (4, .int (nI ib)), (5, .int (nI k)), (6, .int (nI (by2 f p))), (7, .int (nI s43)), (8, .int 0)], [], M1)) rfl rfl rfl ?_
                refine ps_st (S' := (119, [(9, .int 1), (0, .ref m0), (1, .int (nI p)), (2, .int (nI (by2 f pM))), (3, .int (nI f0)), (4, .int (nI ib)), (5, .int (nI k)), (6, .int (nI (by2 f p))), (7, .int (nI s43)), (8, .int 0)], [.int (nI s43)], M1)) rfl rfl rfl ?_
                refine ps_if (S1 := (147, [(0, .ref m0), (1, .int (nI p))], [], M1)) (S2 := (122, [(9, .int 1), (0, .ref m0), (1, .int (nI p)), (2, .int (nI (by2 f pM))), (3, .int (nI f0)), (4, .int (nI ib)), (5, .int (nI k)), (6, .int (nI (by2 f p))), (7, .int (nI s43)), (8, .int 0)], [], M1)) rfl rfl rfl (fun c_119 => ?_) (fun c_119 => ?_)
                · exact absurd (of_decide_eq_true c_119) (show ¬ ((nI s43) < 0) from fun h9 => absurd ((lt_nI (p := s43) (n := 0) (by omega) (by decide)).mp h9) (by omega))
                refine ps_st (S' := (124, [(9, .int 1), (0, .ref m0), (1, .int (nI p)), (2, .int (nI (by2 f pM))), (3, .int (nI f0)), (4, .int (nI ib)), (5, .int (nI k)), (6, .int (nI (by2 f p))), (7, .int (nI s43)), (8, .int 0)], [.int 1], M1)) rfl rfl rfl ?_
                refine ps_if (S1 := (157, [(0, .ref m0), (1, .int (nI p)), (2, .int (nI (by2 f pM))), (3, .int (nI f0)), (4, .int (nI ib)), (5, .int (nI k)), (6, .int (nI (by2 f p))), (7, .int (nI s43)), (8, .int 0), (9, .int 1)], [], M1)) (S2 := (127, [(9, .int 1), (0, .ref m0), (1, .int (nI p)), (2, .int (nI (by2 f pM))), (3, .int (nI f0)), (4, .int (nI ib)), (5, .int (nI k)), (6, .int (nI (by2 f p))), (7, .int (nI s43)), (8, .int 0)], [], M1)) rfl rfl rfl (fun c_124 => ?_) (fun c_124 => ?_)
                rotate_left
                · exact absurd (by decide) (of_decide_eq_false c_124)
                refine ps_st (S' := (159, [(0, .ref m0), (1, .int (nI p)), (2, .int (nI (by2 f pM))), (3, .int (nI f0)), (4, .int (nI ib)), (5, .int (nI k)), (6, .int (nI (by2 f p))), (7, .int (nI s43)), (8, .int 0), (9, .int 1)], [.int 1], M1)) rfl rfl rfl ?_
                refine ps_if (S1 := (183, [(0, .ref m0), (1, .int (nI p)), (2, .int (nI (by2 f pM))), (3, .int (nI f0)), (4, .int (nI ib)), (5, .int (nI k)), (6, .int (nI (by2 f p))), (7, .int (nI s43)), (8, .int 0), (9, .int 1)], [], M1)) (S2 := (162, [(0, .ref m0), (1, .int (nI p)), (2, .int (nI (by2 f pM))), (3, .int (nI f0)), (4, .int (nI ib)), (5, .int (nI k)), (6, .int (nI (by2 f p))), (7, .int (nI s43)), (8, .int 0), (9, .int 1)], [], M1)) rfl rfl rfl (fun c_159 => ?_) (fun c_159 => ?_)
                rotate_left
                · exact absurd (by decide) (of_decide_eq_false c_159)
                have hnm : ¬ mnmN f n E cf (by2 f (p + 2)) = 0 := by
                  have m0_ := mnm_0 (f := f) (n := n) (E := E) (c := cf) (x := by2 f (p + 2))
                  have u0_ := uq0 (l := tX f n E (by2 f (p + 2)))
                  omega
                have hfl : ¬ mflN f n E cf mj (by2 f p) (by2 f (p + 2)) = 0 := by
                  rw [mfl_c (by omega)]
                  omega
                exact ih.2.1 (k) (p) (ib) (s43) (1) (0) M1 I1 R1 hR1 hEI1 hER1 hl51 hl52 hl53 hl58 hl56 hl26 hl9 hl10 hF1 hY1 hP1 hK1 hN91 hQ1 (by omega) (hpk) (hpe) (hs) (hib) (q76_s) (by omega) (hnm) (hfl) (by omega) (by omega)
            · have c_91 : ¬ (¬ (nI s43) = (nI si)) := of_decide_eq_false c_91
              have n_91 : s43 = si := (eq_nI (p := s43) (n := si) (by omega) (by omega)).mp (Decidable.not_not.mp c_91)
              refine ps_st (S' := (95, [(7, .int (nI s43)), (0, .ref m0), (1, .int (nI p)), (2, .int (nI (by2 f pM))), (3, .int (nI f0)), (4, .int (nI ib)), (5, .int (nI k)), (6, .int (nI (by2 f p)))], [.int 1], M1)) rfl rfl rfl ?_
              refine ps_st (S' := (99, [(0, .ref m0), (1, .int (nI p)), (2, .int (nI (by2 f pM))), (3, .int (nI f0)), (4, .int (nI ib)), (5, .int (nI k)), (6, .int (nI (by2 f p))), (7, .int (nI s43))], [.int 1], M1)) rfl rfl rfl ?_
              refine ps_st (S' := (101, [(8, .int 1), (0, .ref m0), (1, .int (nI p)), (2, .int (nI (by2 f pM))), (3, .int (nI f0)), (4, .int (nI ib)), (5, .int (nI k)), (6, .int (nI (by2 f p))), (7, .int (nI s43))], [], M1)) rfl rfl rfl ?_
              refine ps_st (S' := (103, [(8, .int 1), (0, .ref m0), (1, .int (nI p)), (2, .int (nI (by2 f pM))), (3, .int (nI f0)), (4, .int (nI ib)), (5, .int (nI k)), (6, .int (nI (by2 f p))), (7, .int (nI s43))], [.int (nI s43)], M1)) rfl rfl rfl ?_
              refine ps_st (S' := (104, [(8, .int 1), (0, .ref m0), (1, .int (nI p)), (2, .int (nI (by2 f pM))), (3, .int (nI f0)), (4, .int (nI ib)), (5, .int (nI k)), (6, .int (nI (by2 f p))), (7, .int (nI s43))], [.ref m0, .int (nI s43)], M1)) rfl rfl rfl ?_
              refine pr_int (j := 10) (S' := (107, [(8, .int 1), (0, .ref m0), (1, .int (nI p)), (2, .int (nI (by2 f pM))), (3, .int (nI f0)), (4, .int (nI ib)), (5, .int (nI k)), (6, .int (nI (by2 f p))), (7, .int (nI s43))], [.int (nI sc), .int (nI s43)], M1)) rfl hR1 rfl hl10 rfl ?_
              refine ps_if2 (S1 := (114, [(8, .int 1), (0, .ref m0), (1, .int (nI p)), (2, .int (nI (by2 f pM))), (3, .int (nI f0)), (4, .int (nI ib)), (5, .int (nI k)), (6, .int (nI (by2 f p))), (7, .int (nI s43))], [], M1)) (S2 := (110, [(8, .int 1), (0, .ref m0), (1, .int (nI p)), (2, .int (nI (by2 f pM))), (3, .int (nI f0)), (4, .int (nI ib)), (5, .int (nI k)), (6, .int (nI (by2 f p))), (7, .int (nI s43))], [], M1)) rfl rfl rfl (fun c_107 => ?_) (fun c_107 => ?_)
              · have c_107 : ¬ (nI s43) = (nI sc) := of_decide_eq_true c_107
                have n_107 : ¬ (s43 = sc) := fun h9 => c_107 ((eq_nI (p := s43) (n := sc) (by omega) (by omega)).mpr h9)
                refine ps_st (S' := (115, [(0, .ref m0), (1, .int (nI p)), (2, .int (nI (by2 f pM))), (3, .int (nI f0)), (4, .int (nI ib)), (5, .int (nI k)), (6, .int (nI (by2 f p))), (7, .int (nI s43)), (8, .int 1)], [.int 0], M1)) rfl rfl rfl ?_
                refine ps_st (S' := (117, [(9, .int 0), (0, .ref m0), (1, .int (nI p)), (2, .int (nI (by2 f pM))), (3, .int (nI f0)), (4, .int (nI ib)), (5, .int (nI k)), (6, .int (nI (by2 f p))), (7, .int (nI s43)), (8, .int 1)], [], M1)) rfl rfl rfl ?_
                refine ps_st (S' := (119, [(9, .int 0), (0, .ref m0), (1, .int (nI p)), (2, .int (nI (by2 f pM))), (3, .int (nI f0)), (4, .int (nI ib)), (5, .int (nI k)), (6, .int (nI (by2 f p))), (7, .int (nI s43)), (8, .int 1)], [.int (nI s43)], M1)) rfl rfl rfl ?_
                refine ps_if (S1 := (147, [(0, .ref m0), (1, .int (nI p))], [], M1)) (S2 := (122, [(9, .int 0), (0, .ref m0), (1, .int (nI p)), (2, .int (nI (by2 f pM))), (3, .int (nI f0)), (4, .int (nI ib)), (5, .int (nI k)), (6, .int (nI (by2 f p))), (7, .int (nI s43)), (8, .int 1)], [], M1)) rfl rfl rfl (fun c_119 => ?_) (fun c_119 => ?_)
                · exact absurd (of_decide_eq_true c_119) (show ¬ ((nI s43) < 0) from fun h9 => absurd ((lt_nI (p := s43) (n := 0) (by omega) (by decide)).mp h9) (by omega))
                refine ps_st (S' := (124, [(9, .int 0), (0, .ref m0), (1, .int (nI p)), (2, .int (nI (by2 f pM))), (3, .int (nI f0)), (4, .int (nI ib)), (5, .int (nI k)), (6, .int (nI (by2 f p))), (7, .int (nI s43)), (8, .int 1)], [.int 0], M1)) rfl rfl rfl ?_
                refine ps_if (S1 := (157, [(0, .ref m0), (1, .int (nI p)), (2, .int (nI (by2 f pM))), (3, .int (nI f0)), (4, .int (nI ib)), (5, .int (nI k)), (6, .int (nI (by2 f p))), (7, .int (nI s43)), (8, .int 1), (9, .int 0)], [], M1)) (S2 := (127, [(9, .int 0), (0, .ref m0), (1, .int (nI p)), (2, .int (nI (by2 f pM))), (3, .int (nI f0)), (4, .int (nI ib)), (5, .int (nI k)), (6, .int (nI (by2 f p))), (7, .int (nI s43)), (8, .int 1)], [], M1)) rfl rfl rfl (fun c_124 => ?_) (fun c_124 => ?_)
                · exact absurd (of_decide_eq_true c_124) (by decide)
                refine ps_st (S' := (129, [(9, .int 0), (0, .ref m0), (1, .int (nI p)), (2, .int (nI (by2 f pM))), (3, .int (nI f0)), (4, .int (nI ib)), (5, .int (nI k)), (6, .int (nI (by2 f p))), (7, .int (nI s43)), (8, .int 1)], [.int 1], M1)) rfl rfl rfl ?_
                refine ps_if (S1 := (137, [(0, .ref m0), (1, .int (nI p)), (2, .int (nI (by2 f pM))), (3, .int (nI f0)), (4, .int (nI ib)), (5, .int (nI k)), (6, .int (nI (by2 f p))), (7, .int (nI s43)), (8, .int 1), (9, .int 0)], [], M1)) (S2 := (132, [(9, .int 0), (0, .ref m0), (1, .int (nI p)), (2, .int (nI (by2 f pM))), (3, .int (nI f0)), (4, .int (nI ib)), (5, .int (nI k)), (6, .int (nI (by2 f p))), (7, .int (nI s43)), (8, .int 1)], [], M1)) rfl rfl rfl (fun c_129 => ?_) (fun c_129 => ?_)
                · exact absurd (of_decide_eq_true c_129) (by decide)
                refine ps_st (S' := (134, [(9, .int 0), (0, .ref m0), (1, .int (nI p)), (2, .int (nI (by2 f pM))), (3, .int (nI f0)), (4, .int (nI ib)), (5, .int (nI k)), (6, .int (nI (by2 f p))), (7, .int (nI s43)), (8, .int 1)], [.int (nI ib)], M1)) rfl rfl rfl ?_
                refine ps_if (S1 := (157, [(0, .ref m0), (1, .int (nI p)), (2, .int (nI (by2 f pM))), (3, .int (nI f0)), (4, .int (nI ib)), (5, .int (nI k)), (6, .int (nI (by2 f p))), (7, .int (nI s43)), (8, .int 1), (9, .int 0)], [], M1)) (S2 := (137, [(0, .ref m0), (1, .int (nI p)), (2, .int (nI (by2 f pM))), (3, .int (nI f0)), (4, .int (nI ib)), (5, .int (nI k)), (6, .int (nI (by2 f p))), (7, .int (nI s43)), (8, .int 1), (9, .int 0)], [], M1)) rfl rfl rfl (fun c_134 => ?_) (fun c_134 => ?_)
                · have c_134 : (nI ib) = 0 := of_decide_eq_true c_134
                  have n_134 : ib = 0 := (eq_nI (p := ib) (n := 0) (by omega) (by decide)).mp c_134
                  refine ps_st (S' := (159, [(0, .ref m0), (1, .int (nI p)), (2, .int (nI (by2 f pM))), (3, .int (nI f0)), (4, .int (nI ib)), (5, .int (nI k)), (6, .int (nI (by2 f p))), (7, .int (nI s43)), (8, .int 1), (9, .int 0)], [.int 0], M1)) rfl rfl rfl ?_
                  refine ps_if (S1 := (183, [(0, .ref m0), (1, .int (nI p)), (2, .int (nI (by2 f pM))), (3, .int (nI f0)), (4, .int (nI ib)), (5, .int (nI k)), (6, .int (nI (by2 f p))), (7, .int (nI s43)), (8, .int 1), (9, .int 0)], [], M1)) (S2 := (162, [(0, .ref m0), (1, .int (nI p)), (2, .int (nI (by2 f pM))), (3, .int (nI f0)), (4, .int (nI ib)), (5, .int (nI k)), (6, .int (nI (by2 f p))), (7, .int (nI s43)), (8, .int 1), (9, .int 0)], [], M1)) rfl rfl rfl (fun c_159 => ?_) (fun c_159 => ?_)
                  · exact absurd (of_decide_eq_true c_159) (by decide)
                  refine ps_st (S' := (163, [(0, .ref m0), (1, .int (nI p)), (2, .int (nI (by2 f pM))), (3, .int (nI f0)), (4, .int (nI ib)), (5, .int (nI k)), (6, .int (nI (by2 f p))), (7, .int (nI s43)), (8, .int 1), (9, .int 0)], [.ref m0], M1)) rfl rfl rfl ?_
                  refine ps_st (S' := (165, [(0, .ref m0), (1, .int (nI p)), (2, .int (nI (by2 f pM))), (3, .int (nI f0)), (4, .int (nI ib)), (5, .int (nI k)), (6, .int (nI (by2 f p))), (7, .int (nI s43)), (8, .int 1), (9, .int 0)], [.int (nI (by2 f p)), .ref m0], M1)) rfl rfl rfl ?_
                  refine ps_st (S' := (167, [(0, .ref m0), (1, .int (nI p)), (2, .int (nI (by2 f pM))), (3, .int (nI f0)), (4, .int (nI ib)), (5, .int (nI k)), (6, .int (nI (by2 f p))), (7, .int (nI s43)), (8, .int 1), (9, .int 0)], [.int 1, .int (nI (by2 f p)), .ref m0], M1)) rfl rfl rfl ?_
                  refine ps_st (S' := (169, [(0, .ref m0), (1, .int (nI p)), (2, .int (nI (by2 f pM))), (3, .int (nI f0)), (4, .int (nI ib)), (5, .int (nI k)), (6, .int (nI (by2 f p))), (7, .int (nI s43)), (8, .int 1), (9, .int 0)], [.int (nI ib), .int 1, .int (nI (by2 f p)), .ref m0], M1)) rfl rfl rfl ?_
                  refine pl_call (a := [.ref m0, .int (nI (by2 f p)), .int 1, .int (nI ib)]) (rest := []) rfl rfl rfl (rd_fitX (mj := mj) (x := (by2 f p)) (c := cf) (i := 1) (ib := ib) hR1 hl53 (hmj) (hu8) (by decide) (hib)) (fun v103 M104 q105 => ?_)
                  obtain ⟨rfl, rfl⟩ := q105
                  show pl _ _ _ (172, [(0, .ref m0), (1, .int (nI p)), (2, .int (nI (by2 f pM))), (3, .int (nI f0)), (4, .int (nI ib)), (5, .int (nI k)), (6, .int (nI (by2 f p))), (7, .int (nI s43)), (8, .int 1), (9, .int 0)], [.int (nI (fitN mj cf (by2 f p) 1))], M1) _
                  have hft := le1_fit mj cf (by2 f p) 1
                  refine ps_if (S1 := (183, [(0, .ref m0), (1, .int (nI p)), (2, .int (nI (by2 f pM))), (3, .int (nI f0)), (4, .int (nI ib)), (5, .int (nI k)), (6, .int (nI (by2 f p))), (7, .int (nI s43)), (8, .int 1), (9, .int 0)], [], M1)) (S2 := (175, [(0, .ref m0), (1, .int (nI p)), (2, .int (nI (by2 f pM))), (3, .int (nI f0)), (4, .int (nI ib)), (5, .int (nI k)), (6, .int (nI (by2 f p))), (7, .int (nI s43)), (8, .int 1), (9, .int 0)], [], M1)) rfl rfl rfl (fun c_172 => ?_) (fun c_172 => ?_)
                  · have c_172 : ¬ (nI (fitN mj cf (by2 f p) 1)) = 0 := of_decide_eq_true c_172
                    have n_172 : ¬ (fitN mj cf (by2 f p) 1 = 0) := fun h9 => c_172 ((eq_nI (p := fitN mj cf (by2 f p) 1) (n := 0) (Nat.lt_trans (le1_fit _ _ _ _) (by decide)) (by decide)).mpr h9)
                    have hnm : ¬ mnmN f n E cf (by2 f (p + 2)) = 0 := by
                      have m0_ := mnm_0 (f := f) (n := n) (E := E) (c := cf) (x := by2 f (p + 2))
                      have u0_ := uq0 (l := tX f n E (by2 f (p + 2)))
                      omega
                    have hfl : ¬ mflN f n E cf mj (by2 f p) (by2 f (p + 2)) = 0 := by
                      rw [mfl_i (by omega) (by omega)]
                      omega
                    exact ih.2.1 (k) (p) (ib) (s43) (0) (1) M1 I1 R1 hR1 hEI1 hER1 hl51 hl52 hl53 hl58 hl56 hl26 hl9 hl10 hF1 hY1 hP1 hK1 hN91 hQ1 (by omega) (hpk) (hpe) (hs) (hib) (q76_s) (by omega) (hnm) (hfl) (by omega) (by omega)
                  · have c_172 : ¬ (¬ (nI (fitN mj cf (by2 f p) 1)) = 0) := of_decide_eq_false c_172
                    have n_172 : fitN mj cf (by2 f p) 1 = 0 := (eq_nI (p := fitN mj cf (by2 f p) 1) (n := 0) (Nat.lt_trans (le1_fit _ _ _ _) (by decide)) (by decide)).mp (Decidable.not_not.mp c_172)
                    refine ps_st (S' := (176, [(0, .ref m0), (1, .int (nI p)), (2, .int (nI (by2 f pM))), (3, .int (nI f0)), (4, .int (nI ib)), (5, .int (nI k)), (6, .int (nI (by2 f p))), (7, .int (nI s43)), (8, .int 1), (9, .int 0)], [.ref m0], M1)) rfl rfl rfl ?_
                    refine ps_st (S' := (178, [(0, .ref m0), (1, .int (nI p)), (2, .int (nI (by2 f pM))), (3, .int (nI f0)), (4, .int (nI ib)), (5, .int (nI k)), (6, .int (nI (by2 f p))), (7, .int (nI s43)), (8, .int 1), (9, .int 0)], [.int 23, .ref m0], M1)) rfl rfl rfl ?_
                    refine ps_st (S' := (179, [(0, .ref m0), (1, .int (nI p)), (2, .int (nI (by2 f pM))), (3, .int (nI f0)), (4, .int (nI ib)), (5, .int (nI k)), (6, .int (nI (by2 f p))), (7, .int (nI s43)), (8, .int 1), (9, .int 0)], [.int (nI p), .int 23, .ref m0], M1)) rfl rfl rfl ?_
                    refine pl_call (a := [.ref m0, .int 23, .int (nI p)]) (rest := []) rfl rfl rfl (rd_wrong (x1 := 23) (x2 := (nI p)) hR1) (fun v106 M107 q108 => ?_)
                    obtain ⟨I109, R110, rfl, hR111, hI112, hX113, hi114, hi115⟩ := q108
                    have hi116 := (hI112 51 (by decide)).trans hl51
                    have hi117 := (hI112 52 (by decide)).trans hl52
                    have hi118 := (hI112 53 (by decide)).trans hl53
                    have hi119 := (hI112 58 (by decide)).trans hl58
                    have hi120 := (hI112 56 (by decide)).trans hl56
                    have hi121 := (hI112 26 (by decide)).trans hl26
                    have hi122 := (hI112 9 (by decide)).trans hl9
                    have hi123 := (hI112 10 (by decide)).trans hl10
                    have hF_124 := hF1.mono (cIx hI112 (by decide)) (cRx hX113 (by decide))
                    have hY_125 := hY1.mono (cIx hI112 (by decide)) (cRx hX113 (by decide))
                    have hP_126 := hP1.mono (cIx hI112 (by decide)) (cRx hX113 (by decide))
                    have hK_127 := hK1.mono (cIx hI112 (by decide)) (cRx hX113 (by decide))
                    have hN9_128 := hN91.mono (cIx hI112 (by decide)) (cRx hX113 (by decide))
                    have hQ_129 := hQ1.mono (cIx hI112 (by decide)) (cRx hX113 (by decide))
                    have hEI130 := hEI1.tr hI112 (by decide)
                    have hER131 := hER1.tr hX113 (by decide)
                    show pl _ _ _ (182, [(0, .ref m0), (1, .int (nI p)), (2, .int (nI (by2 f pM))), (3, .int (nI f0)), (4, .int (nI ib)), (5, .int (nI k)), (6, .int (nI (by2 f p))), (7, .int (nI s43)), (8, .int 1), (9, .int 0)], [.int 0], M107) _
                    exact ps_ret rfl rfl (Or.inr ⟨(23, p), I109, R110, by
                        have m0_ := mnm_0 (f := f) (n := n) (E := E) (c := cf) (x := by2 f (p + 2))
                        have u0_ := uq0 (l := tX f n E (by2 f (p + 2)))
                        rw [← hs, mtS_st (i := k) (by omega), ← hpk, mh_23 (by omega) (by rw [mfl_i (by omega) (by omega)]; omega)], rfl, hR111, hEI130, hER131, hi114, hi115⟩)
                · have c_134 : ¬ ((nI ib) = 0) := of_decide_eq_false c_134
                  have n_134 : ¬ (ib = 0) := fun h9 => c_134 ((eq_nI (p := ib) (n := 0) (by omega) (by decide)).mpr h9)
                  refine ps_st (S' := (138, [(0, .ref m0), (1, .int (nI p)), (2, .int (nI (by2 f pM))), (3, .int (nI f0)), (4, .int (nI ib)), (5, .int (nI k)), (6, .int (nI (by2 f p))), (7, .int (nI s43)), (8, .int 1), (9, .int 0)], [.ref m0], M1)) rfl rfl rfl ?_
                  refine ps_st (S' := (140, [(0, .ref m0), (1, .int (nI p)), (2, .int (nI (by2 f pM))), (3, .int (nI f0)), (4, .int (nI ib)), (5, .int (nI k)), (6, .int (nI (by2 f p))), (7, .int (nI s43)), (8, .int 1), (9, .int 0)], [.int (nI s43), .ref m0], M1)) rfl rfl rfl ?_
                  refine ps_st (S' := (141, [(0, .ref m0), (1, .int (nI p)), (2, .int (nI (by2 f pM))), (3, .int (nI f0)), (4, .int (nI ib)), (5, .int (nI k)), (6, .int (nI (by2 f p))), (7, .int (nI s43)), (8, .int 1), (9, .int 0)], [.int 0, .int (nI s43), .ref m0], M1)) rfl rfl rfl ?_
                  refine pl_call (a := [.ref m0, .int (nI s43), .int 0]) (rest := []) rfl rfl rfl (rd_unq0 (tx := tx) (cN := cN) (A := A) (s := s43) (l := (tX f n E (by2 f (p + 2)))) hR1 hY1 (q76_s)) (fun v132 M133 q134 => ?_)
                  obtain ⟨rfl, rfl⟩ := q134
                  show pl _ _ _ (144, [(0, .ref m0), (1, .int (nI p)), (2, .int (nI (by2 f pM))), (3, .int (nI f0)), (4, .int (nI ib)), (5, .int (nI k)), (6, .int (nI (by2 f p))), (7, .int (nI s43)), (8, .int 1), (9, .int 0)], [.int (nI (unq0 (tX f n E (by2 f (p + 2)))))], M1) _
                  refine ps_if (S1 := (157, [(0, .ref m0), (1, .int (nI p)), (2, .int (nI (by2 f pM))), (3, .int (nI f0)), (4, .int (nI ib)), (5, .int (nI k)), (6, .int (nI (by2 f p))), (7, .int (nI s43)), (8, .int 1), (9, .int 0)], [], M1)) (S2 := (147, [(0, .ref m0), (1, .int (nI p))], [], M1)) rfl rfl rfl (fun c_144 => ?_) (fun c_144 => ?_)
                  · have c_144 : ¬ (nI (unq0 (tX f n E (by2 f (p + 2))))) = 0 := of_decide_eq_true c_144
                    have n_144 : ¬ (unq0 (tX f n E (by2 f (p + 2))) = 0) := fun h9 => c_144 ((eq_nI (p := unq0 (tX f n E (by2 f (p + 2)))) (n := 0) (Nat.lt_trans (le1_unq0 _) (by decide)) (by decide)).mpr h9)
                    refine ps_st (S' := (159, [(0, .ref m0), (1, .int (nI p)), (2, .int (nI (by2 f pM))), (3, .int (nI f0)), (4, .int (nI ib)), (5, .int (nI k)), (6, .int (nI (by2 f p))), (7, .int (nI s43)), (8, .int 1), (9, .int 0)], [.int 0], M1)) rfl rfl rfl ?_
                    refine ps_if (S1 := (183, [(0, .ref m0), (1, .int (nI p)), (2, .int (nI (by2 f pM))), (3, .int (nI f0)), (4, .int (nI ib)), (5, .int (nI k)), (6, .int (nI (by2 f p))), (7, .int (nI s43)), (8, .int 1), (9, .int 0)], [], M1)) (S2 := (162, [(0, .ref m0), (1, .int (nI p)), (2, .int (nI (by2 f pM))), (3, .int (nI f0)), (4, .int (nI ib)), (5, .int (nI k)), (6, .int (nI (by2 f p))), (7, .int (nI s43)), (8, .int 1), (9, .int 0)], [], M1)) rfl rfl rfl (fun c_159 => ?_) (fun c_159 => ?_)
                    · exact absurd (of_decide_eq_true c_159) (by decide)
                    refine ps_st (S' := (163, [(0, .ref m0), (1, .int (nI p)), (2, .int (nI (by2 f pM))), (3, .int (nI f0)), (4, .int (nI ib)), (5, .int (nI k)), (6, .int (nI (by2 f p))), (7, .int (nI s43)), (8, .int 1), (9, .int 0)], [.ref m0], M1)) rfl rfl rfl ?_
                    refine ps_st (S' := (165, [(0, .ref m0), (1, .int (nI p)), (2, .int (nI (by2 f pM))), (3, .int (nI f0)), (4, .int (nI ib)), (5, .int (nI k)), (6, .int (nI (by2 f p))), (7, .int (nI s43)), (8, .int 1), (9, .int 0)], [.int (nI (by2 f p)), .ref m0], M1)) rfl rfl rfl ?_
                    refine ps_st (S' := (167, [(0, .ref m0), (1, .int (nI p)), (2, .int (nI (by2 f pM))), (3, .int (nI f0)), (4, .int (nI ib)), (5, .int (nI k)), (6, .int (nI (by2 f p))), (7, .int (nI s43)), (8, .int 1), (9, .int 0)], [.int 1, .int (nI (by2 f p)), .ref m0], M1)) rfl rfl rfl ?_
                    refine ps_st (S' := (169, [(0, .ref m0), (1, .int (nI p)), (2, .int (nI (by2 f pM))), (3, .int (nI f0)), (4, .int (nI ib)), (5, .int (nI k)), (6, .int (nI (by2 f p))), (7, .int (nI s43)), (8, .int 1), (9, .int 0)], [.int (nI ib), .int 1, .int (nI (by2 f p)), .ref m0], M1)) rfl rfl rfl ?_
                    refine pl_call (a := [.ref m0, .int (nI (by2 f p)), .int 1, .int (nI ib)]) (rest := []) rfl rfl rfl (rd_fitX (mj := mj) (x := (by2 f p)) (c := cf) (i := 1) (ib := ib) hR1 hl53 (hmj) (hu8) (by decide) (hib)) (fun v135 M136 q137 => ?_)
                    obtain ⟨rfl, rfl⟩ := q137
                    show pl _ _ _ (172, [(0, .ref m0), (1, .int (nI p)), (2, .int (nI (by2 f pM))), (3, .int (nI f0)), (4, .int (nI ib)), (5, .int (nI k)), (6, .int (nI (by2 f p))), (7, .int (nI s43)), (8, .int 1), (9, .int 0)], [.int (nI (fitN mj cf (by2 f p) 1))], M1) _
                    have hft := le1_fit mj cf (by2 f p) 1
                    refine ps_if (S1 := (183, [(0, .ref m0), (1, .int (nI p)), (2, .int (nI (by2 f pM))), (3, .int (nI f0)), (4, .int (nI ib)), (5, .int (nI k)), (6, .int (nI (by2 f p))), (7, .int (nI s43)), (8, .int 1), (9, .int 0)], [], M1)) (S2 := (175, [(0, .ref m0), (1, .int (nI p)), (2, .int (nI (by2 f pM))), (3, .int (nI f0)), (4, .int (nI ib)), (5, .int (nI k)), (6, .int (nI (by2 f p))), (7, .int (nI s43)), (8, .int 1), (9, .int 0)], [], M1)) rfl rfl rfl (fun c_172 => ?_) (fun c_172 => ?_)
                    · have c_172 : ¬ (nI (fitN mj cf (by2 f p) 1)) = 0 := of_decide_eq_true c_172
                      have n_172 : ¬ (fitN mj cf (by2 f p) 1 = 0) := fun h9 => c_172 ((eq_nI (p := fitN mj cf (by2 f p) 1) (n := 0) (Nat.lt_trans (le1_fit _ _ _ _) (by decide)) (by decide)).mpr h9)
                      have hnm : ¬ mnmN f n E cf (by2 f (p + 2)) = 0 := by
                        have m0_ := mnm_0 (f := f) (n := n) (E := E) (c := cf) (x := by2 f (p + 2))
                        have u0_ := uq0 (l := tX f n E (by2 f (p + 2)))
                        omega
                      have hfl : ¬ mflN f n E cf mj (by2 f p) (by2 f (p + 2)) = 0 := by
                        rw [mfl_i (by omega) (by omega)]
                        omega
                      exact ih.2.1 (k) (p) (ib) (s43) (0) (1) M1 I1 R1 hR1 hEI1 hER1 hl51 hl52 hl53 hl58 hl56 hl26 hl9 hl10 hF1 hY1 hP1 hK1 hN91 hQ1 (by omega) (hpk) (hpe) (hs) (hib) (q76_s) (by omega) (hnm) (hfl) (by omega) (by omega)
                    · have c_172 : ¬ (¬ (nI (fitN mj cf (by2 f p) 1)) = 0) := of_decide_eq_false c_172
                      have n_172 : fitN mj cf (by2 f p) 1 = 0 := (eq_nI (p := fitN mj cf (by2 f p) 1) (n := 0) (Nat.lt_trans (le1_fit _ _ _ _) (by decide)) (by decide)).mp (Decidable.not_not.mp c_172)
                      refine ps_st (S' := (176, [(0, .ref m0), (1, .int (nI p)), (2, .int (nI (by2 f pM))), (3, .int (nI f0)), (4, .int (nI ib)), (5, .int (nI k)), (6, .int (nI (by2 f p))), (7, .int (nI s43)), (8, .int 1), (9, .int 0)], [.ref m0], M1)) rfl rfl rfl ?_
                      refine ps_st (S' := (178, [(0, .ref m0), (1, .int (nI p)), (2, .int (nI (by2 f pM))), (3, .int (nI f0)), (4, .int (nI ib)), (5, .int (nI k)), (6, .int (nI (by2 f p))), (7, .int (nI s43)), (8, .int 1), (9, .int 0)], [.int 23, .ref m0], M1)) rfl rfl rfl ?_
                      refine ps_st (S' := (179, [(0, .ref m0), (1, .int (nI p)), (2, .int (nI (by2 f pM))), (3, .int (nI f0)), (4, .int (nI ib)), (5, .int (nI k)), (6, .int (nI (by2 f p))), (7, .int (nI s43)), (8, .int 1), (9, .int 0)], [.int (nI p), .int 23, .ref m0], M1)) rfl rfl rfl ?_
                      refine pl_call (a := [.ref m0, .int 23, .int (nI p)]) (rest := []) rfl rfl rfl (rd_wrong (x1 := 23) (x2 := (nI p)) hR1) (fun v138 M139 q140 => ?_)
                      obtain ⟨I141, R142, rfl, hR143, hI144, hX145, hi146, hi147⟩ := q140
                      have hi148 := (hI144 51 (by decide)).trans hl51
                      have hi149 := (hI144 52 (by decide)).trans hl52
                      have hi150 := (hI144 53 (by decide)).trans hl53
                      have hi151 := (hI144 58 (by decide)).trans hl58
                      have hi152 := (hI144 56 (by decide)).trans hl56
                      have hi153 := (hI144 26 (by decide)).trans hl26
                      have hi154 := (hI144 9 (by decide)).trans hl9
                      have hi155 := (hI144 10 (by decide)).trans hl10
                      have hF_156 := hF1.mono (cIx hI144 (by decide)) (cRx hX145 (by decide))
                      have hY_157 := hY1.mono (cIx hI144 (by decide)) (cRx hX145 (by decide))
                      have hP_158 := hP1.mono (cIx hI144 (by decide)) (cRx hX145 (by decide))
                      have hK_159 := hK1.mono (cIx hI144 (by decide)) (cRx hX145 (by decide))
                      have hN9_160 := hN91.mono (cIx hI144 (by decide)) (cRx hX145 (by decide))
                      have hQ_161 := hQ1.mono (cIx hI144 (by decide)) (cRx hX145 (by decide))
                      have hEI162 := hEI1.tr hI144 (by decide)
                      have hER163 := hER1.tr hX145 (by decide)
                      show pl _ _ _ (182, [(0, .ref m0), (1, .int (nI p)), (2, .int (nI (by2 f pM))), (3, .int (nI f0)), (4, .int (nI ib)), (5, .int (nI k)), (6, .int (nI (by2 f p))), (7, .int (nI s43)), (8, .int 1), (9, .int 0)], [.int 0], M139) _
                      exact ps_ret rfl rfl (Or.inr ⟨(23, p), I141, R142, by
                          have m0_ := mnm_0 (f := f) (n := n) (E := E) (c := cf) (x := by2 f (p + 2))
                          have u0_ := uq0 (l := tX f n E (by2 f (p + 2)))
                          rw [← hs, mtS_st (i := k) (by omega), ← hpk, mh_23 (by omega) (by rw [mfl_i (by omega) (by omega)]; omega)], rfl, hR143, hEI162, hER163, hi146, hi147⟩)
                  · have c_144 : ¬ (¬ (nI (unq0 (tX f n E (by2 f (p + 2))))) = 0) := of_decide_eq_false c_144
                    have n_144 : unq0 (tX f n E (by2 f (p + 2))) = 0 := (eq_nI (p := unq0 (tX f n E (by2 f (p + 2)))) (n := 0) (Nat.lt_trans (le1_unq0 _) (by decide)) (by decide)).mp (Decidable.not_not.mp c_144)
                    refine ps_st (S' := (148, [(0, .ref m0), (1, .int (nI p))], [.ref m0], M1)) rfl rfl rfl ?_
                    refine ps_st (S' := (150, [(0, .ref m0), (1, .int (nI p))], [.int 24, .ref m0], M1)) rfl rfl rfl ?_
                    refine ps_st (S' := (151, [(0, .ref m0), (1, .int (nI p))], [.int (nI p), .int 24, .ref m0], M1)) rfl rfl rfl ?_
                    refine ps_st (S' := (152, [(0, .ref m0), (1, .int (nI p))], [.int 2, .int (nI p), .int 24, .ref m0], M1)) rfl rfl rfl ?_
                    refine ps_st (S' := (153, [(0, .ref m0), (1, .int (nI p))], [.int ((nI p) + 2), .int 24, .ref m0], M1)) rfl rfl rfl ?_
                    rw [nI_add1 (p := p) (k := 2) (x := 2) rfl (by omega)]
                    show pl _ _ _ (_, [(0, .ref m0), (1, .int (nI p))], [.int (nI (p + 2)), .int 24, .ref m0], M1) _
                    refine pl_call (a := [.ref m0, .int 24, .int (nI (p + 2))]) (rest := []) rfl rfl rfl (rd_wrong (x1 := 24) (x2 := (nI (p + 2))) hR1) (fun v164 M165 q166 => ?_)
                    obtain ⟨I167, R168, rfl, hR169, hI170, hX171, hi172, hi173⟩ := q166
                    have hi174 := (hI170 51 (by decide)).trans hl51
                    have hi175 := (hI170 52 (by decide)).trans hl52
                    have hi176 := (hI170 53 (by decide)).trans hl53
                    have hi177 := (hI170 58 (by decide)).trans hl58
                    have hi178 := (hI170 56 (by decide)).trans hl56
                    have hi179 := (hI170 26 (by decide)).trans hl26
                    have hi180 := (hI170 9 (by decide)).trans hl9
                    have hi181 := (hI170 10 (by decide)).trans hl10
                    have hF_182 := hF1.mono (cIx hI170 (by decide)) (cRx hX171 (by decide))
                    have hY_183 := hY1.mono (cIx hI170 (by decide)) (cRx hX171 (by decide))
                    have hP_184 := hP1.mono (cIx hI170 (by decide)) (cRx hX171 (by decide))
                    have hK_185 := hK1.mono (cIx hI170 (by decide)) (cRx hX171 (by decide))
                    have hN9_186 := hN91.mono (cIx hI170 (by decide)) (cRx hX171 (by decide))
                    have hQ_187 := hQ1.mono (cIx hI170 (by decide)) (cRx hX171 (by decide))
                    have hEI188 := hEI1.tr hI170 (by decide)
                    have hER189 := hER1.tr hX171 (by decide)
                    show pl _ _ _ (156, [(0, .ref m0), (1, .int (nI p))], [.int 0], M165) _
                    exact ps_ret rfl rfl (Or.inr ⟨(24, p + 2), I167, R168, by
                        rw [← hs, mtS_st (i := k) (by omega), ← hpk, mh_24 (by have m0_ := mnm_0 (f := f) (n := n) (E := E) (c := cf) (x := by2 f (p + 2)); have u0_ := uq0 (l := tX f n E (by2 f (p + 2))); omega)], rfl, hR169, hEI188, hER189, hi172, hi173⟩)
              · have c_107 : ¬ (¬ (nI s43) = (nI sc)) := of_decide_eq_false c_107
                have n_107 : s43 = sc := (eq_nI (p := s43) (n := sc) (by omega) (by omega)).mp (Decidable.not_not.mp c_107)
                refine ps_st (S' := (111, [(8, .int 1), (0, .ref m0), (1, .int (nI p)), (2, .int (nI (by2 f pM))), (3, .int (nI f0)), (4, .int (nI ib)), (5, .int (nI k)), (6, .int (nI (by2 f p))), (7, .int (nI s43))], [.int 1], M1)) rfl rfl rfl ?_
                refine ps_st (S' := (115, [(0, .ref m0), (1, .int (nI p)), (2, .int (nI (by2 f pM))), (3, .int (nI f0)), (4, .int (nI ib)), (5, .int (nI k)), (6, .int (nI (by2 f p))), (7, .int (nI s43)), (8, .int 1)], [.int 1], M1)) rfl rfl rfl ?_
                refine ps_st (S' := (117, [(9, .int 1), (0, .ref m0), (1, .int (nI p)), (2, .int (nI (by2 f pM))), (3, .int (nI f0)), (4, .int (nI ib)), (5, .int (nI k)), (6, .int (nI (by2 f p))), (7, .int (nI s43)), (8, .int 1)], [], M1)) rfl rfl rfl ?_
                refine ps_st (S' := (119, [(9, .int 1), (0, .ref m0), (1, .int (nI p)), (2, .int (nI (by2 f pM))), (3, .int (nI f0)), (4, .int (nI ib)), (5, .int (nI k)), (6, .int (nI (by2 f p))), (7, .int (nI s43)), (8, .int 1)], [.int (nI s43)], M1)) rfl rfl rfl ?_
                refine ps_if (S1 := (147, [(0, .ref m0), (1, .int (nI p))], [], M1)) (S2 := (122, [(9, .int 1), (0, .ref m0), (1, .int (nI p)), (2, .int (nI (by2 f pM))), (3, .int (nI f0)), (4, .int (nI ib)), (5, .int (nI k)), (6, .int (nI (by2 f p))), (7, .int (nI s43)), (8, .int 1)], [], M1)) rfl rfl rfl (fun c_119 => ?_) (fun c_119 => ?_)
                · exact absurd (of_decide_eq_true c_119) (show ¬ ((nI s43) < 0) from fun h9 => absurd ((lt_nI (p := s43) (n := 0) (by omega) (by decide)).mp h9) (by omega))
                refine ps_st (S' := (124, [(9, .int 1), (0, .ref m0), (1, .int (nI p)), (2, .int (nI (by2 f pM))), (3, .int (nI f0)), (4, .int (nI ib)), (5, .int (nI k)), (6, .int (nI (by2 f p))), (7, .int (nI s43)), (8, .int 1)], [.int 1], M1)) rfl rfl rfl ?_
                refine ps_if (S1 := (157, [(0, .ref m0), (1, .int (nI p)), (2, .int (nI (by2 f pM))), (3, .int (nI f0)), (4, .int (nI ib)), (5, .int (nI k)), (6, .int (nI (by2 f p))), (7, .int (nI s43)), (8, .int 1), (9, .int 1)], [], M1)) (S2 := (127, [(9, .int 1), (0, .ref m0), (1, .int (nI p)), (2, .int (nI (by2 f pM))), (3, .int (nI f0)), (4, .int (nI ib)), (5, .int (nI k)), (6, .int (nI (by2 f p))), (7, .int (nI s43)), (8, .int 1)], [], M1)) rfl rfl rfl (fun c_124 => ?_) (fun c_124 => ?_)
                rotate_left
                · exact absurd (by decide) (of_decide_eq_false c_124)
                refine ps_st (S' := (159, [(0, .ref m0), (1, .int (nI p)), (2, .int (nI (by2 f pM))), (3, .int (nI f0)), (4, .int (nI ib)), (5, .int (nI k)), (6, .int (nI (by2 f p))), (7, .int (nI s43)), (8, .int 1), (9, .int 1)], [.int 1], M1)) rfl rfl rfl ?_
                refine ps_if (S1 := (183, [(0, .ref m0), (1, .int (nI p)), (2, .int (nI (by2 f pM))), (3, .int (nI f0)), (4, .int (nI ib)), (5, .int (nI k)), (6, .int (nI (by2 f p))), (7, .int (nI s43)), (8, .int 1), (9, .int 1)], [], M1)) (S2 := (162, [(0, .ref m0), (1, .int (nI p)), (2, .int (nI (by2 f pM))), (3, .int (nI f0)), (4, .int (nI ib)), (5, .int (nI k)), (6, .int (nI (by2 f p))), (7, .int (nI s43)), (8, .int 1), (9, .int 1)], [], M1)) rfl rfl rfl (fun c_159 => ?_) (fun c_159 => ?_)
                rotate_left
                · exact absurd (by decide) (of_decide_eq_false c_159)
                exfalso; omega
      · skip
        intro k p ib a i9 i8 M1 I1 R1 hR1 hEI1 hER1 hl51 hl52 hl53 hl58 hl56 hl26 hl9 hl10 hF1 hY1 hP1 hK1 hN91 hQ1 hk0 hpk hpe hs hib hsa ht1 hnm hfl h9c h8c
        have hn := hF1.1
        have hu9 := by2_lt f pM
        have htl := hY1.1.2.2.1
        have hBl := hMB.1
        have hi7 := hsi.1
        have hc7 := hsc.1
        have hu8 := by2_lt f p
        have hsa1 := hsa.1
        refine ps_st1 (S' := (184, [(0, .ref m0), (1, .int (nI p)), (2, .int (nI (by2 f pM))), (3, .int (nI f0)), (4, .int (nI ib)), (5, .int (nI k)), (6, .int (nI (by2 f p))), (7, .int (nI a)), (8, .int (nI i8)), (9, .int (nI i9))], [.ref m0], M1)) rfl rfl rfl ?_
        refine ps_st (S' := (185, [(0, .ref m0), (1, .int (nI p)), (2, .int (nI (by2 f pM))), (3, .int (nI f0)), (4, .int (nI ib)), (5, .int (nI k)), (6, .int (nI (by2 f p))), (7, .int (nI a)), (8, .int (nI i8)), (9, .int (nI i9))], [.ref m0, .ref m0], M1)) rfl rfl rfl ?_
        refine ps_st (S' := (186, [(0, .ref m0), (1, .int (nI p)), (2, .int (nI (by2 f pM))), (3, .int (nI f0)), (4, .int (nI ib)), (5, .int (nI k)), (6, .int (nI (by2 f p))), (7, .int (nI a)), (8, .int (nI i8)), (9, .int (nI i9))], [.int (nI p), .ref m0, .ref m0], M1)) rfl rfl rfl ?_
        refine ps_st (S' := (187, [(0, .ref m0), (1, .int (nI p)), (2, .int (nI (by2 f pM))), (3, .int (nI f0)), (4, .int (nI ib)), (5, .int (nI k)), (6, .int (nI (by2 f p))), (7, .int (nI a)), (8, .int (nI i8)), (9, .int (nI i9))], [.int 4, .int (nI p), .ref m0, .ref m0], M1)) rfl rfl rfl ?_
        refine ps_st (S' := (188, [(0, .ref m0), (1, .int (nI p)), (2, .int (nI (by2 f pM))), (3, .int (nI f0)), (4, .int (nI ib)), (5, .int (nI k)), (6, .int (nI (by2 f p))), (7, .int (nI a)), (8, .int (nI i8)), (9, .int (nI i9))], [.int ((nI p) + 4), .ref m0, .ref m0], M1)) rfl rfl rfl ?_
        rw [nI_add1 (p := p) (k := 4) (x := 4) rfl (by omega)]
        show pl _ _ _ (_, [(0, .ref m0), (1, .int (nI p)), (2, .int (nI (by2 f pM))), (3, .int (nI f0)), (4, .int (nI ib)), (5, .int (nI k)), (6, .int (nI (by2 f p))), (7, .int (nI a)), (8, .int (nI i8)), (9, .int (nI i9))], [.int (nI (p + 4)), .ref m0, .ref m0], M1) _
        refine pl_call (a := [.ref m0, .int (nI (p + 4))]) (rest := [.ref m0]) rfl rfl rfl (rd_u2 (n := n) (f := f) (p := (p + 4)) hR1 hF1 (by omega)) (fun v190 M191 q192 => ?_)
        obtain ⟨rfl, rfl⟩ := q192
        show pl _ _ _ (191, [(0, .ref m0), (1, .int (nI p)), (2, .int (nI (by2 f pM))), (3, .int (nI f0)), (4, .int (nI ib)), (5, .int (nI k)), (6, .int (nI (by2 f p))), (7, .int (nI a)), (8, .int (nI i8)), (9, .int (nI i9))], [.int (nI (by2 f (p + 4))), .ref m0], M1) _
        have hu_188 := by2_lt f (p + 4)
        refine pl_call (a := [.ref m0, .int (nI (by2 f (p + 4)))]) (rest := []) rfl rfl rfl (rd_tag (n := n) (f := f) (tx := tx) (cN := cN) (A := A) (N := N) (mj := mj) (E := E) (k := (by2 f (p + 4))) hR1 hl51 hl52 hl53 hF1 hY1 hP1 (hEP) (hN) (hmj) (by2_lt _ _)) (fun v193 M194 q195 => ?_)
        obtain ⟨rfl, rfl⟩ := q195
        show pl _ _ _ (194, [(0, .ref m0), (1, .int (nI p)), (2, .int (nI (by2 f pM))), (3, .int (nI f0)), (4, .int (nI ib)), (5, .int (nI k)), (6, .int (nI (by2 f p))), (7, .int (nI a)), (8, .int (nI i8)), (9, .int (nI i9))], [.int (nI (tg f E (by2 f (p + 4))))], M1) _
        have htg_191 := tg_lt f E (by2 f (p + 4))
        refine ps_st (S' := (195, [(0, .ref m0), (1, .int (nI p)), (2, .int (nI (by2 f pM))), (3, .int (nI f0)), (4, .int (nI ib)), (5, .int (nI k)), (6, .int (nI (by2 f p))), (7, .int (nI a)), (8, .int (nI i8)), (9, .int (nI i9))], [.int 1, .int (nI (tg f E (by2 f (p + 4))))], M1)) rfl rfl rfl ?_
        refine ps_if2 (S1 := (212, [(0, .ref m0), (1, .int (nI p)), (2, .int (nI (by2 f pM))), (3, .int (nI f0)), (4, .int (nI ib)), (5, .int (nI k)), (6, .int (nI (by2 f p))), (7, .int (nI a)), (8, .int (nI i8)), (9, .int (nI i9))], [], M1)) (S2 := (198, [(0, .ref m0), (1, .int (nI p)), (2, .int (nI (by2 f pM))), (3, .int (nI f0)), (4, .int (nI ib)), (5, .int (nI k)), (6, .int (nI (by2 f p))), (7, .int (nI a)), (8, .int (nI i8)), (9, .int (nI i9))], [], M1)) rfl rfl rfl (fun c_195 => ?_) (fun c_195 => ?_)
        · have c_195 : ¬ (nI (tg f E (by2 f (p + 4)))) = 1 := of_decide_eq_true c_195
          have n_195 : ¬ (tg f E (by2 f (p + 4)) = 1) := fun h9 => c_195 ((eq_nI (p := tg f E (by2 f (p + 4))) (n := 1) (Nat.lt_trans (tg_lt _ _ _) (by decide)) (by decide)).mpr h9)
          refine ps_st (S' := (213, [(0, .ref m0), (1, .int (nI p)), (2, .int (nI (by2 f pM))), (3, .int (nI f0)), (4, .int (nI ib)), (5, .int (nI k)), (6, .int (nI (by2 f p))), (7, .int (nI a)), (8, .int (nI i8)), (9, .int (nI i9))], [.int (-1)], M1)) rfl rfl rfl ?_
          refine ps_st (S' := (215, [(10, .int (-1)), (0, .ref m0), (1, .int (nI p)), (2, .int (nI (by2 f pM))), (3, .int (nI f0)), (4, .int (nI ib)), (5, .int (nI k)), (6, .int (nI (by2 f p))), (7, .int (nI a)), (8, .int (nI i8)), (9, .int (nI i9))], [], M1)) rfl rfl rfl ?_
          refine ps_st (S' := (217, [(10, .int (-1)), (0, .ref m0), (1, .int (nI p)), (2, .int (nI (by2 f pM))), (3, .int (nI f0)), (4, .int (nI ib)), (5, .int (nI k)), (6, .int (nI (by2 f p))), (7, .int (nI a)), (8, .int (nI i8)), (9, .int (nI i9))], [.int (-1)], M1)) rfl rfl rfl ?_
          refine ps_if (S1 := (269, [(0, .ref m0), (1, .int (nI p))], [], M1)) (S2 := (220, [(10, .int (-1)), (0, .ref m0), (1, .int (nI p)), (2, .int (nI (by2 f pM))), (3, .int (nI f0)), (4, .int (nI ib)), (5, .int (nI k)), (6, .int (nI (by2 f p))), (7, .int (nI a)), (8, .int (nI i8)), (9, .int (nI i9))], [], M1)) rfl rfl rfl (fun c_217 => ?_) (fun c_217 => ?_)
          rotate_left
          · exact absurd (by decide) (of_decide_eq_false c_217)
          refine ps_st (S' := (270, [(0, .ref m0), (1, .int (nI p))], [.ref m0], M1)) rfl rfl rfl ?_
          refine ps_st (S' := (272, [(0, .ref m0), (1, .int (nI p))], [.int 25, .ref m0], M1)) rfl rfl rfl ?_
          refine ps_st (S' := (273, [(0, .ref m0), (1, .int (nI p))], [.int (nI p), .int 25, .ref m0], M1)) rfl rfl rfl ?_
          refine ps_st (S' := (274, [(0, .ref m0), (1, .int (nI p))], [.int 4, .int (nI p), .int 25, .ref m0], M1)) rfl rfl rfl ?_
          refine ps_st (S' := (275, [(0, .ref m0), (1, .int (nI p))], [.int ((nI p) + 4), .int 25, .ref m0], M1)) rfl rfl rfl ?_
          rw [nI_add1 (p := p) (k := 4) (x := 4) rfl (by omega)]
          show pl _ _ _ (_, [(0, .ref m0), (1, .int (nI p))], [.int (nI (p + 4)), .int 25, .ref m0], M1) _
          refine pl_call (a := [.ref m0, .int 25, .int (nI (p + 4))]) (rest := []) rfl rfl rfl (rd_wrong (x1 := 25) (x2 := (nI (p + 4))) hR1) (fun v196 M197 q198 => ?_)
          obtain ⟨I199, R200, rfl, hR201, hI202, hX203, hi204, hi205⟩ := q198
          have hi206 := (hI202 51 (by decide)).trans hl51
          have hi207 := (hI202 52 (by decide)).trans hl52
          have hi208 := (hI202 53 (by decide)).trans hl53
          have hi209 := (hI202 58 (by decide)).trans hl58
          have hi210 := (hI202 56 (by decide)).trans hl56
          have hi211 := (hI202 26 (by decide)).trans hl26
          have hi212 := (hI202 9 (by decide)).trans hl9
          have hi213 := (hI202 10 (by decide)).trans hl10
          have hF_214 := hF1.mono (cIx hI202 (by decide)) (cRx hX203 (by decide))
          have hY_215 := hY1.mono (cIx hI202 (by decide)) (cRx hX203 (by decide))
          have hP_216 := hP1.mono (cIx hI202 (by decide)) (cRx hX203 (by decide))
          have hK_217 := hK1.mono (cIx hI202 (by decide)) (cRx hX203 (by decide))
          have hN9_218 := hN91.mono (cIx hI202 (by decide)) (cRx hX203 (by decide))
          have hQ_219 := hQ1.mono (cIx hI202 (by decide)) (cRx hX203 (by decide))
          have hEI220 := hEI1.tr hI202 (by decide)
          have hER221 := hER1.tr hX203 (by decide)
          show pl _ _ _ (278, [(0, .ref m0), (1, .int (nI p))], [.int 0], M197) _
          exact ps_ret rfl rfl (Or.inr ⟨(25, p + 4), I199, R200, by
              have h25 : mdsN f n E (by2 f (p + 2)) (by2 f (p + 4)) (apN f n E p) = 0 := by
                have m0_ := mds_0 (f := f) (n := n) (E := E) (x := by2 f (p + 2)) (d := by2 f (p + 4)) (w := apN f n E p)
                have a0_ := ap_9 (f := f) (n := n) (E := E) (p := p)
                exact m0_.mpr (Or.inl (by rw [tx_no (by omega)]; decide))
              rw [← hs, mtS_st (i := k) (by omega), ← hpk, mh_25 hnm hfl h25], rfl, hR201, hEI220, hER221, hi204, hi205⟩)
        · have c_195 : ¬ (¬ (nI (tg f E (by2 f (p + 4)))) = 1) := of_decide_eq_false c_195
          have n_195 : tg f E (by2 f (p + 4)) = 1 := (eq_nI (p := tg f E (by2 f (p + 4))) (n := 1) (Nat.lt_trans (tg_lt _ _ _) (by decide)) (by decide)).mp (Decidable.not_not.mp c_195)
          refine ps_st (S' := (199, [(0, .ref m0), (1, .int (nI p)), (2, .int (nI (by2 f pM))), (3, .int (nI f0)), (4, .int (nI ib)), (5, .int (nI k)), (6, .int (nI (by2 f p))), (7, .int (nI a)), (8, .int (nI i8)), (9, .int (nI i9))], [.ref m0], M1)) rfl rfl rfl ?_
          refine ps_st (S' := (200, [(0, .ref m0), (1, .int (nI p)), (2, .int (nI (by2 f pM))), (3, .int (nI f0)), (4, .int (nI ib)), (5, .int (nI k)), (6, .int (nI (by2 f p))), (7, .int (nI a)), (8, .int (nI i8)), (9, .int (nI i9))], [.ref m0, .ref m0], M1)) rfl rfl rfl ?_
          refine ps_st (S' := (201, [(0, .ref m0), (1, .int (nI p)), (2, .int (nI (by2 f pM))), (3, .int (nI f0)), (4, .int (nI ib)), (5, .int (nI k)), (6, .int (nI (by2 f p))), (7, .int (nI a)), (8, .int (nI i8)), (9, .int (nI i9))], [.int (nI p), .ref m0, .ref m0], M1)) rfl rfl rfl ?_
          refine ps_st (S' := (202, [(0, .ref m0), (1, .int (nI p)), (2, .int (nI (by2 f pM))), (3, .int (nI f0)), (4, .int (nI ib)), (5, .int (nI k)), (6, .int (nI (by2 f p))), (7, .int (nI a)), (8, .int (nI i8)), (9, .int (nI i9))], [.int 4, .int (nI p), .ref m0, .ref m0], M1)) rfl rfl rfl ?_
          refine ps_st (S' := (203, [(0, .ref m0), (1, .int (nI p)), (2, .int (nI (by2 f pM))), (3, .int (nI f0)), (4, .int (nI ib)), (5, .int (nI k)), (6, .int (nI (by2 f p))), (7, .int (nI a)), (8, .int (nI i8)), (9, .int (nI i9))], [.int ((nI p) + 4), .ref m0, .ref m0], M1)) rfl rfl rfl ?_
          rw [nI_add1 (p := p) (k := 4) (x := 4) rfl (by omega)]
          show pl _ _ _ (_, [(0, .ref m0), (1, .int (nI p)), (2, .int (nI (by2 f pM))), (3, .int (nI f0)), (4, .int (nI ib)), (5, .int (nI k)), (6, .int (nI (by2 f p))), (7, .int (nI a)), (8, .int (nI i8)), (9, .int (nI i9))], [.int (nI (p + 4)), .ref m0, .ref m0], M1) _
          refine pl_call (a := [.ref m0, .int (nI (p + 4))]) (rest := [.ref m0]) rfl rfl rfl (rd_u2 (n := n) (f := f) (p := (p + 4)) hR1 hF1 (by omega)) (fun v222 M223 q224 => ?_)
          obtain ⟨rfl, rfl⟩ := q224
          show pl _ _ _ (206, [(0, .ref m0), (1, .int (nI p)), (2, .int (nI (by2 f pM))), (3, .int (nI f0)), (4, .int (nI ib)), (5, .int (nI k)), (6, .int (nI (by2 f p))), (7, .int (nI a)), (8, .int (nI i8)), (9, .int (nI i9))], [.int (nI (by2 f (p + 4))), .ref m0], M1) _
          have hu_203 := by2_lt f (p + 4)
          refine pl_call (a := [.ref m0, .int (nI (by2 f (p + 4)))]) (rest := []) rfl rfl rfl (rd_symOf (n := n) (f := f) (tx := tx) (cN := cN) (A := A) (N := N) (mj := mj) (E := E) (k := (by2 f (p + 4))) hR1 hl51 hl52 hl53 hF1 hY1 hP1 (hEP) (hN) (hmj) (by omega)) (fun v225 M226 q227 => ?_)
          obtain ⟨s228, q206_s, rfl, rfl⟩ := q227
          show pl _ _ _ (209, [(0, .ref m0), (1, .int (nI p)), (2, .int (nI (by2 f pM))), (3, .int (nI f0)), (4, .int (nI ib)), (5, .int (nI k)), (6, .int (nI (by2 f p))), (7, .int (nI a)), (8, .int (nI i8)), (9, .int (nI i9))], [.int (nI s228)], M1) _
          have hsl_206 := q206_s.1
          have htl_206 := hY1.1.2.2.1
          refine ps_st (S' := (213, [(0, .ref m0), (1, .int (nI p)), (2, .int (nI (by2 f pM))), (3, .int (nI f0)), (4, .int (nI ib)), (5, .int (nI k)), (6, .int (nI (by2 f p))), (7, .int (nI a)), (8, .int (nI i8)), (9, .int (nI i9))], [.int (nI s228)], M1)) rfl rfl rfl ?_
          refine ps_st (S' := (215, [(10, .int (nI s228)), (0, .ref m0), (1, .int (nI p)), (2, .int (nI (by2 f pM))), (3, .int (nI f0)), (4, .int (nI ib)), (5, .int (nI k)), (6, .int (nI (by2 f p))), (7, .int (nI a)), (8, .int (nI i8)), (9, .int (nI i9))], [], M1)) rfl rfl rfl ?_
          refine ps_st (S' := (217, [(10, .int (nI s228)), (0, .ref m0), (1, .int (nI p)), (2, .int (nI (by2 f pM))), (3, .int (nI f0)), (4, .int (nI ib)), (5, .int (nI k)), (6, .int (nI (by2 f p))), (7, .int (nI a)), (8, .int (nI i8)), (9, .int (nI i9))], [.int (nI s228)], M1)) rfl rfl rfl ?_
          refine ps_if (S1 := (269, [(0, .ref m0), (1, .int (nI p))], [], M1)) (S2 := (220, [(10, .int (nI s228)), (0, .ref m0), (1, .int (nI p)), (2, .int (nI (by2 f pM))), (3, .int (nI f0)), (4, .int (nI ib)), (5, .int (nI k)), (6, .int (nI (by2 f p))), (7, .int (nI a)), (8, .int (nI i8)), (9, .int (nI i9))], [], M1)) rfl rfl rfl (fun c_217 => ?_) (fun c_217 => ?_)
          · exact absurd (of_decide_eq_true c_217) (show ¬ ((nI s228) < 0) from fun h9 => absurd ((lt_nI (p := s228) (n := 0) (by omega) (by decide)).mp h9) (by omega))
          refine ps_st (S' := (221, [(10, .int (nI s228)), (0, .ref m0), (1, .int (nI p)), (2, .int (nI (by2 f pM))), (3, .int (nI f0)), (4, .int (nI ib)), (5, .int (nI k)), (6, .int (nI (by2 f p))), (7, .int (nI a)), (8, .int (nI i8)), (9, .int (nI i9))], [.ref m0], M1)) rfl rfl rfl ?_
          refine ps_st (S' := (223, [(10, .int (nI s228)), (0, .ref m0), (1, .int (nI p)), (2, .int (nI (by2 f pM))), (3, .int (nI f0)), (4, .int (nI ib)), (5, .int (nI k)), (6, .int (nI (by2 f p))), (7, .int (nI a)), (8, .int (nI i8)), (9, .int (nI i9))], [.int (nI s228), .ref m0], M1)) rfl rfl rfl ?_
          refine pl_call (a := [.ref m0, .int (nI s228)]) (rest := []) rfl rfl rfl (rd_isMethod (tx := tx) (cN := cN) (A := A) (s := s228) (l := (tX f n E (by2 f (p + 4)))) hR1 hY1 (q206_s)) (fun v229 M230 q231 => ?_)
          obtain ⟨rfl, rfl⟩ := q231
          show pl _ _ _ (226, [(10, .int (nI s228)), (0, .ref m0), (1, .int (nI p)), (2, .int (nI (by2 f pM))), (3, .int (nI f0)), (4, .int (nI ib)), (5, .int (nI k)), (6, .int (nI (by2 f p))), (7, .int (nI a)), (8, .int (nI i8)), (9, .int (nI i9))], [.int (nI (mthN (tX f n E (by2 f (p + 4)))))], M1) _
          refine ps_if (S1 := (269, [(0, .ref m0), (1, .int (nI p))], [], M1)) (S2 := (229, [(10, .int (nI s228)), (0, .ref m0), (1, .int (nI p)), (2, .int (nI (by2 f pM))), (3, .int (nI f0)), (4, .int (nI ib)), (5, .int (nI k)), (6, .int (nI (by2 f p))), (7, .int (nI a)), (8, .int (nI i8)), (9, .int (nI i9))], [], M1)) rfl rfl rfl (fun c_226 => ?_) (fun c_226 => ?_)
          · have c_226 : (nI (mthN (tX f n E (by2 f (p + 4))))) = 0 := of_decide_eq_true c_226
            have n_226 : mthN (tX f n E (by2 f (p + 4))) = 0 := (eq_nI (p := mthN (tX f n E (by2 f (p + 4)))) (n := 0) (Nat.lt_trans (le1_mth _) (by decide)) (by decide)).mp c_226
            refine ps_st (S' := (270, [(0, .ref m0), (1, .int (nI p))], [.ref m0], M1)) rfl rfl rfl ?_
            refine ps_st (S' := (272, [(0, .ref m0), (1, .int (nI p))], [.int 25, .ref m0], M1)) rfl rfl rfl ?_
            refine ps_st (S' := (273, [(0, .ref m0), (1, .int (nI p))], [.int (nI p), .int 25, .ref m0], M1)) rfl rfl rfl ?_
            refine ps_st (S' := (274, [(0, .ref m0), (1, .int (nI p))], [.int 4, .int (nI p), .int 25, .ref m0], M1)) rfl rfl rfl ?_
            refine ps_st (S' := (275, [(0, .ref m0), (1, .int (nI p))], [.int ((nI p) + 4), .int 25, .ref m0], M1)) rfl rfl rfl ?_
            rw [nI_add1 (p := p) (k := 4) (x := 4) rfl (by omega)]
            show pl _ _ _ (_, [(0, .ref m0), (1, .int (nI p))], [.int (nI (p + 4)), .int 25, .ref m0], M1) _
            refine pl_call (a := [.ref m0, .int 25, .int (nI (p + 4))]) (rest := []) rfl rfl rfl (rd_wrong (x1 := 25) (x2 := (nI (p + 4))) hR1) (fun v232 M233 q234 => ?_)
            obtain ⟨I235, R236, rfl, hR237, hI238, hX239, hi240, hi241⟩ := q234
            have hi242 := (hI238 51 (by decide)).trans hl51
            have hi243 := (hI238 52 (by decide)).trans hl52
            have hi244 := (hI238 53 (by decide)).trans hl53
            have hi245 := (hI238 58 (by decide)).trans hl58
            have hi246 := (hI238 56 (by decide)).trans hl56
            have hi247 := (hI238 26 (by decide)).trans hl26
            have hi248 := (hI238 9 (by decide)).trans hl9
            have hi249 := (hI238 10 (by decide)).trans hl10
            have hF_250 := hF1.mono (cIx hI238 (by decide)) (cRx hX239 (by decide))
            have hY_251 := hY1.mono (cIx hI238 (by decide)) (cRx hX239 (by decide))
            have hP_252 := hP1.mono (cIx hI238 (by decide)) (cRx hX239 (by decide))
            have hK_253 := hK1.mono (cIx hI238 (by decide)) (cRx hX239 (by decide))
            have hN9_254 := hN91.mono (cIx hI238 (by decide)) (cRx hX239 (by decide))
            have hQ_255 := hQ1.mono (cIx hI238 (by decide)) (cRx hX239 (by decide))
            have hEI256 := hEI1.tr hI238 (by decide)
            have hER257 := hER1.tr hX239 (by decide)
            show pl _ _ _ (278, [(0, .ref m0), (1, .int (nI p))], [.int 0], M233) _
            exact ps_ret rfl rfl (Or.inr ⟨(25, p + 4), I235, R236, by
                have h25 : mdsN f n E (by2 f (p + 2)) (by2 f (p + 4)) (apN f n E p) = 0 := by
                  have m0_ := mds_0 (f := f) (n := n) (E := E) (x := by2 f (p + 2)) (d := by2 f (p + 4)) (w := apN f n E p)
                  have a0_ := ap_9 (f := f) (n := n) (E := E) (p := p)
                  omega
                rw [← hs, mtS_st (i := k) (by omega), ← hpk, mh_25 hnm hfl h25], rfl, hR237, hEI256, hER257, hi240, hi241⟩)
          · have c_226 : ¬ ((nI (mthN (tX f n E (by2 f (p + 4))))) = 0) := of_decide_eq_false c_226
            have n_226 : ¬ (mthN (tX f n E (by2 f (p + 4))) = 0) := fun h9 => c_226 ((eq_nI (p := mthN (tX f n E (by2 f (p + 4)))) (n := 0) (Nat.lt_trans (le1_mth _) (by decide)) (by decide)).mpr h9)
            refine ps_st (S' := (231, [(10, .int (nI s228)), (0, .ref m0), (1, .int (nI p)), (2, .int (nI (by2 f pM))), (3, .int (nI f0)), (4, .int (nI ib)), (5, .int (nI k)), (6, .int (nI (by2 f p))), (7, .int (nI a)), (8, .int (nI i8)), (9, .int (nI i9))], [.int (nI i8)], M1)) rfl rfl rfl ?_
            refine ps_if (S1 := (243, [(0, .ref m0), (1, .int (nI p)), (2, .int (nI (by2 f pM))), (3, .int (nI f0)), (4, .int (nI ib)), (5, .int (nI k)), (6, .int (nI (by2 f p))), (7, .int (nI a)), (9, .int (nI i9)), (10, .int (nI s228))], [], M1)) (S2 := (234, [(10, .int (nI s228)), (0, .ref m0), (1, .int (nI p)), (2, .int (nI (by2 f pM))), (3, .int (nI f0)), (4, .int (nI ib)), (5, .int (nI k)), (6, .int (nI (by2 f p))), (7, .int (nI a)), (8, .int (nI i8)), (9, .int (nI i9))], [], M1)) rfl rfl rfl (fun c_231 => ?_) (fun c_231 => ?_)
            · have c_231 : (nI i8) = 0 := of_decide_eq_true c_231
              have n_231 : i8 = 0 := (eq_nI (p := i8) (n := 0) (by omega) (by decide)).mp c_231
              refine ps_st (S' := (244, [(0, .ref m0), (1, .int (nI p)), (2, .int (nI (by2 f pM))), (3, .int (nI f0)), (4, .int (nI ib)), (5, .int (nI k)), (6, .int (nI (by2 f p))), (7, .int (nI a)), (9, .int (nI i9)), (10, .int (nI s228))], [.ref m0], M1)) rfl rfl rfl ?_
              refine ps_st (S' := (246, [(0, .ref m0), (1, .int (nI p)), (2, .int (nI (by2 f pM))), (3, .int (nI f0)), (4, .int (nI ib)), (5, .int (nI k)), (6, .int (nI (by2 f p))), (7, .int (nI a)), (9, .int (nI i9)), (10, .int (nI s228))], [.int (nI s228), .ref m0], M1)) rfl rfl rfl ?_
              obtain ⟨-, -, k_246, W_246, hq1_246, hq2_246, hq3_246, hq4_246, hq5_246, hq6_246, -⟩ := mth_in (l := (tX f n E (by2 f (p + 4)))) (by omega)
              refine pl_call (a := [.ref m0, .int (nI s228)]) (rest := []) rfl rfl rfl (rd_places0 (tx := tx) (cN := cN) (A := A) (s := s228) (l := (tX f n E (by2 f (p + 4)))) (k0 := k_246) (W := W_246) hR1 hY1 (q206_s) (hq1_246) (⟨by omega, hq5_246⟩)) (fun v258 M259 q260 => ?_)
              obtain ⟨rfl, rfl⟩ := q260
              show pl _ _ _ (249, [(0, .ref m0), (1, .int (nI p)), (2, .int (nI (by2 f pM))), (3, .int (nI f0)), (4, .int (nI ib)), (5, .int (nI k)), (6, .int (nI (by2 f p))), (7, .int (nI a)), (9, .int (nI i9)), (10, .int (nI s228))], [.int (nI (W_246))], M1) _
              rw [← hq6_246]
              show pl _ _ _ (_, [(0, .ref m0), (1, .int (nI p)), (2, .int (nI (by2 f pM))), (3, .int (nI f0)), (4, .int (nI ib)), (5, .int (nI k)), (6, .int (nI (by2 f p))), (7, .int (nI a)), (9, .int (nI i9)), (10, .int (nI s228))], [.int (nI (argN (tX f n E (by2 f (p + 4)))))], M1) _
              have hal_246 := argN_lt (tX f n E (by2 f (p + 4)))
              refine ps_st (S' := (251, [(0, .ref m0), (1, .int (nI p)), (2, .int (nI (by2 f pM))), (3, .int (nI f0)), (4, .int (nI ib)), (5, .int (nI k)), (6, .int (nI (by2 f p))), (7, .int (nI a)), (9, .int (nI i9)), (10, .int (nI s228))], [.int (nI (by2 f p)), .int (nI (argN (tX f n E (by2 f (p + 4)))))], M1)) rfl rfl rfl ?_
              refine ps_st (S' := (253, [(0, .ref m0), (1, .int (nI p)), (2, .int (nI (by2 f pM))), (3, .int (nI f0)), (4, .int (nI ib)), (5, .int (nI k)), (6, .int (nI (by2 f p))), (7, .int (nI a)), (9, .int (nI i9)), (10, .int (nI s228))], [.int 8, .int (nI (by2 f p)), .int (nI (argN (tX f n E (by2 f (p + 4)))))], M1)) rfl rfl rfl ?_
              refine ps_st (S' := (254, [(0, .ref m0), (1, .int (nI p)), (2, .int (nI (by2 f pM))), (3, .int (nI f0)), (4, .int (nI ib)), (5, .int (nI k)), (6, .int (nI (by2 f p))), (7, .int (nI a)), (9, .int (nI i9)), (10, .int (nI s228))], [.int ((nI (by2 f p)) &&& 8), .int (nI (argN (tX f n E (by2 f (p + 4)))))], M1)) rfl rfl rfl ?_
              rw [nI_an (p := by2 f p) (k := 8) (x := 8) rfl]
              show pl _ _ _ (_, [(0, .ref m0), (1, .int (nI p)), (2, .int (nI (by2 f pM))), (3, .int (nI f0)), (4, .int (nI ib)), (5, .int (nI k)), (6, .int (nI (by2 f p))), (7, .int (nI a)), (9, .int (nI i9)), (10, .int (nI s228))], [.int (nI (aN (by2 f p) 8)), .int (nI (argN (tX f n E (by2 f (p + 4)))))], M1) _
              refine ps_if (S1 := (261, [(0, .ref m0), (1, .int (nI p)), (2, .int (nI (by2 f pM))), (3, .int (nI f0)), (4, .int (nI ib)), (5, .int (nI k)), (6, .int (nI (by2 f p))), (7, .int (nI a)), (9, .int (nI i9)), (10, .int (nI s228))], [.int (nI (argN (tX f n E (by2 f (p + 4)))))], M1)) (S2 := (257, [(0, .ref m0), (1, .int (nI p)), (2, .int (nI (by2 f pM))), (3, .int (nI f0)), (4, .int (nI ib)), (5, .int (nI k)), (6, .int (nI (by2 f p))), (7, .int (nI a)), (9, .int (nI i9)), (10, .int (nI s228))], [.int (nI (argN (tX f n E (by2 f (p + 4)))))], M1)) rfl rfl rfl (fun c_254 => ?_) (fun c_254 => ?_)
              · have c_254 : ¬ (nI (aN (by2 f p) 8)) = 0 := of_decide_eq_true c_254
                have n_254 : ¬ (aN (by2 f p) 8 = 0) := fun h9 => c_254 ((eq_nI (p := aN (by2 f p) 8) (n := 0) (Nat.lt_of_le_of_lt (an_le _ _) (by decide)) (by decide)).mpr h9)
                refine ps_st (S' := (262, [(0, .ref m0), (1, .int (nI p)), (2, .int (nI (by2 f pM))), (3, .int (nI f0)), (4, .int (nI ib)), (5, .int (nI k)), (6, .int (nI (by2 f p))), (7, .int (nI a)), (9, .int (nI i9)), (10, .int (nI s228))], [.int 0, .int (nI (argN (tX f n E (by2 f (p + 4)))))], M1)) rfl rfl rfl ?_
                refine ps_st (S' := (263, [(0, .ref m0), (1, .int (nI p)), (2, .int (nI (by2 f pM))), (3, .int (nI f0)), (4, .int (nI ib)), (5, .int (nI k)), (6, .int (nI (by2 f p))), (7, .int (nI a)), (9, .int (nI i9)), (10, .int (nI s228))], [.int ((nI (argN (tX f n E (by2 f (p + 4))))) + 0)], M1)) rfl rfl rfl ?_
                rw [nI_add1 (p := argN (tX f n E (by2 f (p + 4)))) (k := 0) (x := 0) rfl (by omega)]
                show pl _ _ _ (_, [(0, .ref m0), (1, .int (nI p)), (2, .int (nI (by2 f pM))), (3, .int (nI f0)), (4, .int (nI ib)), (5, .int (nI k)), (6, .int (nI (by2 f p))), (7, .int (nI a)), (9, .int (nI i9)), (10, .int (nI s228))], [.int (nI (argN (tX f n E (by2 f (p + 4))) + 0))], M1) _
                refine ps_st (S' := (266, [(0, .ref m0), (1, .int (nI p)), (2, .int (nI (by2 f pM))), (3, .int (nI f0)), (4, .int (nI ib)), (5, .int (nI k)), (6, .int (nI (by2 f p))), (7, .int (nI a)), (9, .int (nI i9)), (10, .int (nI s228))], [.int 255, .int (nI (argN (tX f n E (by2 f (p + 4))) + 0))], M1)) rfl rfl rfl ?_
                refine ps_if2 (S1 := (279, [(0, .ref m0), (1, .int (nI p)), (2, .int (nI (by2 f pM))), (3, .int (nI f0)), (4, .int (nI ib)), (5, .int (nI k)), (6, .int (nI (by2 f p))), (7, .int (nI a)), (9, .int (nI i9)), (10, .int (nI s228))], [], M1)) (S2 := (269, [(0, .ref m0), (1, .int (nI p))], [], M1)) rfl rfl rfl (fun c_266 => ?_) (fun c_266 => ?_)
                · have c_266 : (nI (argN (tX f n E (by2 f (p + 4))) + 0)) ≤ 255 := of_decide_eq_true c_266
                  have n_266 : argN (tX f n E (by2 f (p + 4))) + 0 ≤ 255 := (le_nI (p := argN (tX f n E (by2 f (p + 4))) + 0) (n := 255) (by omega) (by decide)).mp c_266
                  have hds : ¬ mdsN f n E (by2 f (p + 2)) (by2 f (p + 4)) (apN f n E p) = 0 := by
                    have m0_ := mds_0 (f := f) (n := n) (E := E) (x := by2 f (p + 2)) (d := by2 f (p + 4)) (w := apN f n E p)
                    have a0_ := ap_9 (f := f) (n := n) (E := E) (p := p)
                    omega
                  exact ih.2.2.1 (k) (p) (ib) (a) (i9) (s228) M1 I1 R1 hR1 hEI1 hER1 hl51 hl52 hl53 hl58 hl56 hl26 hl9 hl10 hF1 hY1 hP1 hK1 hN91 hQ1 (hk0) (hpk) (hpe) (hs) (hib) (hsa) (ht1) (hnm) (hfl) (h9c) (q206_s) (by omega) (by omega) (hds)
                · have c_266 : ¬ ((nI (argN (tX f n E (by2 f (p + 4))) + 0)) ≤ 255) := of_decide_eq_false c_266
                  have n_266 : ¬ (argN (tX f n E (by2 f (p + 4))) + 0 ≤ 255) := fun h9 => c_266 ((le_nI (p := argN (tX f n E (by2 f (p + 4))) + 0) (n := 255) (by omega) (by decide)).mpr h9)
                  refine ps_st (S' := (270, [(0, .ref m0), (1, .int (nI p))], [.ref m0], M1)) rfl rfl rfl ?_
                  refine ps_st (S' := (272, [(0, .ref m0), (1, .int (nI p))], [.int 25, .ref m0], M1)) rfl rfl rfl ?_
                  refine ps_st (S' := (273, [(0, .ref m0), (1, .int (nI p))], [.int (nI p), .int 25, .ref m0], M1)) rfl rfl rfl ?_
                  refine ps_st (S' := (274, [(0, .ref m0), (1, .int (nI p))], [.int 4, .int (nI p), .int 25, .ref m0], M1)) rfl rfl rfl ?_
                  refine ps_st (S' := (275, [(0, .ref m0), (1, .int (nI p))], [.int ((nI p) + 4), .int 25, .ref m0], M1)) rfl rfl rfl ?_
                  rw [nI_add1 (p := p) (k := 4) (x := 4) rfl (by omega)]
                  show pl _ _ _ (_, [(0, .ref m0), (1, .int (nI p))], [.int (nI (p + 4)), .int 25, .ref m0], M1) _
                  refine pl_call (a := [.ref m0, .int 25, .int (nI (p + 4))]) (rest := []) rfl rfl rfl (rd_wrong (x1 := 25) (x2 := (nI (p + 4))) hR1) (fun v261 M262 q263 => ?_)
                  obtain ⟨I264, R265, rfl, hR266, hI267, hX268, hi269, hi270⟩ := q263
                  have hi271 := (hI267 51 (by decide)).trans hl51
                  have hi272 := (hI267 52 (by decide)).trans hl52
                  have hi273 := (hI267 53 (by decide)).trans hl53
                  have hi274 := (hI267 58 (by decide)).trans hl58
                  have hi275 := (hI267 56 (by decide)).trans hl56
                  have hi276 := (hI267 26 (by decide)).trans hl26
                  have hi277 := (hI267 9 (by decide)).trans hl9
                  have hi278 := (hI267 10 (by decide)).trans hl10
                  have hF_279 := hF1.mono (cIx hI267 (by decide)) (cRx hX268 (by decide))
                  have hY_280 := hY1.mono (cIx hI267 (by decide)) (cRx hX268 (by decide))
                  have hP_281 := hP1.mono (cIx hI267 (by decide)) (cRx hX268 (by decide))
                  have hK_282 := hK1.mono (cIx hI267 (by decide)) (cRx hX268 (by decide))
                  have hN9_283 := hN91.mono (cIx hI267 (by decide)) (cRx hX268 (by decide))
                  have hQ_284 := hQ1.mono (cIx hI267 (by decide)) (cRx hX268 (by decide))
                  have hEI285 := hEI1.tr hI267 (by decide)
                  have hER286 := hER1.tr hX268 (by decide)
                  show pl _ _ _ (278, [(0, .ref m0), (1, .int (nI p))], [.int 0], M262) _
                  exact ps_ret rfl rfl (Or.inr ⟨(25, p + 4), I264, R265, by
                      have h25 : mdsN f n E (by2 f (p + 2)) (by2 f (p + 4)) (apN f n E p) = 0 := by
                        have m0_ := mds_0 (f := f) (n := n) (E := E) (x := by2 f (p + 2)) (d := by2 f (p + 4)) (w := apN f n E p)
                        have a0_ := ap_9 (f := f) (n := n) (E := E) (p := p)
                        omega
                      rw [← hs, mtS_st (i := k) (by omega), ← hpk, mh_25 hnm hfl h25], rfl, hR266, hEI285, hER286, hi269, hi270⟩)
              · have c_254 : ¬ (¬ (nI (aN (by2 f p) 8)) = 0) := of_decide_eq_false c_254
                have n_254 : aN (by2 f p) 8 = 0 := (eq_nI (p := aN (by2 f p) 8) (n := 0) (Nat.lt_of_le_of_lt (an_le _ _) (by decide)) (by decide)).mp (Decidable.not_not.mp c_254)
                refine ps_st (S' := (258, [(0, .ref m0), (1, .int (nI p)), (2, .int (nI (by2 f pM))), (3, .int (nI f0)), (4, .int (nI ib)), (5, .int (nI k)), (6, .int (nI (by2 f p))), (7, .int (nI a)), (9, .int (nI i9)), (10, .int (nI s228))], [.int 1, .int (nI (argN (tX f n E (by2 f (p + 4)))))], M1)) rfl rfl rfl ?_
                refine ps_st (S' := (262, [(0, .ref m0), (1, .int (nI p)), (2, .int (nI (by2 f pM))), (3, .int (nI f0)), (4, .int (nI ib)), (5, .int (nI k)), (6, .int (nI (by2 f p))), (7, .int (nI a)), (9, .int (nI i9)), (10, .int (nI s228))], [.int 1, .int (nI (argN (tX f n E (by2 f (p + 4)))))], M1)) rfl rfl rfl ?_
                refine ps_st (S' := (263, [(0, .ref m0), (1, .int (nI p)), (2, .int (nI (by2 f pM))), (3, .int (nI f0)), (4, .int (nI ib)), (5, .int (nI k)), (6, .int (nI (by2 f p))), (7, .int (nI a)), (9, .int (nI i9)), (10, .int (nI s228))], [.int ((nI (argN (tX f n E (by2 f (p + 4))))) + 1)], M1)) rfl rfl rfl ?_
                rw [nI_add1 (p := argN (tX f n E (by2 f (p + 4)))) (k := 1) (x := 1) rfl (by omega)]
                show pl _ _ _ (_, [(0, .ref m0), (1, .int (nI p)), (2, .int (nI (by2 f pM))), (3, .int (nI f0)), (4, .int (nI ib)), (5, .int (nI k)), (6, .int (nI (by2 f p))), (7, .int (nI a)), (9, .int (nI i9)), (10, .int (nI s228))], [.int (nI (argN (tX f n E (by2 f (p + 4))) + 1))], M1) _
                refine ps_st (S' := (266, [(0, .ref m0), (1, .int (nI p)), (2, .int (nI (by2 f pM))), (3, .int (nI f0)), (4, .int (nI ib)), (5, .int (nI k)), (6, .int (nI (by2 f p))), (7, .int (nI a)), (9, .int (nI i9)), (10, .int (nI s228))], [.int 255, .int (nI (argN (tX f n E (by2 f (p + 4))) + 1))], M1)) rfl rfl rfl ?_
                refine ps_if2 (S1 := (279, [(0, .ref m0), (1, .int (nI p)), (2, .int (nI (by2 f pM))), (3, .int (nI f0)), (4, .int (nI ib)), (5, .int (nI k)), (6, .int (nI (by2 f p))), (7, .int (nI a)), (9, .int (nI i9)), (10, .int (nI s228))], [], M1)) (S2 := (269, [(0, .ref m0), (1, .int (nI p))], [], M1)) rfl rfl rfl (fun c_266 => ?_) (fun c_266 => ?_)
                · have c_266 : (nI (argN (tX f n E (by2 f (p + 4))) + 1)) ≤ 255 := of_decide_eq_true c_266
                  have n_266 : argN (tX f n E (by2 f (p + 4))) + 1 ≤ 255 := (le_nI (p := argN (tX f n E (by2 f (p + 4))) + 1) (n := 255) (by omega) (by decide)).mp c_266
                  have hds : ¬ mdsN f n E (by2 f (p + 2)) (by2 f (p + 4)) (apN f n E p) = 0 := by
                    have m0_ := mds_0 (f := f) (n := n) (E := E) (x := by2 f (p + 2)) (d := by2 f (p + 4)) (w := apN f n E p)
                    have a0_ := ap_9 (f := f) (n := n) (E := E) (p := p)
                    omega
                  exact ih.2.2.1 (k) (p) (ib) (a) (i9) (s228) M1 I1 R1 hR1 hEI1 hER1 hl51 hl52 hl53 hl58 hl56 hl26 hl9 hl10 hF1 hY1 hP1 hK1 hN91 hQ1 (hk0) (hpk) (hpe) (hs) (hib) (hsa) (ht1) (hnm) (hfl) (h9c) (q206_s) (by omega) (by omega) (hds)
                · have c_266 : ¬ ((nI (argN (tX f n E (by2 f (p + 4))) + 1)) ≤ 255) := of_decide_eq_false c_266
                  have n_266 : ¬ (argN (tX f n E (by2 f (p + 4))) + 1 ≤ 255) := fun h9 => c_266 ((le_nI (p := argN (tX f n E (by2 f (p + 4))) + 1) (n := 255) (by omega) (by decide)).mpr h9)
                  refine ps_st (S' := (270, [(0, .ref m0), (1, .int (nI p))], [.ref m0], M1)) rfl rfl rfl ?_
                  refine ps_st (S' := (272, [(0, .ref m0), (1, .int (nI p))], [.int 25, .ref m0], M1)) rfl rfl rfl ?_
                  refine ps_st (S' := (273, [(0, .ref m0), (1, .int (nI p))], [.int (nI p), .int 25, .ref m0], M1)) rfl rfl rfl ?_
                  refine ps_st (S' := (274, [(0, .ref m0), (1, .int (nI p))], [.int 4, .int (nI p), .int 25, .ref m0], M1)) rfl rfl rfl ?_
                  refine ps_st (S' := (275, [(0, .ref m0), (1, .int (nI p))], [.int ((nI p) + 4), .int 25, .ref m0], M1)) rfl rfl rfl ?_
                  rw [nI_add1 (p := p) (k := 4) (x := 4) rfl (by omega)]
                  show pl _ _ _ (_, [(0, .ref m0), (1, .int (nI p))], [.int (nI (p + 4)), .int 25, .ref m0], M1) _
                  refine pl_call (a := [.ref m0, .int 25, .int (nI (p + 4))]) (rest := []) rfl rfl rfl (rd_wrong (x1 := 25) (x2 := (nI (p + 4))) hR1) (fun v287 M288 q289 => ?_)
                  obtain ⟨I290, R291, rfl, hR292, hI293, hX294, hi295, hi296⟩ := q289
                  have hi297 := (hI293 51 (by decide)).trans hl51
                  have hi298 := (hI293 52 (by decide)).trans hl52
                  have hi299 := (hI293 53 (by decide)).trans hl53
                  have hi300 := (hI293 58 (by decide)).trans hl58
                  have hi301 := (hI293 56 (by decide)).trans hl56
                  have hi302 := (hI293 26 (by decide)).trans hl26
                  have hi303 := (hI293 9 (by decide)).trans hl9
                  have hi304 := (hI293 10 (by decide)).trans hl10
                  have hF_305 := hF1.mono (cIx hI293 (by decide)) (cRx hX294 (by decide))
                  have hY_306 := hY1.mono (cIx hI293 (by decide)) (cRx hX294 (by decide))
                  have hP_307 := hP1.mono (cIx hI293 (by decide)) (cRx hX294 (by decide))
                  have hK_308 := hK1.mono (cIx hI293 (by decide)) (cRx hX294 (by decide))
                  have hN9_309 := hN91.mono (cIx hI293 (by decide)) (cRx hX294 (by decide))
                  have hQ_310 := hQ1.mono (cIx hI293 (by decide)) (cRx hX294 (by decide))
                  have hEI311 := hEI1.tr hI293 (by decide)
                  have hER312 := hER1.tr hX294 (by decide)
                  show pl _ _ _ (278, [(0, .ref m0), (1, .int (nI p))], [.int 0], M288) _
                  exact ps_ret rfl rfl (Or.inr ⟨(25, p + 4), I290, R291, by
                      have h25 : mdsN f n E (by2 f (p + 2)) (by2 f (p + 4)) (apN f n E p) = 0 := by
                        have m0_ := mds_0 (f := f) (n := n) (E := E) (x := by2 f (p + 2)) (d := by2 f (p + 4)) (w := apN f n E p)
                        have a0_ := ap_9 (f := f) (n := n) (E := E) (p := p)
                        omega
                      rw [← hs, mtS_st (i := k) (by omega), ← hpk, mh_25 hnm hfl h25], rfl, hR292, hEI311, hER312, hi295, hi296⟩)
            · have c_231 : ¬ ((nI i8) = 0) := of_decide_eq_false c_231
              have n_231 : ¬ (i8 = 0) := fun h9 => c_231 ((eq_nI (p := i8) (n := 0) (by omega) (by decide)).mpr h9)
              refine ps_st (S' := (235, [(10, .int (nI s228)), (0, .ref m0), (1, .int (nI p)), (2, .int (nI (by2 f pM))), (3, .int (nI f0)), (4, .int (nI ib)), (5, .int (nI k)), (6, .int (nI (by2 f p))), (7, .int (nI a)), (8, .int (nI i8)), (9, .int (nI i9))], [.ref m0], M1)) rfl rfl rfl ?_
              refine ps_st (S' := (237, [(10, .int (nI s228)), (0, .ref m0), (1, .int (nI p)), (2, .int (nI (by2 f pM))), (3, .int (nI f0)), (4, .int (nI ib)), (5, .int (nI k)), (6, .int (nI (by2 f p))), (7, .int (nI a)), (8, .int (nI i8)), (9, .int (nI i9))], [.int (nI s228), .ref m0], M1)) rfl rfl rfl ?_
              refine pl_call (a := [.ref m0, .int (nI s228)]) (rest := []) rfl rfl rfl (rd_endsV (tx := tx) (cN := cN) (A := A) (s := s228) (l := (tX f n E (by2 f (p + 4)))) hR1 hY1 (q206_s) (by omega)) (fun v313 M314 q315 => ?_)
              obtain ⟨rfl, rfl⟩ := q315
              show pl _ _ _ (240, [(10, .int (nI s228)), (0, .ref m0), (1, .int (nI p)), (2, .int (nI (by2 f pM))), (3, .int (nI f0)), (4, .int (nI ib)), (5, .int (nI k)), (6, .int (nI (by2 f p))), (7, .int (nI a)), (8, .int (nI i8)), (9, .int (nI i9))], [.int (nI (nresN (tX f n E (by2 f (p + 4)))))], M1) _
              refine ps_if (S1 := (269, [(0, .ref m0), (1, .int (nI p))], [], M1)) (S2 := (243, [(0, .ref m0), (1, .int (nI p)), (2, .int (nI (by2 f pM))), (3, .int (nI f0)), (4, .int (nI ib)), (5, .int (nI k)), (6, .int (nI (by2 f p))), (7, .int (nI a)), (9, .int (nI i9)), (10, .int (nI s228))], [], M1)) rfl rfl rfl (fun c_240 => ?_) (fun c_240 => ?_)
              · have c_240 : (nI (nresN (tX f n E (by2 f (p + 4))))) = 0 := of_decide_eq_true c_240
                have n_240 : nresN (tX f n E (by2 f (p + 4))) = 0 := (eq_nI (p := nresN (tX f n E (by2 f (p + 4)))) (n := 0) (Nat.lt_trans (le1_nres _) (by decide)) (by decide)).mp c_240
                refine ps_st (S' := (270, [(0, .ref m0), (1, .int (nI p))], [.ref m0], M1)) rfl rfl rfl ?_
                refine ps_st (S' := (272, [(0, .ref m0), (1, .int (nI p))], [.int 25, .ref m0], M1)) rfl rfl rfl ?_
                refine ps_st (S' := (273, [(0, .ref m0), (1, .int (nI p))], [.int (nI p), .int 25, .ref m0], M1)) rfl rfl rfl ?_
                refine ps_st (S' := (274, [(0, .ref m0), (1, .int (nI p))], [.int 4, .int (nI p), .int 25, .ref m0], M1)) rfl rfl rfl ?_
                refine ps_st (S' := (275, [(0, .ref m0), (1, .int (nI p))], [.int ((nI p) + 4), .int 25, .ref m0], M1)) rfl rfl rfl ?_
                rw [nI_add1 (p := p) (k := 4) (x := 4) rfl (by omega)]
                show pl _ _ _ (_, [(0, .ref m0), (1, .int (nI p))], [.int (nI (p + 4)), .int 25, .ref m0], M1) _
                refine pl_call (a := [.ref m0, .int 25, .int (nI (p + 4))]) (rest := []) rfl rfl rfl (rd_wrong (x1 := 25) (x2 := (nI (p + 4))) hR1) (fun v316 M317 q318 => ?_)
                obtain ⟨I319, R320, rfl, hR321, hI322, hX323, hi324, hi325⟩ := q318
                have hi326 := (hI322 51 (by decide)).trans hl51
                have hi327 := (hI322 52 (by decide)).trans hl52
                have hi328 := (hI322 53 (by decide)).trans hl53
                have hi329 := (hI322 58 (by decide)).trans hl58
                have hi330 := (hI322 56 (by decide)).trans hl56
                have hi331 := (hI322 26 (by decide)).trans hl26
                have hi332 := (hI322 9 (by decide)).trans hl9
                have hi333 := (hI322 10 (by decide)).trans hl10
                have hF_334 := hF1.mono (cIx hI322 (by decide)) (cRx hX323 (by decide))
                have hY_335 := hY1.mono (cIx hI322 (by decide)) (cRx hX323 (by decide))
                have hP_336 := hP1.mono (cIx hI322 (by decide)) (cRx hX323 (by decide))
                have hK_337 := hK1.mono (cIx hI322 (by decide)) (cRx hX323 (by decide))
                have hN9_338 := hN91.mono (cIx hI322 (by decide)) (cRx hX323 (by decide))
                have hQ_339 := hQ1.mono (cIx hI322 (by decide)) (cRx hX323 (by decide))
                have hEI340 := hEI1.tr hI322 (by decide)
                have hER341 := hER1.tr hX323 (by decide)
                show pl _ _ _ (278, [(0, .ref m0), (1, .int (nI p))], [.int 0], M317) _
                exact ps_ret rfl rfl (Or.inr ⟨(25, p + 4), I319, R320, by
                    have h25 : mdsN f n E (by2 f (p + 2)) (by2 f (p + 4)) (apN f n E p) = 0 := by
                      have m0_ := mds_0 (f := f) (n := n) (E := E) (x := by2 f (p + 2)) (d := by2 f (p + 4)) (w := apN f n E p)
                      have a0_ := ap_9 (f := f) (n := n) (E := E) (p := p)
                      omega
                    rw [← hs, mtS_st (i := k) (by omega), ← hpk, mh_25 hnm hfl h25], rfl, hR321, hEI340, hER341, hi324, hi325⟩)
              · have c_240 : ¬ ((nI (nresN (tX f n E (by2 f (p + 4))))) = 0) := of_decide_eq_false c_240
                have n_240 : ¬ (nresN (tX f n E (by2 f (p + 4))) = 0) := fun h9 => c_240 ((eq_nI (p := nresN (tX f n E (by2 f (p + 4)))) (n := 0) (Nat.lt_trans (le1_nres _) (by decide)) (by decide)).mpr h9)
                refine ps_st (S' := (244, [(0, .ref m0), (1, .int (nI p)), (2, .int (nI (by2 f pM))), (3, .int (nI f0)), (4, .int (nI ib)), (5, .int (nI k)), (6, .int (nI (by2 f p))), (7, .int (nI a)), (9, .int (nI i9)), (10, .int (nI s228))], [.ref m0], M1)) rfl rfl rfl ?_
                refine ps_st (S' := (246, [(0, .ref m0), (1, .int (nI p)), (2, .int (nI (by2 f pM))), (3, .int (nI f0)), (4, .int (nI ib)), (5, .int (nI k)), (6, .int (nI (by2 f p))), (7, .int (nI a)), (9, .int (nI i9)), (10, .int (nI s228))], [.int (nI s228), .ref m0], M1)) rfl rfl rfl ?_
                obtain ⟨-, -, k_246, W_246, hq1_246, hq2_246, hq3_246, hq4_246, hq5_246, hq6_246, -⟩ := mth_in (l := (tX f n E (by2 f (p + 4)))) (by omega)
                refine pl_call (a := [.ref m0, .int (nI s228)]) (rest := []) rfl rfl rfl (rd_places0 (tx := tx) (cN := cN) (A := A) (s := s228) (l := (tX f n E (by2 f (p + 4)))) (k0 := k_246) (W := W_246) hR1 hY1 (q206_s) (hq1_246) (⟨by omega, hq5_246⟩)) (fun v342 M343 q344 => ?_)
                obtain ⟨rfl, rfl⟩ := q344
                show pl _ _ _ (249, [(0, .ref m0), (1, .int (nI p)), (2, .int (nI (by2 f pM))), (3, .int (nI f0)), (4, .int (nI ib)), (5, .int (nI k)), (6, .int (nI (by2 f p))), (7, .int (nI a)), (9, .int (nI i9)), (10, .int (nI s228))], [.int (nI (W_246))], M1) _
                rw [← hq6_246]
                show pl _ _ _ (_, [(0, .ref m0), (1, .int (nI p)), (2, .int (nI (by2 f pM))), (3, .int (nI f0)), (4, .int (nI ib)), (5, .int (nI k)), (6, .int (nI (by2 f p))), (7, .int (nI a)), (9, .int (nI i9)), (10, .int (nI s228))], [.int (nI (argN (tX f n E (by2 f (p + 4)))))], M1) _
                have hal_246 := argN_lt (tX f n E (by2 f (p + 4)))
                refine ps_st (S' := (251, [(0, .ref m0), (1, .int (nI p)), (2, .int (nI (by2 f pM))), (3, .int (nI f0)), (4, .int (nI ib)), (5, .int (nI k)), (6, .int (nI (by2 f p))), (7, .int (nI a)), (9, .int (nI i9)), (10, .int (nI s228))], [.int (nI (by2 f p)), .int (nI (argN (tX f n E (by2 f (p + 4)))))], M1)) rfl rfl rfl ?_
                refine ps_st (S' := (253, [(0, .ref m0), (1, .int (nI p)), (2, .int (nI (by2 f pM))), (3, .int (nI f0)), (4, .int (nI ib)), (5, .int (nI k)), (6, .int (nI (by2 f p))), (7, .int (nI a)), (9, .int (nI i9)), (10, .int (nI s228))], [.int 8, .int (nI (by2 f p)), .int (nI (argN (tX f n E (by2 f (p + 4)))))], M1)) rfl rfl rfl ?_
                refine ps_st (S' := (254, [(0, .ref m0), (1, .int (nI p)), (2, .int (nI (by2 f pM))), (3, .int (nI f0)), (4, .int (nI ib)), (5, .int (nI k)), (6, .int (nI (by2 f p))), (7, .int (nI a)), (9, .int (nI i9)), (10, .int (nI s228))], [.int ((nI (by2 f p)) &&& 8), .int (nI (argN (tX f n E (by2 f (p + 4)))))], M1)) rfl rfl rfl ?_
                rw [nI_an (p := by2 f p) (k := 8) (x := 8) rfl]
                show pl _ _ _ (_, [(0, .ref m0), (1, .int (nI p)), (2, .int (nI (by2 f pM))), (3, .int (nI f0)), (4, .int (nI ib)), (5, .int (nI k)), (6, .int (nI (by2 f p))), (7, .int (nI a)), (9, .int (nI i9)), (10, .int (nI s228))], [.int (nI (aN (by2 f p) 8)), .int (nI (argN (tX f n E (by2 f (p + 4)))))], M1) _
                refine ps_if (S1 := (261, [(0, .ref m0), (1, .int (nI p)), (2, .int (nI (by2 f pM))), (3, .int (nI f0)), (4, .int (nI ib)), (5, .int (nI k)), (6, .int (nI (by2 f p))), (7, .int (nI a)), (9, .int (nI i9)), (10, .int (nI s228))], [.int (nI (argN (tX f n E (by2 f (p + 4)))))], M1)) (S2 := (257, [(0, .ref m0), (1, .int (nI p)), (2, .int (nI (by2 f pM))), (3, .int (nI f0)), (4, .int (nI ib)), (5, .int (nI k)), (6, .int (nI (by2 f p))), (7, .int (nI a)), (9, .int (nI i9)), (10, .int (nI s228))], [.int (nI (argN (tX f n E (by2 f (p + 4)))))], M1)) rfl rfl rfl (fun c_254 => ?_) (fun c_254 => ?_)
                · have c_254 : ¬ (nI (aN (by2 f p) 8)) = 0 := of_decide_eq_true c_254
                  have n_254 : ¬ (aN (by2 f p) 8 = 0) := fun h9 => c_254 ((eq_nI (p := aN (by2 f p) 8) (n := 0) (Nat.lt_of_le_of_lt (an_le _ _) (by decide)) (by decide)).mpr h9)
                  refine ps_st (S' := (262, [(0, .ref m0), (1, .int (nI p)), (2, .int (nI (by2 f pM))), (3, .int (nI f0)), (4, .int (nI ib)), (5, .int (nI k)), (6, .int (nI (by2 f p))), (7, .int (nI a)), (9, .int (nI i9)), (10, .int (nI s228))], [.int 0, .int (nI (argN (tX f n E (by2 f (p + 4)))))], M1)) rfl rfl rfl ?_
                  refine ps_st (S' := (263, [(0, .ref m0), (1, .int (nI p)), (2, .int (nI (by2 f pM))), (3, .int (nI f0)), (4, .int (nI ib)), (5, .int (nI k)), (6, .int (nI (by2 f p))), (7, .int (nI a)), (9, .int (nI i9)), (10, .int (nI s228))], [.int ((nI (argN (tX f n E (by2 f (p + 4))))) + 0)], M1)) rfl rfl rfl ?_
                  rw [nI_add1 (p := argN (tX f n E (by2 f (p + 4)))) (k := 0) (x := 0) rfl (by omega)]
                  show pl _ _ _ (_, [(0, .ref m0), (1, .int (nI p)), (2, .int (nI (by2 f pM))), (3, .int (nI f0)), (4, .int (nI ib)), (5, .int (nI k)), (6, .int (nI (by2 f p))), (7, .int (nI a)), (9, .int (nI i9)), (10, .int (nI s228))], [.int (nI (argN (tX f n E (by2 f (p + 4))) + 0))], M1) _
                  refine ps_st (S' := (266, [(0, .ref m0), (1, .int (nI p)), (2, .int (nI (by2 f pM))), (3, .int (nI f0)), (4, .int (nI ib)), (5, .int (nI k)), (6, .int (nI (by2 f p))), (7, .int (nI a)), (9, .int (nI i9)), (10, .int (nI s228))], [.int 255, .int (nI (argN (tX f n E (by2 f (p + 4))) + 0))], M1)) rfl rfl rfl ?_
                  refine ps_if2 (S1 := (279, [(0, .ref m0), (1, .int (nI p)), (2, .int (nI (by2 f pM))), (3, .int (nI f0)), (4, .int (nI ib)), (5, .int (nI k)), (6, .int (nI (by2 f p))), (7, .int (nI a)), (9, .int (nI i9)), (10, .int (nI s228))], [], M1)) (S2 := (269, [(0, .ref m0), (1, .int (nI p))], [], M1)) rfl rfl rfl (fun c_266 => ?_) (fun c_266 => ?_)
                  · have c_266 : (nI (argN (tX f n E (by2 f (p + 4))) + 0)) ≤ 255 := of_decide_eq_true c_266
                    have n_266 : argN (tX f n E (by2 f (p + 4))) + 0 ≤ 255 := (le_nI (p := argN (tX f n E (by2 f (p + 4))) + 0) (n := 255) (by omega) (by decide)).mp c_266
                    have hds : ¬ mdsN f n E (by2 f (p + 2)) (by2 f (p + 4)) (apN f n E p) = 0 := by
                      have m0_ := mds_0 (f := f) (n := n) (E := E) (x := by2 f (p + 2)) (d := by2 f (p + 4)) (w := apN f n E p)
                      have a0_ := ap_9 (f := f) (n := n) (E := E) (p := p)
                      omega
                    exact ih.2.2.1 (k) (p) (ib) (a) (i9) (s228) M1 I1 R1 hR1 hEI1 hER1 hl51 hl52 hl53 hl58 hl56 hl26 hl9 hl10 hF1 hY1 hP1 hK1 hN91 hQ1 (hk0) (hpk) (hpe) (hs) (hib) (hsa) (ht1) (hnm) (hfl) (h9c) (q206_s) (by omega) (by omega) (hds)
                  · have c_266 : ¬ ((nI (argN (tX f n E (by2 f (p + 4))) + 0)) ≤ 255) := of_decide_eq_false c_266
                    have n_266 : ¬ (argN (tX f n E (by2 f (p + 4))) + 0 ≤ 255) := fun h9 => c_266 ((le_nI (p := argN (tX f n E (by2 f (p + 4))) + 0) (n := 255) (by omega) (by decide)).mpr h9)
                    refine ps_st (S' := (270, [(0, .ref m0), (1, .int (nI p))], [.ref m0], M1)) rfl rfl rfl ?_
                    refine ps_st (S' := (272, [(0, .ref m0), (1, .int (nI p))], [.int 25, .ref m0], M1)) rfl rfl rfl ?_
                    refine ps_st (S' := (273, [(0, .ref m0), (1, .int (nI p))], [.int (nI p), .int 25, .ref m0], M1)) rfl rfl rfl ?_
                    refine ps_st (S' := (274, [(0, .ref m0), (1, .int (nI p))], [.int 4, .int (nI p), .int 25, .ref m0], M1)) rfl rfl rfl ?_
                    refine ps_st (S' := (275, [(0, .ref m0), (1, .int (nI p))], [.int ((nI p) + 4), .int 25, .ref m0], M1)) rfl rfl rfl ?_
                    rw [nI_add1 (p := p) (k := 4) (x := 4) rfl (by omega)]
                    show pl _ _ _ (_, [(0, .ref m0), (1, .int (nI p))], [.int (nI (p + 4)), .int 25, .ref m0], M1) _
                    refine pl_call (a := [.ref m0, .int 25, .int (nI (p + 4))]) (rest := []) rfl rfl rfl (rd_wrong (x1 := 25) (x2 := (nI (p + 4))) hR1) (fun v345 M346 q347 => ?_)
                    obtain ⟨I348, R349, rfl, hR350, hI351, hX352, hi353, hi354⟩ := q347
                    have hi355 := (hI351 51 (by decide)).trans hl51
                    have hi356 := (hI351 52 (by decide)).trans hl52
                    have hi357 := (hI351 53 (by decide)).trans hl53
                    have hi358 := (hI351 58 (by decide)).trans hl58
                    have hi359 := (hI351 56 (by decide)).trans hl56
                    have hi360 := (hI351 26 (by decide)).trans hl26
                    have hi361 := (hI351 9 (by decide)).trans hl9
                    have hi362 := (hI351 10 (by decide)).trans hl10
                    have hF_363 := hF1.mono (cIx hI351 (by decide)) (cRx hX352 (by decide))
                    have hY_364 := hY1.mono (cIx hI351 (by decide)) (cRx hX352 (by decide))
                    have hP_365 := hP1.mono (cIx hI351 (by decide)) (cRx hX352 (by decide))
                    have hK_366 := hK1.mono (cIx hI351 (by decide)) (cRx hX352 (by decide))
                    have hN9_367 := hN91.mono (cIx hI351 (by decide)) (cRx hX352 (by decide))
                    have hQ_368 := hQ1.mono (cIx hI351 (by decide)) (cRx hX352 (by decide))
                    have hEI369 := hEI1.tr hI351 (by decide)
                    have hER370 := hER1.tr hX352 (by decide)
                    show pl _ _ _ (278, [(0, .ref m0), (1, .int (nI p))], [.int 0], M346) _
                    exact ps_ret rfl rfl (Or.inr ⟨(25, p + 4), I348, R349, by
                        have h25 : mdsN f n E (by2 f (p + 2)) (by2 f (p + 4)) (apN f n E p) = 0 := by
                          have m0_ := mds_0 (f := f) (n := n) (E := E) (x := by2 f (p + 2)) (d := by2 f (p + 4)) (w := apN f n E p)
                          have a0_ := ap_9 (f := f) (n := n) (E := E) (p := p)
                          omega
                        rw [← hs, mtS_st (i := k) (by omega), ← hpk, mh_25 hnm hfl h25], rfl, hR350, hEI369, hER370, hi353, hi354⟩)
                · have c_254 : ¬ (¬ (nI (aN (by2 f p) 8)) = 0) := of_decide_eq_false c_254
                  have n_254 : aN (by2 f p) 8 = 0 := (eq_nI (p := aN (by2 f p) 8) (n := 0) (Nat.lt_of_le_of_lt (an_le _ _) (by decide)) (by decide)).mp (Decidable.not_not.mp c_254)
                  refine ps_st (S' := (258, [(0, .ref m0), (1, .int (nI p)), (2, .int (nI (by2 f pM))), (3, .int (nI f0)), (4, .int (nI ib)), (5, .int (nI k)), (6, .int (nI (by2 f p))), (7, .int (nI a)), (9, .int (nI i9)), (10, .int (nI s228))], [.int 1, .int (nI (argN (tX f n E (by2 f (p + 4)))))], M1)) rfl rfl rfl ?_
                  refine ps_st (S' := (262, [(0, .ref m0), (1, .int (nI p)), (2, .int (nI (by2 f pM))), (3, .int (nI f0)), (4, .int (nI ib)), (5, .int (nI k)), (6, .int (nI (by2 f p))), (7, .int (nI a)), (9, .int (nI i9)), (10, .int (nI s228))], [.int 1, .int (nI (argN (tX f n E (by2 f (p + 4)))))], M1)) rfl rfl rfl ?_
                  refine ps_st (S' := (263, [(0, .ref m0), (1, .int (nI p)), (2, .int (nI (by2 f pM))), (3, .int (nI f0)), (4, .int (nI ib)), (5, .int (nI k)), (6, .int (nI (by2 f p))), (7, .int (nI a)), (9, .int (nI i9)), (10, .int (nI s228))], [.int ((nI (argN (tX f n E (by2 f (p + 4))))) + 1)], M1)) rfl rfl rfl ?_
                  rw [nI_add1 (p := argN (tX f n E (by2 f (p + 4)))) (k := 1) (x := 1) rfl (by omega)]
                  show pl _ _ _ (_, [(0, .ref m0), (1, .int (nI p)), (2, .int (nI (by2 f pM))), (3, .int (nI f0)), (4, .int (nI ib)), (5, .int (nI k)), (6, .int (nI (by2 f p))), (7, .int (nI a)), (9, .int (nI i9)), (10, .int (nI s228))], [.int (nI (argN (tX f n E (by2 f (p + 4))) + 1))], M1) _
                  refine ps_st (S' := (266, [(0, .ref m0), (1, .int (nI p)), (2, .int (nI (by2 f pM))), (3, .int (nI f0)), (4, .int (nI ib)), (5, .int (nI k)), (6, .int (nI (by2 f p))), (7, .int (nI a)), (9, .int (nI i9)), (10, .int (nI s228))], [.int 255, .int (nI (argN (tX f n E (by2 f (p + 4))) + 1))], M1)) rfl rfl rfl ?_
                  refine ps_if2 (S1 := (279, [(0, .ref m0), (1, .int (nI p)), (2, .int (nI (by2 f pM))), (3, .int (nI f0)), (4, .int (nI ib)), (5, .int (nI k)), (6, .int (nI (by2 f p))), (7, .int (nI a)), (9, .int (nI i9)), (10, .int (nI s228))], [], M1)) (S2 := (269, [(0, .ref m0), (1, .int (nI p))], [], M1)) rfl rfl rfl (fun c_266 => ?_) (fun c_266 => ?_)
                  · have c_266 : (nI (argN (tX f n E (by2 f (p + 4))) + 1)) ≤ 255 := of_decide_eq_true c_266
                    have n_266 : argN (tX f n E (by2 f (p + 4))) + 1 ≤ 255 := (le_nI (p := argN (tX f n E (by2 f (p + 4))) + 1) (n := 255) (by omega) (by decide)).mp c_266
                    have hds : ¬ mdsN f n E (by2 f (p + 2)) (by2 f (p + 4)) (apN f n E p) = 0 := by
                      have m0_ := mds_0 (f := f) (n := n) (E := E) (x := by2 f (p + 2)) (d := by2 f (p + 4)) (w := apN f n E p)
                      have a0_ := ap_9 (f := f) (n := n) (E := E) (p := p)
                      omega
                    exact ih.2.2.1 (k) (p) (ib) (a) (i9) (s228) M1 I1 R1 hR1 hEI1 hER1 hl51 hl52 hl53 hl58 hl56 hl26 hl9 hl10 hF1 hY1 hP1 hK1 hN91 hQ1 (hk0) (hpk) (hpe) (hs) (hib) (hsa) (ht1) (hnm) (hfl) (h9c) (q206_s) (by omega) (by omega) (hds)
                  · have c_266 : ¬ ((nI (argN (tX f n E (by2 f (p + 4))) + 1)) ≤ 255) := of_decide_eq_false c_266
                    have n_266 : ¬ (argN (tX f n E (by2 f (p + 4))) + 1 ≤ 255) := fun h9 => c_266 ((le_nI (p := argN (tX f n E (by2 f (p + 4))) + 1) (n := 255) (by omega) (by decide)).mpr h9)
                    refine ps_st (S' := (270, [(0, .ref m0), (1, .int (nI p))], [.ref m0], M1)) rfl rfl rfl ?_
                    refine ps_st (S' := (272, [(0, .ref m0), (1, .int (nI p))], [.int 25, .ref m0], M1)) rfl rfl rfl ?_
                    refine ps_st (S' := (273, [(0, .ref m0), (1, .int (nI p))], [.int (nI p), .int 25, .ref m0], M1)) rfl rfl rfl ?_
                    refine ps_st (S' := (274, [(0, .ref m0), (1, .int (nI p))], [.int 4, .int (nI p), .int 25, .ref m0], M1)) rfl rfl rfl ?_
                    refine ps_st (S' := (275, [(0, .ref m0), (1, .int (nI p))], [.int ((nI p) + 4), .int 25, .ref m0], M1)) rfl rfl rfl ?_
                    rw [nI_add1 (p := p) (k := 4) (x := 4) rfl (by omega)]
                    show pl _ _ _ (_, [(0, .ref m0), (1, .int (nI p))], [.int (nI (p + 4)), .int 25, .ref m0], M1) _
                    refine pl_call (a := [.ref m0, .int 25, .int (nI (p + 4))]) (rest := []) rfl rfl rfl (rd_wrong (x1 := 25) (x2 := (nI (p + 4))) hR1) (fun v371 M372 q373 => ?_)
                    obtain ⟨I374, R375, rfl, hR376, hI377, hX378, hi379, hi380⟩ := q373
                    have hi381 := (hI377 51 (by decide)).trans hl51
                    have hi382 := (hI377 52 (by decide)).trans hl52
                    have hi383 := (hI377 53 (by decide)).trans hl53
                    have hi384 := (hI377 58 (by decide)).trans hl58
                    have hi385 := (hI377 56 (by decide)).trans hl56
                    have hi386 := (hI377 26 (by decide)).trans hl26
                    have hi387 := (hI377 9 (by decide)).trans hl9
                    have hi388 := (hI377 10 (by decide)).trans hl10
                    have hF_389 := hF1.mono (cIx hI377 (by decide)) (cRx hX378 (by decide))
                    have hY_390 := hY1.mono (cIx hI377 (by decide)) (cRx hX378 (by decide))
                    have hP_391 := hP1.mono (cIx hI377 (by decide)) (cRx hX378 (by decide))
                    have hK_392 := hK1.mono (cIx hI377 (by decide)) (cRx hX378 (by decide))
                    have hN9_393 := hN91.mono (cIx hI377 (by decide)) (cRx hX378 (by decide))
                    have hQ_394 := hQ1.mono (cIx hI377 (by decide)) (cRx hX378 (by decide))
                    have hEI395 := hEI1.tr hI377 (by decide)
                    have hER396 := hER1.tr hX378 (by decide)
                    show pl _ _ _ (278, [(0, .ref m0), (1, .int (nI p))], [.int 0], M372) _
                    exact ps_ret rfl rfl (Or.inr ⟨(25, p + 4), I374, R375, by
                        have h25 : mdsN f n E (by2 f (p + 2)) (by2 f (p + 4)) (apN f n E p) = 0 := by
                          have m0_ := mds_0 (f := f) (n := n) (E := E) (x := by2 f (p + 2)) (d := by2 f (p + 4)) (w := apN f n E p)
                          have a0_ := ap_9 (f := f) (n := n) (E := E) (p := p)
                          omega
                        rw [← hs, mtS_st (i := k) (by omega), ← hpk, mh_25 hnm hfl h25], rfl, hR376, hEI395, hER396, hi379, hi380⟩)
      · skip
        intro k p ib a i9 d M1 I1 R1 hR1 hEI1 hER1 hl51 hl52 hl53 hl58 hl56 hl26 hl9 hl10 hF1 hY1 hP1 hK1 hN91 hQ1 hk0 hpk hpe hs hib hsa ht1 hnm hfl h9c hsd ht2 hmt hds
        have hn := hF1.1
        have hu9 := by2_lt f pM
        have htl := hY1.1.2.2.1
        have hBl := hMB.1
        have hi7 := hsi.1
        have hc7 := hsc.1
        have hu8 := by2_lt f p
        have hsa1 := hsa.1
        have hsd1 := hsd.1
        refine ps_st1 (S' := (280, [(0, .ref m0), (1, .int (nI p)), (2, .int (nI (by2 f pM))), (3, .int (nI f0)), (4, .int (nI ib)), (5, .int (nI k)), (6, .int (nI (by2 f p))), (7, .int (nI a)), (9, .int (nI i9)), (10, .int (nI d))], [.ref m0], M1)) rfl rfl rfl ?_
        refine pr_int (j := 26) (S' := (283, [(0, .ref m0), (1, .int (nI p)), (2, .int (nI (by2 f pM))), (3, .int (nI f0)), (4, .int (nI ib)), (5, .int (nI k)), (6, .int (nI (by2 f p))), (7, .int (nI a)), (9, .int (nI i9)), (10, .int (nI d))], [.int (nI (f0 + k))], M1)) rfl hR1 rfl hl26 rfl ?_
        refine ps_st (S' := (285, [(11, .int (nI (f0 + k))), (0, .ref m0), (1, .int (nI p)), (2, .int (nI (by2 f pM))), (3, .int (nI f0)), (4, .int (nI ib)), (5, .int (nI k)), (6, .int (nI (by2 f p))), (7, .int (nI a)), (9, .int (nI i9)), (10, .int (nI d))], [], M1)) rfl rfl rfl ?_
        refine ps_st (S' := (286, [(11, .int (nI (f0 + k))), (0, .ref m0), (1, .int (nI p)), (2, .int (nI (by2 f pM))), (3, .int (nI f0)), (4, .int (nI ib)), (5, .int (nI k)), (6, .int (nI (by2 f p))), (7, .int (nI a)), (9, .int (nI i9)), (10, .int (nI d))], [.ref m0], M1)) rfl rfl rfl ?_
        refine pr_ref (j := 34) (S' := (289, [(11, .int (nI (f0 + k))), (0, .ref m0), (1, .int (nI p)), (2, .int (nI (by2 f pM))), (3, .int (nI f0)), (4, .int (nI ib)), (5, .int (nI k)), (6, .int (nI (by2 f p))), (7, .int (nI a)), (9, .int (nI i9)), (10, .int (nI d))], [.ref (q 34)], M1)) rfl hR1 rfl rfl ?_
        refine ps_st (S' := (291, [(11, .int (nI (f0 + k))), (0, .ref m0), (1, .int (nI p)), (2, .int (nI (by2 f pM))), (3, .int (nI f0)), (4, .int (nI ib)), (5, .int (nI k)), (6, .int (nI (by2 f p))), (7, .int (nI a)), (9, .int (nI i9)), (10, .int (nI d))], [.int (nI (f0 + k)), .ref (q 34)], M1)) rfl rfl rfl ?_
        refine ps_st (S' := (293, [(11, .int (nI (f0 + k))), (0, .ref m0), (1, .int (nI p)), (2, .int (nI (by2 f pM))), (3, .int (nI f0)), (4, .int (nI ib)), (5, .int (nI k)), (6, .int (nI (by2 f p))), (7, .int (nI a)), (9, .int (nI i9)), (10, .int (nI d))], [.int (nI (by2 f p)), .int (nI (f0 + k)), .ref (q 34)], M1)) rfl rfl rfl ?_
        refine pr_st (a := 34) (j := f0 + k) rfl hR1 rfl (by omega) (fun M397 R398 i1_293 hR399 hS400 => ?_)
        have hF_401 := hF1.mono (fun _ _ => rfl) (rRx hS400 (by decide))
        have hY_402 := hY1.mono (fun _ _ => rfl) (rRx hS400 (by decide))
        have hP_403 := hP1.mono (fun _ _ => rfl) (rRx hS400 (by decide))
        have hK_404 := hK1.mono (fun _ _ => rfl) (rRx hS400 (by decide))
        have hN9_405 := hN91.mono (fun _ _ => rfl) (rRx hS400 (by decide))
        have hER406 := hER1.st hS400 (by decide)
        show pl _ _ _ (294, [(11, .int (nI (f0 + k))), (0, .ref m0), (1, .int (nI p)), (2, .int (nI (by2 f pM))), (3, .int (nI f0)), (4, .int (nI ib)), (5, .int (nI k)), (6, .int (nI (by2 f p))), (7, .int (nI a)), (9, .int (nI i9)), (10, .int (nI d))], [], M397) _
        have c34_407 : CE 34 (f0 + k) (nI (by2 f p)) I1 R398 := CE.st hS400
        have hQ_408 := MQX.st (I' := I1) hQ1 hS400 rfl
        refine ps_st (S' := (295, [(11, .int (nI (f0 + k))), (0, .ref m0), (1, .int (nI p)), (2, .int (nI (by2 f pM))), (3, .int (nI f0)), (4, .int (nI ib)), (5, .int (nI k)), (6, .int (nI (by2 f p))), (7, .int (nI a)), (9, .int (nI i9)), (10, .int (nI d))], [.ref m0], M397)) rfl rfl rfl ?_
        refine pr_ref (j := 35) (S' := (298, [(11, .int (nI (f0 + k))), (0, .ref m0), (1, .int (nI p)), (2, .int (nI (by2 f pM))), (3, .int (nI f0)), (4, .int (nI ib)), (5, .int (nI k)), (6, .int (nI (by2 f p))), (7, .int (nI a)), (9, .int (nI i9)), (10, .int (nI d))], [.ref (q 35)], M397)) rfl hR399 rfl rfl ?_
        refine ps_st (S' := (300, [(11, .int (nI (f0 + k))), (0, .ref m0), (1, .int (nI p)), (2, .int (nI (by2 f pM))), (3, .int (nI f0)), (4, .int (nI ib)), (5, .int (nI k)), (6, .int (nI (by2 f p))), (7, .int (nI a)), (9, .int (nI i9)), (10, .int (nI d))], [.int (nI (f0 + k)), .ref (q 35)], M397)) rfl rfl rfl ?_
        refine ps_st (S' := (302, [(11, .int (nI (f0 + k))), (0, .ref m0), (1, .int (nI p)), (2, .int (nI (by2 f pM))), (3, .int (nI f0)), (4, .int (nI ib)), (5, .int (nI k)), (6, .int (nI (by2 f p))), (7, .int (nI a)), (9, .int (nI i9)), (10, .int (nI d))], [.int (nI a), .int (nI (f0 + k)), .ref (q 35)], M397)) rfl rfl rfl ?_
        refine pr_st (a := 35) (j := f0 + k) rfl hR399 rfl (by omega) (fun M409 R410 i1_302 hR411 hS412 => ?_)
        have hF_413 := hF_401.mono (fun _ _ => rfl) (rRx hS412 (by decide))
        have hY_414 := hY_402.mono (fun _ _ => rfl) (rRx hS412 (by decide))
        have hP_415 := hP_403.mono (fun _ _ => rfl) (rRx hS412 (by decide))
        have hK_416 := hK_404.mono (fun _ _ => rfl) (rRx hS412 (by decide))
        have c34_417 := c34_407.mono (fun _ _ => rfl) (rRx hS412 (by decide))
        have hQ_418 := hQ_408.mono (fun _ _ => rfl) (rRx hS412 (by decide))
        have hER419 := hER406.st hS412 (by decide)
        show pl _ _ _ (303, [(11, .int (nI (f0 + k))), (0, .ref m0), (1, .int (nI p)), (2, .int (nI (by2 f pM))), (3, .int (nI f0)), (4, .int (nI ib)), (5, .int (nI k)), (6, .int (nI (by2 f p))), (7, .int (nI a)), (9, .int (nI i9)), (10, .int (nI d))], [], M409) _
        have c35_420 : CE 35 (f0 + k) (nI a) I1 R410 := CE.st hS412
        have hN9_421 := FN.st (I' := I1) hN9_405 hS412 rfl
        refine ps_st (S' := (304, [(11, .int (nI (f0 + k))), (0, .ref m0), (1, .int (nI p)), (2, .int (nI (by2 f pM))), (3, .int (nI f0)), (4, .int (nI ib)), (5, .int (nI k)), (6, .int (nI (by2 f p))), (7, .int (nI a)), (9, .int (nI i9)), (10, .int (nI d))], [.ref m0], M409)) rfl rfl rfl ?_
        refine pr_ref (j := 36) (S' := (307, [(11, .int (nI (f0 + k))), (0, .ref m0), (1, .int (nI p)), (2, .int (nI (by2 f pM))), (3, .int (nI f0)), (4, .int (nI ib)), (5, .int (nI k)), (6, .int (nI (by2 f p))), (7, .int (nI a)), (9, .int (nI i9)), (10, .int (nI d))], [.ref (q 36)], M409)) rfl hR411 rfl rfl ?_
        refine ps_st (S' := (309, [(11, .int (nI (f0 + k))), (0, .ref m0), (1, .int (nI p)), (2, .int (nI (by2 f pM))), (3, .int (nI f0)), (4, .int (nI ib)), (5, .int (nI k)), (6, .int (nI (by2 f p))), (7, .int (nI a)), (9, .int (nI i9)), (10, .int (nI d))], [.int (nI (f0 + k)), .ref (q 36)], M409)) rfl rfl rfl ?_
        refine ps_st (S' := (311, [(11, .int (nI (f0 + k))), (0, .ref m0), (1, .int (nI p)), (2, .int (nI (by2 f pM))), (3, .int (nI f0)), (4, .int (nI ib)), (5, .int (nI k)), (6, .int (nI (by2 f p))), (7, .int (nI a)), (9, .int (nI i9)), (10, .int (nI d))], [.int (nI d), .int (nI (f0 + k)), .ref (q 36)], M409)) rfl rfl rfl ?_
        refine pr_st (a := 36) (j := f0 + k) rfl hR411 rfl (by omega) (fun M422 R423 i1_311 hR424 hS425 => ?_)
        have hF_426 := hF_413.mono (fun _ _ => rfl) (rRx hS425 (by decide))
        have hY_427 := hY_414.mono (fun _ _ => rfl) (rRx hS425 (by decide))
        have hP_428 := hP_415.mono (fun _ _ => rfl) (rRx hS425 (by decide))
        have hK_429 := hK_416.mono (fun _ _ => rfl) (rRx hS425 (by decide))
        have c34_430 := c34_417.mono (fun _ _ => rfl) (rRx hS425 (by decide))
        have hQ_431 := hQ_418.mono (fun _ _ => rfl) (rRx hS425 (by decide))
        have c35_432 := c35_420.mono (fun _ _ => rfl) (rRx hS425 (by decide))
        have hER433 := hER419.st hS425 (by decide)
        show pl _ _ _ (312, [(11, .int (nI (f0 + k))), (0, .ref m0), (1, .int (nI p)), (2, .int (nI (by2 f pM))), (3, .int (nI f0)), (4, .int (nI ib)), (5, .int (nI k)), (6, .int (nI (by2 f p))), (7, .int (nI a)), (9, .int (nI i9)), (10, .int (nI d))], [], M422) _
        have c36_434 : CE 36 (f0 + k) (nI d) I1 R423 := CE.st hS425
        have hN9_435 := FN.st (I' := I1) hN9_421 hS425 rfl
        refine ps_st (S' := (313, [(11, .int (nI (f0 + k))), (0, .ref m0), (1, .int (nI p)), (2, .int (nI (by2 f pM))), (3, .int (nI f0)), (4, .int (nI ib)), (5, .int (nI k)), (6, .int (nI (by2 f p))), (7, .int (nI a)), (9, .int (nI i9)), (10, .int (nI d))], [.ref m0], M422)) rfl rfl rfl ?_
        refine pr_ref (j := 37) (S' := (316, [(11, .int (nI (f0 + k))), (0, .ref m0), (1, .int (nI p)), (2, .int (nI (by2 f pM))), (3, .int (nI f0)), (4, .int (nI ib)), (5, .int (nI k)), (6, .int (nI (by2 f p))), (7, .int (nI a)), (9, .int (nI i9)), (10, .int (nI d))], [.ref (q 37)], M422)) rfl hR424 rfl rfl ?_
        refine ps_st (S' := (318, [(11, .int (nI (f0 + k))), (0, .ref m0), (1, .int (nI p)), (2, .int (nI (by2 f pM))), (3, .int (nI f0)), (4, .int (nI ib)), (5, .int (nI k)), (6, .int (nI (by2 f p))), (7, .int (nI a)), (9, .int (nI i9)), (10, .int (nI d))], [.int (nI (f0 + k)), .ref (q 37)], M422)) rfl rfl rfl ?_
        refine ps_st (S' := (319, [(11, .int (nI (f0 + k))), (0, .ref m0), (1, .int (nI p)), (2, .int (nI (by2 f pM))), (3, .int (nI f0)), (4, .int (nI ib)), (5, .int (nI k)), (6, .int (nI (by2 f p))), (7, .int (nI a)), (9, .int (nI i9)), (10, .int (nI d))], [.int (-1), .int (nI (f0 + k)), .ref (q 37)], M422)) rfl rfl rfl ?_
        refine pr_st (a := 37) (j := f0 + k) rfl hR424 rfl (by omega) (fun M436 R437 i1_319 hR438 hS439 => ?_)
        have hF_440 := hF_426.mono (fun _ _ => rfl) (rRx hS439 (by decide))
        have hY_441 := hY_427.mono (fun _ _ => rfl) (rRx hS439 (by decide))
        have hP_442 := hP_428.mono (fun _ _ => rfl) (rRx hS439 (by decide))
        have hK_443 := hK_429.mono (fun _ _ => rfl) (rRx hS439 (by decide))
        have c34_444 := c34_430.mono (fun _ _ => rfl) (rRx hS439 (by decide))
        have c35_445 := c35_432.mono (fun _ _ => rfl) (rRx hS439 (by decide))
        have c36_446 := c36_434.mono (fun _ _ => rfl) (rRx hS439 (by decide))
        have hN9_447 := hN9_435.mono (fun _ _ => rfl) (rRx hS439 (by decide))
        have hER448 := hER433.st hS439 (by decide)
        show pl _ _ _ (320, [(11, .int (nI (f0 + k))), (0, .ref m0), (1, .int (nI p)), (2, .int (nI (by2 f pM))), (3, .int (nI f0)), (4, .int (nI ib)), (5, .int (nI k)), (6, .int (nI (by2 f p))), (7, .int (nI a)), (9, .int (nI i9)), (10, .int (nI d))], [], M436) _
        have hC_449 : CX 0 (f0 + k) I1 R437 := by unfold CX; rw [if_pos rfl, hS439, rset_at]
        have c37_450 : CE 37 (f0 + k) (-1) I1 R437 := CE.st hS439
        have hQ_451 := MQX.st (I' := I1) hQ_431 hS439 rfl
        refine ps_st (S' := (321, [(11, .int (nI (f0 + k))), (0, .ref m0), (1, .int (nI p)), (2, .int (nI (by2 f pM))), (3, .int (nI f0)), (4, .int (nI ib)), (5, .int (nI k)), (6, .int (nI (by2 f p))), (7, .int (nI a)), (9, .int (nI i9)), (10, .int (nI d))], [.ref m0], M436)) rfl rfl rfl ?_
        refine pr_ref (j := 38) (S' := (324, [(11, .int (nI (f0 + k))), (0, .ref m0), (1, .int (nI p)), (2, .int (nI (by2 f pM))), (3, .int (nI f0)), (4, .int (nI ib)), (5, .int (nI k)), (6, .int (nI (by2 f p))), (7, .int (nI a)), (9, .int (nI i9)), (10, .int (nI d))], [.ref (q 38)], M436)) rfl hR438 rfl rfl ?_
        refine ps_st (S' := (326, [(11, .int (nI (f0 + k))), (0, .ref m0), (1, .int (nI p)), (2, .int (nI (by2 f pM))), (3, .int (nI f0)), (4, .int (nI ib)), (5, .int (nI k)), (6, .int (nI (by2 f p))), (7, .int (nI a)), (9, .int (nI i9)), (10, .int (nI d))], [.int (nI (f0 + k)), .ref (q 38)], M436)) rfl rfl rfl ?_
        refine ps_st (S' := (327, [(11, .int (nI (f0 + k))), (0, .ref m0), (1, .int (nI p)), (2, .int (nI (by2 f pM))), (3, .int (nI f0)), (4, .int (nI ib)), (5, .int (nI k)), (6, .int (nI (by2 f p))), (7, .int (nI a)), (9, .int (nI i9)), (10, .int (nI d))], [.int 0, .int (nI (f0 + k)), .ref (q 38)], M436)) rfl rfl rfl ?_
        refine pr_st (a := 38) (j := f0 + k) rfl hR438 rfl (by omega) (fun M452 R453 i1_327 hR454 hS455 => ?_)
        have hF_456 := hF_440.mono (fun _ _ => rfl) (rRx hS455 (by decide))
        have hY_457 := hY_441.mono (fun _ _ => rfl) (rRx hS455 (by decide))
        have hP_458 := hP_442.mono (fun _ _ => rfl) (rRx hS455 (by decide))
        have hK_459 := hK_443.mono (fun _ _ => rfl) (rRx hS455 (by decide))
        have c34_460 := c34_444.mono (fun _ _ => rfl) (rRx hS455 (by decide))
        have c35_461 := c35_445.mono (fun _ _ => rfl) (rRx hS455 (by decide))
        have c36_462 := c36_446.mono (fun _ _ => rfl) (rRx hS455 (by decide))
        have hN9_463 := hN9_447.mono (fun _ _ => rfl) (rRx hS455 (by decide))
        have hC_464 := hC_449.mono (fun _ _ => rfl) (rRx hS455 (by decide))
        have c37_465 := c37_450.mono (fun _ _ => rfl) (rRx hS455 (by decide))
        have hER466 := hER448.st hS455 (by decide)
        show pl _ _ _ (328, [(11, .int (nI (f0 + k))), (0, .ref m0), (1, .int (nI p)), (2, .int (nI (by2 f pM))), (3, .int (nI f0)), (4, .int (nI ib)), (5, .int (nI k)), (6, .int (nI (by2 f p))), (7, .int (nI a)), (9, .int (nI i9)), (10, .int (nI d))], [], M452) _
        have c38_467 : CE 38 (f0 + k) 0 I1 R453 := CE.st hS455
        have hQ_468 := MQX.st (I' := I1) hQ_451 hS455 rfl
        refine ps_st (S' := (329, [(11, .int (nI (f0 + k))), (0, .ref m0), (1, .int (nI p)), (2, .int (nI (by2 f pM))), (3, .int (nI f0)), (4, .int (nI ib)), (5, .int (nI k)), (6, .int (nI (by2 f p))), (7, .int (nI a)), (9, .int (nI i9)), (10, .int (nI d))], [.ref m0], M452)) rfl rfl rfl ?_
        refine pr_ref (j := 39) (S' := (332, [(11, .int (nI (f0 + k))), (0, .ref m0), (1, .int (nI p)), (2, .int (nI (by2 f pM))), (3, .int (nI f0)), (4, .int (nI ib)), (5, .int (nI k)), (6, .int (nI (by2 f p))), (7, .int (nI a)), (9, .int (nI i9)), (10, .int (nI d))], [.ref (q 39)], M452)) rfl hR454 rfl rfl ?_
        refine ps_st (S' := (334, [(11, .int (nI (f0 + k))), (0, .ref m0), (1, .int (nI p)), (2, .int (nI (by2 f pM))), (3, .int (nI f0)), (4, .int (nI ib)), (5, .int (nI k)), (6, .int (nI (by2 f p))), (7, .int (nI a)), (9, .int (nI i9)), (10, .int (nI d))], [.int (nI (f0 + k)), .ref (q 39)], M452)) rfl rfl rfl ?_
        refine ps_st (S' := (335, [(11, .int (nI (f0 + k))), (0, .ref m0), (1, .int (nI p)), (2, .int (nI (by2 f pM))), (3, .int (nI f0)), (4, .int (nI ib)), (5, .int (nI k)), (6, .int (nI (by2 f p))), (7, .int (nI a)), (9, .int (nI i9)), (10, .int (nI d))], [.int 0, .int (nI (f0 + k)), .ref (q 39)], M452)) rfl rfl rfl ?_
        refine pr_st (a := 39) (j := f0 + k) rfl hR454 rfl (by omega) (fun M469 R470 i1_335 hR471 hS472 => ?_)
        have hF_473 := hF_456.mono (fun _ _ => rfl) (rRx hS472 (by decide))
        have hY_474 := hY_457.mono (fun _ _ => rfl) (rRx hS472 (by decide))
        have hP_475 := hP_458.mono (fun _ _ => rfl) (rRx hS472 (by decide))
        have hK_476 := hK_459.mono (fun _ _ => rfl) (rRx hS472 (by decide))
        have c34_477 := c34_460.mono (fun _ _ => rfl) (rRx hS472 (by decide))
        have c35_478 := c35_461.mono (fun _ _ => rfl) (rRx hS472 (by decide))
        have c36_479 := c36_462.mono (fun _ _ => rfl) (rRx hS472 (by decide))
        have hN9_480 := hN9_463.mono (fun _ _ => rfl) (rRx hS472 (by decide))
        have hC_481 := hC_464.mono (fun _ _ => rfl) (rRx hS472 (by decide))
        have c37_482 := c37_465.mono (fun _ _ => rfl) (rRx hS472 (by decide))
        have c38_483 := c38_467.mono (fun _ _ => rfl) (rRx hS472 (by decide))
        have hER484 := hER466.st hS472 (by decide)
        show pl _ _ _ (336, [(11, .int (nI (f0 + k))), (0, .ref m0), (1, .int (nI p)), (2, .int (nI (by2 f pM))), (3, .int (nI f0)), (4, .int (nI ib)), (5, .int (nI k)), (6, .int (nI (by2 f p))), (7, .int (nI a)), (9, .int (nI i9)), (10, .int (nI d))], [], M469) _
        have c39_485 : CE 39 (f0 + k) 0 I1 R470 := CE.st hS472
        have hQ_486 := MQX.st (I' := I1) hQ_468 hS472 rfl
        refine ps_st (S' := (337, [(11, .int (nI (f0 + k))), (0, .ref m0), (1, .int (nI p)), (2, .int (nI (by2 f pM))), (3, .int (nI f0)), (4, .int (nI ib)), (5, .int (nI k)), (6, .int (nI (by2 f p))), (7, .int (nI a)), (9, .int (nI i9)), (10, .int (nI d))], [.ref m0], M469)) rfl rfl rfl ?_
        refine pr_ref (j := 40) (S' := (340, [(11, .int (nI (f0 + k))), (0, .ref m0), (1, .int (nI p)), (2, .int (nI (by2 f pM))), (3, .int (nI f0)), (4, .int (nI ib)), (5, .int (nI k)), (6, .int (nI (by2 f p))), (7, .int (nI a)), (9, .int (nI i9)), (10, .int (nI d))], [.ref (q 40)], M469)) rfl hR471 rfl rfl ?_
        refine ps_st (S' := (342, [(11, .int (nI (f0 + k))), (0, .ref m0), (1, .int (nI p)), (2, .int (nI (by2 f pM))), (3, .int (nI f0)), (4, .int (nI ib)), (5, .int (nI k)), (6, .int (nI (by2 f p))), (7, .int (nI a)), (9, .int (nI i9)), (10, .int (nI d))], [.int (nI (f0 + k)), .ref (q 40)], M469)) rfl rfl rfl ?_
        refine ps_st (S' := (343, [(11, .int (nI (f0 + k))), (0, .ref m0), (1, .int (nI p)), (2, .int (nI (by2 f pM))), (3, .int (nI f0)), (4, .int (nI ib)), (5, .int (nI k)), (6, .int (nI (by2 f p))), (7, .int (nI a)), (9, .int (nI i9)), (10, .int (nI d))], [.int 0, .int (nI (f0 + k)), .ref (q 40)], M469)) rfl rfl rfl ?_
        refine pr_st (a := 40) (j := f0 + k) rfl hR471 rfl (by omega) (fun M487 R488 i1_343 hR489 hS490 => ?_)
        have hF_491 := hF_473.mono (fun _ _ => rfl) (rRx hS490 (by decide))
        have hY_492 := hY_474.mono (fun _ _ => rfl) (rRx hS490 (by decide))
        have hP_493 := hP_475.mono (fun _ _ => rfl) (rRx hS490 (by decide))
        have hK_494 := hK_476.mono (fun _ _ => rfl) (rRx hS490 (by decide))
        have c34_495 := c34_477.mono (fun _ _ => rfl) (rRx hS490 (by decide))
        have c35_496 := c35_478.mono (fun _ _ => rfl) (rRx hS490 (by decide))
        have c36_497 := c36_479.mono (fun _ _ => rfl) (rRx hS490 (by decide))
        have hN9_498 := hN9_480.mono (fun _ _ => rfl) (rRx hS490 (by decide))
        have hC_499 := hC_481.mono (fun _ _ => rfl) (rRx hS490 (by decide))
        have c37_500 := c37_482.mono (fun _ _ => rfl) (rRx hS490 (by decide))
        have c38_501 := c38_483.mono (fun _ _ => rfl) (rRx hS490 (by decide))
        have c39_502 := c39_485.mono (fun _ _ => rfl) (rRx hS490 (by decide))
        have hER503 := hER484.st hS490 (by decide)
        show pl _ _ _ (344, [(11, .int (nI (f0 + k))), (0, .ref m0), (1, .int (nI p)), (2, .int (nI (by2 f pM))), (3, .int (nI f0)), (4, .int (nI ib)), (5, .int (nI k)), (6, .int (nI (by2 f p))), (7, .int (nI a)), (9, .int (nI i9)), (10, .int (nI d))], [], M487) _
        have c40_504 : CE 40 (f0 + k) 0 I1 R488 := CE.st hS490
        have hQ_505 := MQX.st (I' := I1) hQ_486 hS490 rfl
        refine ps_st (S' := (345, [(11, .int (nI (f0 + k))), (0, .ref m0), (1, .int (nI p)), (2, .int (nI (by2 f pM))), (3, .int (nI f0)), (4, .int (nI ib)), (5, .int (nI k)), (6, .int (nI (by2 f p))), (7, .int (nI a)), (9, .int (nI i9)), (10, .int (nI d))], [.ref m0], M487)) rfl rfl rfl ?_
        refine pr_ref (j := 42) (S' := (348, [(11, .int (nI (f0 + k))), (0, .ref m0), (1, .int (nI p)), (2, .int (nI (by2 f pM))), (3, .int (nI f0)), (4, .int (nI ib)), (5, .int (nI k)), (6, .int (nI (by2 f p))), (7, .int (nI a)), (9, .int (nI i9)), (10, .int (nI d))], [.ref (q 42)], M487)) rfl hR489 rfl rfl ?_
        refine ps_st (S' := (350, [(11, .int (nI (f0 + k))), (0, .ref m0), (1, .int (nI p)), (2, .int (nI (by2 f pM))), (3, .int (nI f0)), (4, .int (nI ib)), (5, .int (nI k)), (6, .int (nI (by2 f p))), (7, .int (nI a)), (9, .int (nI i9)), (10, .int (nI d))], [.int (nI (f0 + k)), .ref (q 42)], M487)) rfl rfl rfl ?_
        refine ps_st (S' := (351, [(11, .int (nI (f0 + k))), (0, .ref m0), (1, .int (nI p)), (2, .int (nI (by2 f pM))), (3, .int (nI f0)), (4, .int (nI ib)), (5, .int (nI k)), (6, .int (nI (by2 f p))), (7, .int (nI a)), (9, .int (nI i9)), (10, .int (nI d))], [.int 0, .int (nI (f0 + k)), .ref (q 42)], M487)) rfl rfl rfl ?_
        refine pr_st (a := 42) (j := f0 + k) rfl hR489 rfl (by omega) (fun M506 R507 i1_351 hR508 hS509 => ?_)
        have hF_510 := hF_491.mono (fun _ _ => rfl) (rRx hS509 (by decide))
        have hY_511 := hY_492.mono (fun _ _ => rfl) (rRx hS509 (by decide))
        have hP_512 := hP_493.mono (fun _ _ => rfl) (rRx hS509 (by decide))
        have hK_513 := hK_494.mono (fun _ _ => rfl) (rRx hS509 (by decide))
        have c34_514 := c34_495.mono (fun _ _ => rfl) (rRx hS509 (by decide))
        have c35_515 := c35_496.mono (fun _ _ => rfl) (rRx hS509 (by decide))
        have c36_516 := c36_497.mono (fun _ _ => rfl) (rRx hS509 (by decide))
        have hN9_517 := hN9_498.mono (fun _ _ => rfl) (rRx hS509 (by decide))
        have hC_518 := hC_499.mono (fun _ _ => rfl) (rRx hS509 (by decide))
        have c37_519 := c37_500.mono (fun _ _ => rfl) (rRx hS509 (by decide))
        have c38_520 := c38_501.mono (fun _ _ => rfl) (rRx hS509 (by decide))
        have c39_521 := c39_502.mono (fun _ _ => rfl) (rRx hS509 (by decide))
        have c40_522 := c40_504.mono (fun _ _ => rfl) (rRx hS509 (by decide))
        have hER523 := hER503.st hS509 (by decide)
        show pl _ _ _ (352, [(11, .int (nI (f0 + k))), (0, .ref m0), (1, .int (nI p)), (2, .int (nI (by2 f pM))), (3, .int (nI f0)), (4, .int (nI ib)), (5, .int (nI k)), (6, .int (nI (by2 f p))), (7, .int (nI a)), (9, .int (nI i9)), (10, .int (nI d))], [], M506) _
        have c42_524 : CE 42 (f0 + k) 0 I1 R507 := CE.st hS509
        have hQ_525 := MQX.st (I' := I1) hQ_505 hS509 rfl
        refine ps_st (S' := (353, [(11, .int (nI (f0 + k))), (0, .ref m0), (1, .int (nI p)), (2, .int (nI (by2 f pM))), (3, .int (nI f0)), (4, .int (nI ib)), (5, .int (nI k)), (6, .int (nI (by2 f p))), (7, .int (nI a)), (9, .int (nI i9)), (10, .int (nI d))], [.ref m0], M506)) rfl rfl rfl ?_
        refine pr_ref (j := 43) (S' := (356, [(11, .int (nI (f0 + k))), (0, .ref m0), (1, .int (nI p)), (2, .int (nI (by2 f pM))), (3, .int (nI f0)), (4, .int (nI ib)), (5, .int (nI k)), (6, .int (nI (by2 f p))), (7, .int (nI a)), (9, .int (nI i9)), (10, .int (nI d))], [.ref (q 43)], M506)) rfl hR508 rfl rfl ?_
        refine ps_st (S' := (358, [(11, .int (nI (f0 + k))), (0, .ref m0), (1, .int (nI p)), (2, .int (nI (by2 f pM))), (3, .int (nI f0)), (4, .int (nI ib)), (5, .int (nI k)), (6, .int (nI (by2 f p))), (7, .int (nI a)), (9, .int (nI i9)), (10, .int (nI d))], [.int (nI (f0 + k)), .ref (q 43)], M506)) rfl rfl rfl ?_
        refine ps_st (S' := (359, [(11, .int (nI (f0 + k))), (0, .ref m0), (1, .int (nI p)), (2, .int (nI (by2 f pM))), (3, .int (nI f0)), (4, .int (nI ib)), (5, .int (nI k)), (6, .int (nI (by2 f p))), (7, .int (nI a)), (9, .int (nI i9)), (10, .int (nI d))], [.int 0, .int (nI (f0 + k)), .ref (q 43)], M506)) rfl rfl rfl ?_
        refine pr_st (a := 43) (j := f0 + k) rfl hR508 rfl (by omega) (fun M526 R527 i1_359 hR528 hS529 => ?_)
        have hF_530 := hF_510.mono (fun _ _ => rfl) (rRx hS529 (by decide))
        have hY_531 := hY_511.mono (fun _ _ => rfl) (rRx hS529 (by decide))
        have hP_532 := hP_512.mono (fun _ _ => rfl) (rRx hS529 (by decide))
        have hK_533 := hK_513.mono (fun _ _ => rfl) (rRx hS529 (by decide))
        have c34_534 := c34_514.mono (fun _ _ => rfl) (rRx hS529 (by decide))
        have c35_535 := c35_515.mono (fun _ _ => rfl) (rRx hS529 (by decide))
        have c36_536 := c36_516.mono (fun _ _ => rfl) (rRx hS529 (by decide))
        have hN9_537 := hN9_517.mono (fun _ _ => rfl) (rRx hS529 (by decide))
        have hC_538 := hC_518.mono (fun _ _ => rfl) (rRx hS529 (by decide))
        have c37_539 := c37_519.mono (fun _ _ => rfl) (rRx hS529 (by decide))
        have c38_540 := c38_520.mono (fun _ _ => rfl) (rRx hS529 (by decide))
        have c39_541 := c39_521.mono (fun _ _ => rfl) (rRx hS529 (by decide))
        have c40_542 := c40_522.mono (fun _ _ => rfl) (rRx hS529 (by decide))
        have c42_543 := c42_524.mono (fun _ _ => rfl) (rRx hS529 (by decide))
        have hER544 := hER523.st hS529 (by decide)
        show pl _ _ _ (360, [(11, .int (nI (f0 + k))), (0, .ref m0), (1, .int (nI p)), (2, .int (nI (by2 f pM))), (3, .int (nI f0)), (4, .int (nI ib)), (5, .int (nI k)), (6, .int (nI (by2 f p))), (7, .int (nI a)), (9, .int (nI i9)), (10, .int (nI d))], [], M526) _
        have c43_545 : CE 43 (f0 + k) 0 I1 R527 := CE.st hS529
        have hQ_546 := MQX.st (I' := I1) hQ_525 hS529 rfl
        refine ps_st (S' := (361, [(11, .int (nI (f0 + k))), (0, .ref m0), (1, .int (nI p)), (2, .int (nI (by2 f pM))), (3, .int (nI f0)), (4, .int (nI ib)), (5, .int (nI k)), (6, .int (nI (by2 f p))), (7, .int (nI a)), (9, .int (nI i9)), (10, .int (nI d))], [.ref m0], M526)) rfl rfl rfl ?_
        refine pr_ref (j := 44) (S' := (364, [(11, .int (nI (f0 + k))), (0, .ref m0), (1, .int (nI p)), (2, .int (nI (by2 f pM))), (3, .int (nI f0)), (4, .int (nI ib)), (5, .int (nI k)), (6, .int (nI (by2 f p))), (7, .int (nI a)), (9, .int (nI i9)), (10, .int (nI d))], [.ref (q 44)], M526)) rfl hR528 rfl rfl ?_
        refine ps_st (S' := (366, [(11, .int (nI (f0 + k))), (0, .ref m0), (1, .int (nI p)), (2, .int (nI (by2 f pM))), (3, .int (nI f0)), (4, .int (nI ib)), (5, .int (nI k)), (6, .int (nI (by2 f p))), (7, .int (nI a)), (9, .int (nI i9)), (10, .int (nI d))], [.int (nI (f0 + k)), .ref (q 44)], M526)) rfl rfl rfl ?_
        refine ps_st (S' := (367, [(11, .int (nI (f0 + k))), (0, .ref m0), (1, .int (nI p)), (2, .int (nI (by2 f pM))), (3, .int (nI f0)), (4, .int (nI ib)), (5, .int (nI k)), (6, .int (nI (by2 f p))), (7, .int (nI a)), (9, .int (nI i9)), (10, .int (nI d))], [.int 0, .int (nI (f0 + k)), .ref (q 44)], M526)) rfl rfl rfl ?_
        refine pr_st (a := 44) (j := f0 + k) rfl hR528 rfl (by omega) (fun M547 R548 i1_367 hR549 hS550 => ?_)
        have hF_551 := hF_530.mono (fun _ _ => rfl) (rRx hS550 (by decide))
        have hY_552 := hY_531.mono (fun _ _ => rfl) (rRx hS550 (by decide))
        have hP_553 := hP_532.mono (fun _ _ => rfl) (rRx hS550 (by decide))
        have hK_554 := hK_533.mono (fun _ _ => rfl) (rRx hS550 (by decide))
        have c34_555 := c34_534.mono (fun _ _ => rfl) (rRx hS550 (by decide))
        have c35_556 := c35_535.mono (fun _ _ => rfl) (rRx hS550 (by decide))
        have c36_557 := c36_536.mono (fun _ _ => rfl) (rRx hS550 (by decide))
        have hN9_558 := hN9_537.mono (fun _ _ => rfl) (rRx hS550 (by decide))
        have hC_559 := hC_538.mono (fun _ _ => rfl) (rRx hS550 (by decide))
        have c37_560 := c37_539.mono (fun _ _ => rfl) (rRx hS550 (by decide))
        have c38_561 := c38_540.mono (fun _ _ => rfl) (rRx hS550 (by decide))
        have c39_562 := c39_541.mono (fun _ _ => rfl) (rRx hS550 (by decide))
        have c40_563 := c40_542.mono (fun _ _ => rfl) (rRx hS550 (by decide))
        have c42_564 := c42_543.mono (fun _ _ => rfl) (rRx hS550 (by decide))
        have c43_565 := c43_545.mono (fun _ _ => rfl) (rRx hS550 (by decide))
        have hER566 := hER544.st hS550 (by decide)
        show pl _ _ _ (368, [(11, .int (nI (f0 + k))), (0, .ref m0), (1, .int (nI p)), (2, .int (nI (by2 f pM))), (3, .int (nI f0)), (4, .int (nI ib)), (5, .int (nI k)), (6, .int (nI (by2 f p))), (7, .int (nI a)), (9, .int (nI i9)), (10, .int (nI d))], [], M547) _
        have c44_567 : CE 44 (f0 + k) 0 I1 R548 := CE.st hS550
        have hQ_568 := MQX.st (I' := I1) hQ_546 hS550 rfl
        refine ps_st (S' := (369, [(11, .int (nI (f0 + k))), (0, .ref m0), (1, .int (nI p)), (2, .int (nI (by2 f pM))), (3, .int (nI f0)), (4, .int (nI ib)), (5, .int (nI k)), (6, .int (nI (by2 f p))), (7, .int (nI a)), (9, .int (nI i9)), (10, .int (nI d))], [.ref m0], M547)) rfl rfl rfl ?_
        refine pr_ref (j := 45) (S' := (372, [(11, .int (nI (f0 + k))), (0, .ref m0), (1, .int (nI p)), (2, .int (nI (by2 f pM))), (3, .int (nI f0)), (4, .int (nI ib)), (5, .int (nI k)), (6, .int (nI (by2 f p))), (7, .int (nI a)), (9, .int (nI i9)), (10, .int (nI d))], [.ref (q 45)], M547)) rfl hR549 rfl rfl ?_
        refine ps_st (S' := (374, [(11, .int (nI (f0 + k))), (0, .ref m0), (1, .int (nI p)), (2, .int (nI (by2 f pM))), (3, .int (nI f0)), (4, .int (nI ib)), (5, .int (nI k)), (6, .int (nI (by2 f p))), (7, .int (nI a)), (9, .int (nI i9)), (10, .int (nI d))], [.int (nI (f0 + k)), .ref (q 45)], M547)) rfl rfl rfl ?_
        refine ps_st (S' := (375, [(11, .int (nI (f0 + k))), (0, .ref m0), (1, .int (nI p)), (2, .int (nI (by2 f pM))), (3, .int (nI f0)), (4, .int (nI ib)), (5, .int (nI k)), (6, .int (nI (by2 f p))), (7, .int (nI a)), (9, .int (nI i9)), (10, .int (nI d))], [.ref m0, .int (nI (f0 + k)), .ref (q 45)], M547)) rfl rfl rfl ?_
        refine ps_st (S' := (376, [(11, .int (nI (f0 + k))), (0, .ref m0), (1, .int (nI p)), (2, .int (nI (by2 f pM))), (3, .int (nI f0)), (4, .int (nI ib)), (5, .int (nI k)), (6, .int (nI (by2 f p))), (7, .int (nI a)), (9, .int (nI i9)), (10, .int (nI d))], [.int (nI p), .ref m0, .int (nI (f0 + k)), .ref (q 45)], M547)) rfl rfl rfl ?_
        refine ps_st (S' := (377, [(11, .int (nI (f0 + k))), (0, .ref m0), (1, .int (nI p)), (2, .int (nI (by2 f pM))), (3, .int (nI f0)), (4, .int (nI ib)), (5, .int (nI k)), (6, .int (nI (by2 f p))), (7, .int (nI a)), (9, .int (nI i9)), (10, .int (nI d))], [.int 2, .int (nI p), .ref m0, .int (nI (f0 + k)), .ref (q 45)], M547)) rfl rfl rfl ?_
        refine ps_st (S' := (378, [(11, .int (nI (f0 + k))), (0, .ref m0), (1, .int (nI p)), (2, .int (nI (by2 f pM))), (3, .int (nI f0)), (4, .int (nI ib)), (5, .int (nI k)), (6, .int (nI (by2 f p))), (7, .int (nI a)), (9, .int (nI i9)), (10, .int (nI d))], [.int ((nI p) + 2), .ref m0, .int (nI (f0 + k)), .ref (q 45)], M547)) rfl rfl rfl ?_
        rw [nI_add1 (p := p) (k := 2) (x := 2) rfl (by omega)]
        show pl _ _ _ (_, [(11, .int (nI (f0 + k))), (0, .ref m0), (1, .int (nI p)), (2, .int (nI (by2 f pM))), (3, .int (nI f0)), (4, .int (nI ib)), (5, .int (nI k)), (6, .int (nI (by2 f p))), (7, .int (nI a)), (9, .int (nI i9)), (10, .int (nI d))], [.int (nI (p + 2)), .ref m0, .int (nI (f0 + k)), .ref (q 45)], M547) _
        refine pl_call (a := [.ref m0, .int (nI (p + 2))]) (rest := [.int (nI (f0 + k)), .ref (q 45)]) rfl rfl rfl (rd_u2 (n := n) (f := f) (p := (p + 2)) hR549 hF_551 (by omega)) (fun v569 M570 q571 => ?_)
        obtain ⟨rfl, rfl⟩ := q571
        show pl _ _ _ (381, [(11, .int (nI (f0 + k))), (0, .ref m0), (1, .int (nI p)), (2, .int (nI (by2 f pM))), (3, .int (nI f0)), (4, .int (nI ib)), (5, .int (nI k)), (6, .int (nI (by2 f p))), (7, .int (nI a)), (9, .int (nI i9)), (10, .int (nI d))], [.int (nI (by2 f (p + 2))), .int (nI (f0 + k)), .ref (q 45)], M547) _
        have hu_378 := by2_lt f (p + 2)
        refine pr_st (a := 45) (j := f0 + k) rfl hR549 rfl (by omega) (fun M572 R573 i1_381 hR574 hS575 => ?_)
        have hF_576 := hF_551.mono (fun _ _ => rfl) (rRx hS575 (by decide))
        have hY_577 := hY_552.mono (fun _ _ => rfl) (rRx hS575 (by decide))
        have hP_578 := hP_553.mono (fun _ _ => rfl) (rRx hS575 (by decide))
        have hK_579 := hK_554.mono (fun _ _ => rfl) (rRx hS575 (by decide))
        have c34_580 := c34_555.mono (fun _ _ => rfl) (rRx hS575 (by decide))
        have c35_581 := c35_556.mono (fun _ _ => rfl) (rRx hS575 (by decide))
        have c36_582 := c36_557.mono (fun _ _ => rfl) (rRx hS575 (by decide))
        have hN9_583 := hN9_558.mono (fun _ _ => rfl) (rRx hS575 (by decide))
        have hC_584 := hC_559.mono (fun _ _ => rfl) (rRx hS575 (by decide))
        have c37_585 := c37_560.mono (fun _ _ => rfl) (rRx hS575 (by decide))
        have c38_586 := c38_561.mono (fun _ _ => rfl) (rRx hS575 (by decide))
        have c39_587 := c39_562.mono (fun _ _ => rfl) (rRx hS575 (by decide))
        have c40_588 := c40_563.mono (fun _ _ => rfl) (rRx hS575 (by decide))
        have c42_589 := c42_564.mono (fun _ _ => rfl) (rRx hS575 (by decide))
        have c43_590 := c43_565.mono (fun _ _ => rfl) (rRx hS575 (by decide))
        have c44_591 := c44_567.mono (fun _ _ => rfl) (rRx hS575 (by decide))
        have hER592 := hER566.st hS575 (by decide)
        show pl _ _ _ (382, [(11, .int (nI (f0 + k))), (0, .ref m0), (1, .int (nI p)), (2, .int (nI (by2 f pM))), (3, .int (nI f0)), (4, .int (nI ib)), (5, .int (nI k)), (6, .int (nI (by2 f p))), (7, .int (nI a)), (9, .int (nI i9)), (10, .int (nI d))], [], M572) _
        have c45_593 : CE 45 (f0 + k) (nI (by2 f (p + 2))) I1 R573 := CE.st hS575
        have hQ_594 := MQX.st (I' := I1) hQ_568 hS575 rfl
        refine ps_st (S' := (383, [(11, .int (nI (f0 + k))), (0, .ref m0), (1, .int (nI p)), (2, .int (nI (by2 f pM))), (3, .int (nI f0)), (4, .int (nI ib)), (5, .int (nI k)), (6, .int (nI (by2 f p))), (7, .int (nI a)), (9, .int (nI i9)), (10, .int (nI d))], [.ref m0], M572)) rfl rfl rfl ?_
        refine pr_ref (j := 46) (S' := (386, [(11, .int (nI (f0 + k))), (0, .ref m0), (1, .int (nI p)), (2, .int (nI (by2 f pM))), (3, .int (nI f0)), (4, .int (nI ib)), (5, .int (nI k)), (6, .int (nI (by2 f p))), (7, .int (nI a)), (9, .int (nI i9)), (10, .int (nI d))], [.ref (q 46)], M572)) rfl hR574 rfl rfl ?_
        refine ps_st (S' := (388, [(11, .int (nI (f0 + k))), (0, .ref m0), (1, .int (nI p)), (2, .int (nI (by2 f pM))), (3, .int (nI f0)), (4, .int (nI ib)), (5, .int (nI k)), (6, .int (nI (by2 f p))), (7, .int (nI a)), (9, .int (nI i9)), (10, .int (nI d))], [.int (nI (f0 + k)), .ref (q 46)], M572)) rfl rfl rfl ?_
        refine ps_st (S' := (389, [(11, .int (nI (f0 + k))), (0, .ref m0), (1, .int (nI p)), (2, .int (nI (by2 f pM))), (3, .int (nI f0)), (4, .int (nI ib)), (5, .int (nI k)), (6, .int (nI (by2 f p))), (7, .int (nI a)), (9, .int (nI i9)), (10, .int (nI d))], [.ref m0, .int (nI (f0 + k)), .ref (q 46)], M572)) rfl rfl rfl ?_
        refine ps_st (S' := (390, [(11, .int (nI (f0 + k))), (0, .ref m0), (1, .int (nI p)), (2, .int (nI (by2 f pM))), (3, .int (nI f0)), (4, .int (nI ib)), (5, .int (nI k)), (6, .int (nI (by2 f p))), (7, .int (nI a)), (9, .int (nI i9)), (10, .int (nI d))], [.int (nI p), .ref m0, .int (nI (f0 + k)), .ref (q 46)], M572)) rfl rfl rfl ?_
        refine ps_st (S' := (391, [(11, .int (nI (f0 + k))), (0, .ref m0), (1, .int (nI p)), (2, .int (nI (by2 f pM))), (3, .int (nI f0)), (4, .int (nI ib)), (5, .int (nI k)), (6, .int (nI (by2 f p))), (7, .int (nI a)), (9, .int (nI i9)), (10, .int (nI d))], [.int 4, .int (nI p), .ref m0, .int (nI (f0 + k)), .ref (q 46)], M572)) rfl rfl rfl ?_
        refine ps_st (S' := (392, [(11, .int (nI (f0 + k))), (0, .ref m0), (1, .int (nI p)), (2, .int (nI (by2 f pM))), (3, .int (nI f0)), (4, .int (nI ib)), (5, .int (nI k)), (6, .int (nI (by2 f p))), (7, .int (nI a)), (9, .int (nI i9)), (10, .int (nI d))], [.int ((nI p) + 4), .ref m0, .int (nI (f0 + k)), .ref (q 46)], M572)) rfl rfl rfl ?_
        rw [nI_add1 (p := p) (k := 4) (x := 4) rfl (by omega)]
        show pl _ _ _ (_, [(11, .int (nI (f0 + k))), (0, .ref m0), (1, .int (nI p)), (2, .int (nI (by2 f pM))), (3, .int (nI f0)), (4, .int (nI ib)), (5, .int (nI k)), (6, .int (nI (by2 f p))), (7, .int (nI a)), (9, .int (nI i9)), (10, .int (nI d))], [.int (nI (p + 4)), .ref m0, .int (nI (f0 + k)), .ref (q 46)], M572) _
        refine pl_call (a := [.ref m0, .int (nI (p + 4))]) (rest := [.int (nI (f0 + k)), .ref (q 46)]) rfl rfl rfl (rd_u2 (n := n) (f := f) (p := (p + 4)) hR574 hF_576 (by omega)) (fun v595 M596 q597 => ?_)
        obtain ⟨rfl, rfl⟩ := q597
        show pl _ _ _ (395, [(11, .int (nI (f0 + k))), (0, .ref m0), (1, .int (nI p)), (2, .int (nI (by2 f pM))), (3, .int (nI f0)), (4, .int (nI ib)), (5, .int (nI k)), (6, .int (nI (by2 f p))), (7, .int (nI a)), (9, .int (nI i9)), (10, .int (nI d))], [.int (nI (by2 f (p + 4))), .int (nI (f0 + k)), .ref (q 46)], M572) _
        have hu_392 := by2_lt f (p + 4)
        refine pr_st (a := 46) (j := f0 + k) rfl hR574 rfl (by omega) (fun M598 R599 i1_395 hR600 hS601 => ?_)
        have hF_602 := hF_576.mono (fun _ _ => rfl) (rRx hS601 (by decide))
        have hY_603 := hY_577.mono (fun _ _ => rfl) (rRx hS601 (by decide))
        have hP_604 := hP_578.mono (fun _ _ => rfl) (rRx hS601 (by decide))
        have hK_605 := hK_579.mono (fun _ _ => rfl) (rRx hS601 (by decide))
        have c34_606 := c34_580.mono (fun _ _ => rfl) (rRx hS601 (by decide))
        have c35_607 := c35_581.mono (fun _ _ => rfl) (rRx hS601 (by decide))
        have c36_608 := c36_582.mono (fun _ _ => rfl) (rRx hS601 (by decide))
        have hN9_609 := hN9_583.mono (fun _ _ => rfl) (rRx hS601 (by decide))
        have hC_610 := hC_584.mono (fun _ _ => rfl) (rRx hS601 (by decide))
        have c37_611 := c37_585.mono (fun _ _ => rfl) (rRx hS601 (by decide))
        have c38_612 := c38_586.mono (fun _ _ => rfl) (rRx hS601 (by decide))
        have c39_613 := c39_587.mono (fun _ _ => rfl) (rRx hS601 (by decide))
        have c40_614 := c40_588.mono (fun _ _ => rfl) (rRx hS601 (by decide))
        have c42_615 := c42_589.mono (fun _ _ => rfl) (rRx hS601 (by decide))
        have c43_616 := c43_590.mono (fun _ _ => rfl) (rRx hS601 (by decide))
        have c44_617 := c44_591.mono (fun _ _ => rfl) (rRx hS601 (by decide))
        have c45_618 := c45_593.mono (fun _ _ => rfl) (rRx hS601 (by decide))
        have hER619 := hER592.st hS601 (by decide)
        show pl _ _ _ (396, [(11, .int (nI (f0 + k))), (0, .ref m0), (1, .int (nI p)), (2, .int (nI (by2 f pM))), (3, .int (nI f0)), (4, .int (nI ib)), (5, .int (nI k)), (6, .int (nI (by2 f p))), (7, .int (nI a)), (9, .int (nI i9)), (10, .int (nI d))], [], M598) _
        have c46_620 : CE 46 (f0 + k) (nI (by2 f (p + 4))) I1 R599 := CE.st hS601
        have hQ_621 := MQX.st (I' := I1) hQ_594 hS601 rfl
        refine ps_st (S' := (397, [(11, .int (nI (f0 + k))), (0, .ref m0), (1, .int (nI p)), (2, .int (nI (by2 f pM))), (3, .int (nI f0)), (4, .int (nI ib)), (5, .int (nI k)), (6, .int (nI (by2 f p))), (7, .int (nI a)), (9, .int (nI i9)), (10, .int (nI d))], [.int (nI f0)], M598)) rfl rfl rfl ?_
        refine ps_st (S' := (399, [(0, .ref m0), (1, .int (nI p)), (2, .int (nI (by2 f pM))), (3, .int (nI f0)), (4, .int (nI ib)), (5, .int (nI k)), (6, .int (nI (by2 f p))), (7, .int (nI a)), (9, .int (nI i9)), (10, .int (nI d)), (11, .int (nI (f0 + k))), (12, .int (nI f0))], [], M598)) rfl rfl rfl ?_
        have hWc9 : MWc f (f0 + k) (0, 0, 0) I1 R599 := MWc.nil c37_611 c38_612 c39_613 c40_614 c42_615 c43_616 c44_617
        exact ih.2.2.2 (k) (p) (ib) (a) (i9) (d) (0) M598 I1 R599 hR600 hEI1 hER619 hl51 hl52 hl53 hl58 hl56 hl26 hl9 hl10 hF_602 hY_603 hP_604 hK_605 hN9_609 c34_606 c35_607 c36_608 hC_610 hQ_621 hWc9 c45_618 c46_620 (hk0) (hpk) (hpe) (hs) (hib) (hsa) (ht1) (hnm) (hfl) (h9c) (hsd) (ht2) (hmt) (hds) (by omega) (by omega) (rfl)
      · skip
        intro k p ib a i9 d j M1 I1 R1 hR1 hEI1 hER1 hl51 hl52 hl53 hl58 hl56 hl26 hl9 hl10 hF1 hY1 hP1 hK1 hN91 c341 c351 c361 hC1 hQ1 hWc1 c451 c461 hk0 hpk hpe hs hib hsa ht1 hnm hfl h9c hsd ht2 hmt hds hj hx hd9
        have hn := hF1.1
        have hu9 := by2_lt f pM
        have htl := hY1.1.2.2.1
        have hBl := hMB.1
        have hi7 := hsi.1
        have hc7 := hsc.1
        have hu8 := by2_lt f p
        have hsa1 := hsa.1
        have hsd1 := hsd.1
        refine ps_st1 (S' := (401, [(0, .ref m0), (1, .int (nI p)), (2, .int (nI (by2 f pM))), (3, .int (nI f0)), (4, .int (nI ib)), (5, .int (nI k)), (6, .int (nI (by2 f p))), (7, .int (nI a)), (9, .int (nI i9)), (10, .int (nI d)), (11, .int (nI (f0 + k))), (12, .int (nI (f0 + j)))], [.int (nI (f0 + j))], M1)) rfl rfl rfl ?_
        refine ps_st (S' := (403, [(0, .ref m0), (1, .int (nI p)), (2, .int (nI (by2 f pM))), (3, .int (nI f0)), (4, .int (nI ib)), (5, .int (nI k)), (6, .int (nI (by2 f p))), (7, .int (nI a)), (9, .int (nI i9)), (10, .int (nI d)), (11, .int (nI (f0 + k))), (12, .int (nI (f0 + j)))], [.int (nI (f0 + k)), .int (nI (f0 + j))], M1)) rfl rfl rfl ?_
        refine ps_if2 (S1 := (444, [(0, .ref m0), (1, .int (nI p)), (2, .int (nI (by2 f pM))), (3, .int (nI f0)), (4, .int (nI ib)), (5, .int (nI k)), (6, .int (nI (by2 f p))), (7, .int (nI a)), (9, .int (nI i9)), (10, .int (nI d)), (11, .int (nI (f0 + k))), (12, .int (nI (f0 + j)))], [], M1)) (S2 := (406, [(0, .ref m0), (1, .int (nI p)), (2, .int (nI (by2 f pM))), (3, .int (nI f0)), (4, .int (nI ib)), (5, .int (nI k)), (6, .int (nI (by2 f p))), (7, .int (nI a)), (9, .int (nI i9)), (10, .int (nI d)), (11, .int (nI (f0 + k))), (12, .int (nI (f0 + j)))], [], M1)) rfl rfl rfl (fun c_403 => ?_) (fun c_403 => ?_)
        · have c_403 : (nI (f0 + k)) ≤ (nI (f0 + j)) := of_decide_eq_true c_403
          have n_403 : f0 + k ≤ f0 + j := (le_nI (p := f0 + k) (n := f0 + j) (by omega) (by omega)).mp c_403
          refine ps_st (S' := (445, [(0, .ref m0), (1, .int (nI p)), (2, .int (nI (by2 f pM))), (3, .int (nI f0)), (4, .int (nI ib)), (5, .int (nI k)), (6, .int (nI (by2 f p))), (7, .int (nI a)), (9, .int (nI i9)), (10, .int (nI d)), (11, .int (nI (f0 + k))), (12, .int (nI (f0 + j)))], [.ref m0], M1)) rfl rfl rfl ?_
          refine ps_st (S' := (446, [(0, .ref m0), (1, .int (nI p)), (2, .int (nI (by2 f pM))), (3, .int (nI f0)), (4, .int (nI ib)), (5, .int (nI k)), (6, .int (nI (by2 f p))), (7, .int (nI a)), (9, .int (nI i9)), (10, .int (nI d)), (11, .int (nI (f0 + k))), (12, .int (nI (f0 + j)))], [.ref m0, .ref m0], M1)) rfl rfl rfl ?_
          refine pr_int (j := 26) (S' := (449, [(0, .ref m0), (1, .int (nI p)), (2, .int (nI (by2 f pM))), (3, .int (nI f0)), (4, .int (nI ib)), (5, .int (nI k)), (6, .int (nI (by2 f p))), (7, .int (nI a)), (9, .int (nI i9)), (10, .int (nI d)), (11, .int (nI (f0 + k))), (12, .int (nI (f0 + j)))], [.int (nI (f0 + k)), .ref m0], M1)) rfl hR1 rfl hl26 rfl ?_
          refine ps_st (S' := (450, [(0, .ref m0), (1, .int (nI p)), (2, .int (nI (by2 f pM))), (3, .int (nI f0)), (4, .int (nI ib)), (5, .int (nI k)), (6, .int (nI (by2 f p))), (7, .int (nI a)), (9, .int (nI i9)), (10, .int (nI d)), (11, .int (nI (f0 + k))), (12, .int (nI (f0 + j)))], [.int 1, .int (nI (f0 + k)), .ref m0], M1)) rfl rfl rfl ?_
          refine ps_st (S' := (451, [(0, .ref m0), (1, .int (nI p)), (2, .int (nI (by2 f pM))), (3, .int (nI f0)), (4, .int (nI ib)), (5, .int (nI k)), (6, .int (nI (by2 f p))), (7, .int (nI a)), (9, .int (nI i9)), (10, .int (nI d)), (11, .int (nI (f0 + k))), (12, .int (nI (f0 + j)))], [.int ((nI (f0 + k)) + 1), .ref m0], M1)) rfl rfl rfl ?_
          rw [nI_add1 (p := f0 + k) (k := 1) (x := 1) rfl (by omega)]
          show pl _ _ _ (_, [(0, .ref m0), (1, .int (nI p)), (2, .int (nI (by2 f pM))), (3, .int (nI f0)), (4, .int (nI ib)), (5, .int (nI k)), (6, .int (nI (by2 f p))), (7, .int (nI a)), (9, .int (nI i9)), (10, .int (nI d)), (11, .int (nI (f0 + k))), (12, .int (nI (f0 + j)))], [.int (nI (f0 + k + 1)), .ref m0], M1) _
          refine pr_put (j := 26) rfl hR1 rfl (fun M622 I623 hR624 hi625 hI626 => ?_)
          have hi627 := (hI626 51 (by decide)).trans hl51
          have hi628 := (hI626 52 (by decide)).trans hl52
          have hi629 := (hI626 53 (by decide)).trans hl53
          have hi630 := (hI626 58 (by decide)).trans hl58
          have hi631 := (hI626 56 (by decide)).trans hl56
          have hi632 := (hI626 9 (by decide)).trans hl9
          have hi633 := (hI626 10 (by decide)).trans hl10
          have hF_634 := hF1.mono (pIx hI626 (by decide)) (fun _ _ => rfl)
          have hY_635 := hY1.mono (pIx hI626 (by decide)) (fun _ _ => rfl)
          have hP_636 := hP1.mono (pIx hI626 (by decide)) (fun _ _ => rfl)
          have hK_637 := hK1.mono (pIx hI626 (by decide)) (fun _ _ => rfl)
          have hN9_638 := hN91.mono (pIx hI626 (by decide)) (fun _ _ => rfl)
          have c34_639 := c341.mono (pIx hI626 (by decide)) (fun _ _ => rfl)
          have c35_640 := c351.mono (pIx hI626 (by decide)) (fun _ _ => rfl)
          have c36_641 := c361.mono (pIx hI626 (by decide)) (fun _ _ => rfl)
          have hC_642 := hC1.mono (pIx hI626 (by decide)) (fun _ _ => rfl)
          have hQ_643 := hQ1.mono (pIx hI626 (by decide)) (fun _ _ => rfl)
          have hWc_644 := hWc1.mono (pIx hI626 (by decide)) (fun _ _ => rfl)
          have c45_645 := c451.mono (pIx hI626 (by decide)) (fun _ _ => rfl)
          have c46_646 := c461.mono (pIx hI626 (by decide)) (fun _ _ => rfl)
          have hEI647 := hEI1.put hI626 (by decide)
          show pl _ _ _ (454, [(0, .ref m0), (1, .int (nI p)), (2, .int (nI (by2 f pM))), (3, .int (nI f0)), (4, .int (nI ib)), (5, .int (nI k)), (6, .int (nI (by2 f p))), (7, .int (nI a)), (9, .int (nI i9)), (10, .int (nI d)), (11, .int (nI (f0 + k))), (12, .int (nI (f0 + j)))], [], M622) _
          refine ps_st (S' := (455, [(0, .ref m0), (1, .int (nI p)), (2, .int (nI (by2 f pM))), (3, .int (nI f0)), (4, .int (nI ib)), (5, .int (nI k)), (6, .int (nI (by2 f p))), (7, .int (nI a)), (9, .int (nI i9)), (10, .int (nI d)), (11, .int (nI (f0 + k))), (12, .int (nI (f0 + j)))], [.ref m0], M622)) rfl rfl rfl ?_
          refine ps_st (S' := (456, [(0, .ref m0), (1, .int (nI p)), (2, .int (nI (by2 f pM))), (3, .int (nI f0)), (4, .int (nI ib)), (5, .int (nI k)), (6, .int (nI (by2 f p))), (7, .int (nI a)), (9, .int (nI i9)), (10, .int (nI d)), (11, .int (nI (f0 + k))), (12, .int (nI (f0 + j)))], [.int (nI p), .ref m0], M622)) rfl rfl rfl ?_
          refine ps_st (S' := (458, [(0, .ref m0), (1, .int (nI p)), (2, .int (nI (by2 f pM))), (3, .int (nI f0)), (4, .int (nI ib)), (5, .int (nI k)), (6, .int (nI (by2 f p))), (7, .int (nI a)), (9, .int (nI i9)), (10, .int (nI d)), (11, .int (nI (f0 + k))), (12, .int (nI (f0 + j)))], [.int 6, .int (nI p), .ref m0], M622)) rfl rfl rfl ?_
          refine ps_st (S' := (459, [(0, .ref m0), (1, .int (nI p)), (2, .int (nI (by2 f pM))), (3, .int (nI f0)), (4, .int (nI ib)), (5, .int (nI k)), (6, .int (nI (by2 f p))), (7, .int (nI a)), (9, .int (nI i9)), (10, .int (nI d)), (11, .int (nI (f0 + k))), (12, .int (nI (f0 + j)))], [.int ((nI p) + 6), .ref m0], M622)) rfl rfl rfl ?_
          rw [nI_add1 (p := p) (k := 6) (x := 6) rfl (by omega)]
          show pl _ _ _ (_, [(0, .ref m0), (1, .int (nI p)), (2, .int (nI (by2 f pM))), (3, .int (nI f0)), (4, .int (nI ib)), (5, .int (nI k)), (6, .int (nI (by2 f p))), (7, .int (nI a)), (9, .int (nI i9)), (10, .int (nI d)), (11, .int (nI (f0 + k))), (12, .int (nI (f0 + j)))], [.int (nI (p + 6)), .ref m0], M622) _
          refine ps_st (S' := (460, [(0, .ref m0), (1, .int (nI p)), (2, .int (nI (by2 f pM))), (3, .int (nI f0)), (4, .int (nI ib)), (5, .int (nI k)), (6, .int (nI (by2 f p))), (7, .int (nI a)), (9, .int (nI i9)), (10, .int (nI d)), (11, .int (nI (f0 + k))), (12, .int (nI (f0 + j)))], [.int 2, .int (nI (p + 6)), .ref m0], M622)) rfl rfl rfl ?_
          refine ps_st (S' := (462, [(0, .ref m0), (1, .int (nI p)), (2, .int (nI (by2 f pM))), (3, .int (nI f0)), (4, .int (nI ib)), (5, .int (nI k)), (6, .int (nI (by2 f p))), (7, .int (nI a)), (9, .int (nI i9)), (10, .int (nI d)), (11, .int (nI (f0 + k))), (12, .int (nI (f0 + j)))], [.int (nI (f0 + k)), .int 2, .int (nI (p + 6)), .ref m0], M622)) rfl rfl rfl ?_
          have hm9 := hMB.2.2.2 k (by omega)
          rw [← hpk] at hm9
          have hX9 : MX (by2 f p) d (f0 + k) I623 R1 := ⟨c34_639, c36_641⟩
          have hwa : apN f n E p = argN (tX f n E (by2 f (p + 4))) + (if aN (by2 f p) 8 = 0 then 1 else 0) := by
            have a0_ := ap_9 (f := f) (n := n) (E := E) (p := p)
            split <;> omega
          have hW9 : MW f (f0 + k) (0, 0, 0) R1 I623 R1 := ⟨hWc_644, fun _ _ _ _ => rfl⟩
          refine pl_call (a := [.ref m0, .int (nI (p + 6)), .int 2, .int (nI (f0 + k))]) (rest := []) rfl rfl rfl (rd_checkAttributes27 (n := n) (f := f) (tx := tx) (cN := cN) (A := A) (N := N) (mj := mj) (E := E) (p1 := (p + 6)) (e := (E1 k)) (x := (f0 + k)) (fl := (by2 f p)) (ds := d) (wa := (apN f n E p)) (l := (tX f n E (by2 f (p + 4)))) (R0 := R1) hR624 hi627 hi628 hi629 hF_634 hY_635 hP_636 hK_637 hX9 hC_642 hW9 (hEP) (hN) (hmj) (⟨by omega, by omega⟩) (hm9.2.2.1) (hx) (hsd) (hmt) (hu8) (hwa)) (fun v648 M649 q650 => ?_)
          rcases q650 with q650 | q650
          · skip
            obtain ⟨e9651, I652, R653, q462_s, rfl, hR654, hI655, hX656, hi657, hi658⟩ := q650
            have hi659 := (hI655 51 (by decide)).trans hi627
            have hi660 := (hI655 52 (by decide)).trans hi628
            have hi661 := (hI655 53 (by decide)).trans hi629
            have hi662 := (hI655 58 (by decide)).trans hi630
            have hi663 := (hI655 56 (by decide)).trans hi631
            have hi664 := (hI655 9 (by decide)).trans hi632
            have hi665 := (hI655 10 (by decide)).trans hi633
            have hi666 := (hI655 26 (by decide)).trans hi625
            have hF_667 := hF_634.mono (cIx hI655 (by decide)) (cRx hX656 (by decide))
            have hY_668 := hY_635.mono (cIx hI655 (by decide)) (cRx hX656 (by decide))
            have hP_669 := hP_636.mono (cIx hI655 (by decide)) (cRx hX656 (by decide))
            have hK_670 := hK_637.mono (cIx hI655 (by decide)) (cRx hX656 (by decide))
            have hN9_671 := hN9_638.mono (cIx hI655 (by decide)) (cRx hX656 (by decide))
            have c34_672 := c34_639.mono (cIx hI655 (by decide)) (cRx hX656 (by decide))
            have c35_673 := c35_640.mono (cIx hI655 (by decide)) (cRx hX656 (by decide))
            have c36_674 := c36_641.mono (cIx hI655 (by decide)) (cRx hX656 (by decide))
            have c45_675 := c45_645.mono (cIx hI655 (by decide)) (cRx hX656 (by decide))
            have c46_676 := c46_646.mono (cIx hI655 (by decide)) (cRx hX656 (by decide))
            have hX_677 := hX9.mono (cIx hI655 (by decide)) (cRx hX656 (by decide))
            have hEI678 := hEI647.tr hI655 (by decide)
            have hER679 := hER1.tr hX656 (by decide)
            show pl _ _ _ (465, [(0, .ref m0), (1, .int (nI p)), (2, .int (nI (by2 f pM))), (3, .int (nI f0)), (4, .int (nI ib)), (5, .int (nI k)), (6, .int (nI (by2 f p))), (7, .int (nI a)), (9, .int (nI i9)), (10, .int (nI d)), (11, .int (nI (f0 + k))), (12, .int (nI (f0 + j)))], [.int (-1)], M649) _
            refine ps_st (S' := (467, [(12, .int (-1)), (0, .ref m0), (1, .int (nI p)), (2, .int (nI (by2 f pM))), (3, .int (nI f0)), (4, .int (nI ib)), (5, .int (nI k)), (6, .int (nI (by2 f p))), (7, .int (nI a)), (9, .int (nI i9)), (10, .int (nI d)), (11, .int (nI (f0 + k)))], [], M649)) rfl rfl rfl ?_
            refine ps_st (S' := (469, [(12, .int (-1)), (0, .ref m0), (1, .int (nI p)), (2, .int (nI (by2 f pM))), (3, .int (nI f0)), (4, .int (nI ib)), (5, .int (nI k)), (6, .int (nI (by2 f p))), (7, .int (nI a)), (9, .int (nI i9)), (10, .int (nI d)), (11, .int (nI (f0 + k)))], [.int (-1)], M649)) rfl rfl rfl ?_
            refine ps_if (S1 := (474, [(12, .int (-1)), (0, .ref m0), (1, .int (nI p)), (2, .int (nI (by2 f pM))), (3, .int (nI f0)), (4, .int (nI ib)), (5, .int (nI k)), (6, .int (nI (by2 f p))), (7, .int (nI a)), (9, .int (nI i9)), (10, .int (nI d)), (11, .int (nI (f0 + k)))], [], M649)) (S2 := (472, [(12, .int (-1)), (0, .ref m0), (1, .int (nI p)), (2, .int (nI (by2 f pM))), (3, .int (nI f0)), (4, .int (nI ib)), (5, .int (nI k)), (6, .int (nI (by2 f p))), (7, .int (nI a)), (9, .int (nI i9)), (10, .int (nI d)), (11, .int (nI (f0 + k)))], [], M649)) rfl rfl rfl (fun c_469 => ?_) (fun c_469 => ?_)
            · exact absurd (of_decide_eq_true c_469) (by decide)
            refine ps_st (S' := (473, [(12, .int (-1)), (0, .ref m0), (1, .int (nI p)), (2, .int (nI (by2 f pM))), (3, .int (nI f0)), (4, .int (nI ib)), (5, .int (nI k)), (6, .int (nI (by2 f p))), (7, .int (nI a)), (9, .int (nI i9)), (10, .int (nI d)), (11, .int (nI (f0 + k)))], [.int 0], M649)) rfl rfl rfl ?_
            exact ps_ret rfl rfl (Or.inr ⟨e9651, I652, R653, by
                rw [← hs, mtS_st (i := k) (by omega), ← hpk, mh_n hnm hfl hds (by rw [← hd9, show k - j = 0 by omega]; rfl), q462_s], rfl, hR654, hEI678, hER679, hi657, hi658⟩)
          · skip
            obtain ⟨h9680, K681, I682, R683, q462_s, q462_U, rfl, hR684, hI685, hX686, hC_687, hW_688⟩ := q650
            have hi689 := (hI685 51 (by decide)).trans hi627
            have hi690 := (hI685 52 (by decide)).trans hi628
            have hi691 := (hI685 53 (by decide)).trans hi629
            have hi692 := (hI685 58 (by decide)).trans hi630
            have hi693 := (hI685 56 (by decide)).trans hi631
            have hi694 := (hI685 9 (by decide)).trans hi632
            have hi695 := (hI685 10 (by decide)).trans hi633
            have hi696 := (hI685 26 (by decide)).trans hi625
            have hF_697 := hF_634.mono (cIx hI685 (by decide)) (cRx hX686 (by decide))
            have hY_698 := hY_635.mono (cIx hI685 (by decide)) (cRx hX686 (by decide))
            have hP_699 := hP_636.mono (cIx hI685 (by decide)) (cRx hX686 (by decide))
            have hK_700 := hK_637.mono (cIx hI685 (by decide)) (cRx hX686 (by decide))
            have hN9_701 := hN9_638.mono (cIx hI685 (by decide)) (cRx hX686 (by decide))
            have c34_702 := c34_639.mono (cIx hI685 (by decide)) (cRx hX686 (by decide))
            have c35_703 := c35_640.mono (cIx hI685 (by decide)) (cRx hX686 (by decide))
            have c36_704 := c36_641.mono (cIx hI685 (by decide)) (cRx hX686 (by decide))
            have c45_705 := c45_645.mono (cIx hI685 (by decide)) (cRx hX686 (by decide))
            have c46_706 := c46_646.mono (cIx hI685 (by decide)) (cRx hX686 (by decide))
            have hX_707 := hX9.mono (cIx hI685 (by decide)) (cRx hX686 (by decide))
            have hEI708 := hEI647.tr hI685 (by decide)
            have hER709 := hER1.tr hX686 (by decide)
            show pl _ _ _ (465, [(0, .ref m0), (1, .int (nI p)), (2, .int (nI (by2 f pM))), (3, .int (nI f0)), (4, .int (nI ib)), (5, .int (nI k)), (6, .int (nI (by2 f p))), (7, .int (nI a)), (9, .int (nI i9)), (10, .int (nI d)), (11, .int (nI (f0 + k))), (12, .int (nI (f0 + j)))], [.int (nI (E1 k))], M649) _
            have hh1 := maS_h (by decide) q462_s
            obtain ⟨y9, hy9, hyc⟩ := CX.val hC_687
            have hQ7 := MQX.ex hQ_643 hX686 hW_688
            refine ps_st (S' := (467, [(12, .int (nI (E1 k))), (0, .ref m0), (1, .int (nI p)), (2, .int (nI (by2 f pM))), (3, .int (nI f0)), (4, .int (nI ib)), (5, .int (nI k)), (6, .int (nI (by2 f p))), (7, .int (nI a)), (9, .int (nI i9)), (10, .int (nI d)), (11, .int (nI (f0 + k)))], [], M649)) rfl rfl rfl ?_
            refine ps_st (S' := (469, [(12, .int (nI (E1 k))), (0, .ref m0), (1, .int (nI p)), (2, .int (nI (by2 f pM))), (3, .int (nI f0)), (4, .int (nI ib)), (5, .int (nI k)), (6, .int (nI (by2 f p))), (7, .int (nI a)), (9, .int (nI i9)), (10, .int (nI d)), (11, .int (nI (f0 + k)))], [.int (nI (E1 k))], M649)) rfl rfl rfl ?_
            refine ps_if (S1 := (474, [(12, .int (nI (E1 k))), (0, .ref m0), (1, .int (nI p)), (2, .int (nI (by2 f pM))), (3, .int (nI f0)), (4, .int (nI ib)), (5, .int (nI k)), (6, .int (nI (by2 f p))), (7, .int (nI a)), (9, .int (nI i9)), (10, .int (nI d)), (11, .int (nI (f0 + k)))], [], M649)) (S2 := (472, [(12, .int (nI (E1 k))), (0, .ref m0), (1, .int (nI p)), (2, .int (nI (by2 f pM))), (3, .int (nI f0)), (4, .int (nI ib)), (5, .int (nI k)), (6, .int (nI (by2 f p))), (7, .int (nI a)), (9, .int (nI i9)), (10, .int (nI d)), (11, .int (nI (f0 + k)))], [], M649)) rfl rfl rfl (fun c_469 => ?_) (fun c_469 => ?_)
            rotate_left
            · exact absurd ((le_nI (p := 0) (n := E1 k) (by decide) (by omega)).mpr (by omega)) (of_decide_eq_false c_469)
            refine ps_st (S' := (476, [(12, .int (nI (E1 k))), (0, .ref m0), (1, .int (nI p)), (2, .int (nI (by2 f pM))), (3, .int (nI f0)), (4, .int (nI ib)), (5, .int (nI k)), (6, .int (nI (by2 f p))), (7, .int (nI a)), (9, .int (nI i9)), (10, .int (nI d)), (11, .int (nI (f0 + k)))], [.int (nI (by2 f p))], M649)) rfl rfl rfl ?_
            refine ps_st (S' := (479, [(12, .int (nI (E1 k))), (0, .ref m0), (1, .int (nI p)), (2, .int (nI (by2 f pM))), (3, .int (nI f0)), (4, .int (nI ib)), (5, .int (nI k)), (6, .int (nI (by2 f p))), (7, .int (nI a)), (9, .int (nI i9)), (10, .int (nI d)), (11, .int (nI (f0 + k)))], [.int 1280, .int (nI (by2 f p))], M649)) rfl rfl rfl ?_
            refine ps_st (S' := (480, [(12, .int (nI (E1 k))), (0, .ref m0), (1, .int (nI p)), (2, .int (nI (by2 f pM))), (3, .int (nI f0)), (4, .int (nI ib)), (5, .int (nI k)), (6, .int (nI (by2 f p))), (7, .int (nI a)), (9, .int (nI i9)), (10, .int (nI d)), (11, .int (nI (f0 + k)))], [.int ((nI (by2 f p)) &&& 1280)], M649)) rfl rfl rfl ?_
            rw [nI_an (p := by2 f p) (k := 1280) (x := 1280) rfl]
            show pl _ _ _ (_, [(12, .int (nI (E1 k))), (0, .ref m0), (1, .int (nI p)), (2, .int (nI (by2 f pM))), (3, .int (nI f0)), (4, .int (nI ib)), (5, .int (nI k)), (6, .int (nI (by2 f p))), (7, .int (nI a)), (9, .int (nI i9)), (10, .int (nI d)), (11, .int (nI (f0 + k)))], [.int (nI (aN (by2 f p) 1280))], M649) _
            refine ps_if (S1 := (492, [(0, .ref m0), (1, .int (nI p)), (2, .int (nI (by2 f pM))), (3, .int (nI f0)), (4, .int (nI ib)), (5, .int (nI k)), (11, .int (nI (f0 + k))), (12, .int (nI (E1 k)))], [], M649)) (S2 := (483, [(12, .int (nI (E1 k))), (0, .ref m0), (1, .int (nI p)), (2, .int (nI (by2 f pM))), (3, .int (nI f0)), (4, .int (nI ib)), (5, .int (nI k)), (6, .int (nI (by2 f p))), (7, .int (nI a)), (9, .int (nI i9)), (10, .int (nI d)), (11, .int (nI (f0 + k)))], [], M649)) rfl rfl rfl (fun c_480 => ?_) (fun c_480 => ?_)
            · have c_480 : (nI (aN (by2 f p) 1280)) = 0 := of_decide_eq_true c_480
              have n_480 : aN (by2 f p) 1280 = 0 := (eq_nI (p := aN (by2 f p) 1280) (n := 0) (Nat.lt_of_le_of_lt (an_le _ _) (by decide)) (by decide)).mp c_480
              refine ps_st (S' := (493, [(0, .ref m0), (1, .int (nI p)), (2, .int (nI (by2 f pM))), (3, .int (nI f0)), (4, .int (nI ib)), (5, .int (nI k)), (11, .int (nI (f0 + k))), (12, .int (nI (E1 k)))], [.int 0], M649)) rfl rfl rfl ?_
              refine ps_st (S' := (495, [(13, .int 0), (0, .ref m0), (1, .int (nI p)), (2, .int (nI (by2 f pM))), (3, .int (nI f0)), (4, .int (nI ib)), (5, .int (nI k)), (11, .int (nI (f0 + k))), (12, .int (nI (E1 k)))], [], M649)) rfl rfl rfl ?_
              refine ps_st (S' := (496, [(13, .int 0), (0, .ref m0), (1, .int (nI p)), (2, .int (nI (by2 f pM))), (3, .int (nI f0)), (4, .int (nI ib)), (5, .int (nI k)), (11, .int (nI (f0 + k))), (12, .int (nI (E1 k)))], [.ref m0], M649)) rfl rfl rfl ?_
              refine pr_ref (j := 37) (S' := (499, [(13, .int 0), (0, .ref m0), (1, .int (nI p)), (2, .int (nI (by2 f pM))), (3, .int (nI f0)), (4, .int (nI ib)), (5, .int (nI k)), (11, .int (nI (f0 + k))), (12, .int (nI (E1 k)))], [.ref (q 37)], M649)) rfl hR684 rfl rfl ?_
              refine ps_st (S' := (501, [(13, .int 0), (0, .ref m0), (1, .int (nI p)), (2, .int (nI (by2 f pM))), (3, .int (nI f0)), (4, .int (nI ib)), (5, .int (nI k)), (11, .int (nI (f0 + k))), (12, .int (nI (E1 k)))], [.int (nI (f0 + k)), .ref (q 37)], M649)) rfl rfl rfl ?_
              refine pr_ld (a := 37) (j := f0 + k) (y := y9) (S' := (502, [(13, .int 0), (0, .ref m0), (1, .int (nI p)), (2, .int (nI (by2 f pM))), (3, .int (nI f0)), (4, .int (nI ib)), (5, .int (nI k)), (11, .int (nI (f0 + k))), (12, .int (nI (E1 k)))], [.int y9], M649)) rfl hR684 rfl (by omega) (fun _ => hy9) rfl (fun i1_501 => ?_)
              refine ps_if (S1 := (509, [(13, .int 0), (0, .ref m0), (1, .int (nI p)), (2, .int (nI (by2 f pM))), (3, .int (nI f0)), (4, .int (nI ib)), (5, .int (nI k)), (11, .int (nI (f0 + k))), (12, .int (nI (E1 k)))], [], M649)) (S2 := (505, [(13, .int 0), (0, .ref m0), (1, .int (nI p)), (2, .int (nI (by2 f pM))), (3, .int (nI f0)), (4, .int (nI ib)), (5, .int (nI k)), (11, .int (nI (f0 + k))), (12, .int (nI (E1 k)))], [], M649)) rfl rfl rfl (fun c_502 => ?_) (fun c_502 => ?_)
              · have c_502 : 0 ≤ y9 := of_decide_eq_true c_502
                have hh9 : ¬ h9680 = 0 := by rcases hyc with h8 | h8; exact absurd h8.2 (Int32.not_lt.mpr c_502); exact h8.1
                refine ps_st (S' := (510, [(0, .ref m0), (1, .int (nI p)), (2, .int (nI (by2 f pM))), (3, .int (nI f0)), (4, .int (nI ib)), (5, .int (nI k)), (12, .int (nI (E1 k))), (13, .int 0)], [.int 0], M649)) rfl rfl rfl ?_
                refine ps_st (S' := (512, [(0, .ref m0), (1, .int (nI p)), (2, .int (nI (by2 f pM))), (3, .int (nI f0)), (4, .int (nI ib)), (5, .int (nI k)), (12, .int (nI (E1 k))), (13, .int 0)], [.int 0, .int 0], M649)) rfl rfl rfl ?_
                refine ps_if2 (S1 := (523, [(0, .ref m0), (1, .int (nI p)), (2, .int (nI (by2 f pM))), (3, .int (nI f0)), (4, .int (nI ib)), (5, .int (nI k)), (12, .int (nI (E1 k))), (13, .int 0)], [], M649)) (S2 := (515, [(0, .ref m0), (1, .int (nI p)), (2, .int (nI (by2 f pM))), (3, .int (nI f0)), (4, .int (nI ib)), (5, .int (nI k)), (12, .int (nI (E1 k))), (13, .int 0)], [], M649)) rfl rfl rfl (fun c_512 => ?_) (fun c_512 => ?_)
                rotate_left
                · exact absurd (by decide) (of_decide_eq_false c_512)
                refine ps_st (S' := (525, [(0, .ref m0), (1, .int (nI p)), (2, .int (nI (by2 f pM))), (3, .int (nI f0)), (4, .int (nI ib)), (5, .int (nI k)), (12, .int (nI (E1 k))), (13, .int 0)], [.int (nI (E1 k))], M649)) rfl rfl rfl ?_
                refine ps_st (S' := (526, [(1, .int (nI (E1 k))), (0, .ref m0), (2, .int (nI (by2 f pM))), (3, .int (nI f0)), (4, .int (nI ib)), (5, .int (nI k)), (12, .int (nI (E1 k))), (13, .int 0)], [], M649)) rfl rfl rfl ?_
                refine ps_st (S' := (529, [(5, .int ((nI k) + 1)), (1, .int (nI (E1 k))), (0, .ref m0), (2, .int (nI (by2 f pM))), (3, .int (nI f0)), (4, .int (nI ib)), (12, .int (nI (E1 k))), (13, .int 0)], [], M649)) rfl rfl rfl ?_
                rw [nI_add1 (p := k) (k := 1) (x := 1) rfl (by omega)]
                show pl _ _ _ (_, [(5, .int (nI (k + 1))), (1, .int (nI (E1 k))), (0, .ref m0), (2, .int (nI (by2 f pM))), (3, .int (nI f0)), (4, .int (nI ib)), (12, .int (nI (E1 k))), (13, .int 0)], [], M649) _
                refine ps_st (S' := (40, [(0, .ref m0), (1, .int (nI (E1 k))), (2, .int (nI (by2 f pM))), (3, .int (nI f0)), (4, .int (nI ib)), (5, .int (nI (k + 1)))], [], M649)) rfl rfl rfl ?_
                have hQ8 := MQX.more hQ7 hpk hW_688 q462_U c34_702 c45_705 c46_706
                have hN8 := FN.more hN9_701 hpk c35_703 c36_704 hsa hsd ht1 ht2
                exact ih.1 (k + 1) (E1 k) (ib) M649 I682 R683 hR684 hEI708 hER709 hi689 hi690 hi691 hi692 hi693 hi696 hi694 hi695 hF_697 hY_698 hP_699 hK_700 hN8 hQ8 (by omega) (fun h9 => (hm9.2.2.2 (by omega)).symm) (hm9.2.1) (by
                    rw [← hs, mtS_st (i := k) (by omega), ← hpk, mh_n hnm hfl hds (by rw [← hd9, show k - j = 0 by omega]; rfl), q462_s]
                    dsimp only
                    rw [cdu_0, if_pos (by omega), if_pos (by omega)]) (hib)
              · have c_502 : ¬ (0 ≤ y9) := of_decide_eq_false c_502
                have hh9 : h9680 = 0 := by rcases hyc with h8 | h8; exact h8.1; exact absurd (Int32.not_le.mp c_502) h8.2
                refine ps_st (S' := (506, [(13, .int 0), (0, .ref m0), (1, .int (nI p)), (2, .int (nI (by2 f pM))), (3, .int (nI f0)), (4, .int (nI ib)), (5, .int (nI k)), (11, .int (nI (f0 + k))), (12, .int (nI (E1 k)))], [.int 1], M649)) rfl rfl rfl ?_
                refine ps_st (S' := (510, [(0, .ref m0), (1, .int (nI p)), (2, .int (nI (by2 f pM))), (3, .int (nI f0)), (4, .int (nI ib)), (5, .int (nI k)), (12, .int (nI (E1 k))), (13, .int 0)], [.int 1], M649)) rfl rfl rfl ?_
                refine ps_st (S' := (512, [(0, .ref m0), (1, .int (nI p)), (2, .int (nI (by2 f pM))), (3, .int (nI f0)), (4, .int (nI ib)), (5, .int (nI k)), (12, .int (nI (E1 k))), (13, .int 0)], [.int 0, .int 1], M649)) rfl rfl rfl ?_
                refine ps_if2 (S1 := (523, [(0, .ref m0), (1, .int (nI p)), (2, .int (nI (by2 f pM))), (3, .int (nI f0)), (4, .int (nI ib)), (5, .int (nI k)), (12, .int (nI (E1 k))), (13, .int 0)], [], M649)) (S2 := (515, [(0, .ref m0), (1, .int (nI p)), (2, .int (nI (by2 f pM))), (3, .int (nI f0)), (4, .int (nI ib)), (5, .int (nI k)), (12, .int (nI (E1 k))), (13, .int 0)], [], M649)) rfl rfl rfl (fun c_512 => ?_) (fun c_512 => ?_)
                · exact absurd (of_decide_eq_true c_512) (by decide)
                refine ps_st (S' := (516, [(0, .ref m0), (1, .int (nI p)), (2, .int (nI (by2 f pM))), (3, .int (nI f0)), (4, .int (nI ib)), (5, .int (nI k)), (12, .int (nI (E1 k))), (13, .int 0)], [.ref m0], M649)) rfl rfl rfl ?_
                refine ps_st (S' := (518, [(0, .ref m0), (1, .int (nI p)), (2, .int (nI (by2 f pM))), (3, .int (nI f0)), (4, .int (nI ib)), (5, .int (nI k)), (12, .int (nI (E1 k))), (13, .int 0)], [.int 27, .ref m0], M649)) rfl rfl rfl ?_
                refine ps_st (S' := (519, [(0, .ref m0), (1, .int (nI p)), (2, .int (nI (by2 f pM))), (3, .int (nI f0)), (4, .int (nI ib)), (5, .int (nI k)), (12, .int (nI (E1 k))), (13, .int 0)], [.int (nI p), .int 27, .ref m0], M649)) rfl rfl rfl ?_
                refine pl_call (a := [.ref m0, .int 27, .int (nI p)]) (rest := []) rfl rfl rfl (rd_wrong (x1 := 27) (x2 := (nI p)) hR684) (fun v710 M711 q712 => ?_)
                obtain ⟨I713, R714, rfl, hR715, hI716, hX717, hi718, hi719⟩ := q712
                have hi720 := (hI716 51 (by decide)).trans hi689
                have hi721 := (hI716 52 (by decide)).trans hi690
                have hi722 := (hI716 53 (by decide)).trans hi691
                have hi723 := (hI716 58 (by decide)).trans hi692
                have hi724 := (hI716 56 (by decide)).trans hi693
                have hi725 := (hI716 9 (by decide)).trans hi694
                have hi726 := (hI716 10 (by decide)).trans hi695
                have hi727 := (hI716 26 (by decide)).trans hi696
                have hF_728 := hF_697.mono (cIx hI716 (by decide)) (cRx hX717 (by decide))
                have hY_729 := hY_698.mono (cIx hI716 (by decide)) (cRx hX717 (by decide))
                have hP_730 := hP_699.mono (cIx hI716 (by decide)) (cRx hX717 (by decide))
                have hK_731 := hK_700.mono (cIx hI716 (by decide)) (cRx hX717 (by decide))
                have hN9_732 := hN9_701.mono (cIx hI716 (by decide)) (cRx hX717 (by decide))
                have c34_733 := c34_702.mono (cIx hI716 (by decide)) (cRx hX717 (by decide))
                have c35_734 := c35_703.mono (cIx hI716 (by decide)) (cRx hX717 (by decide))
                have c36_735 := c36_704.mono (cIx hI716 (by decide)) (cRx hX717 (by decide))
                have c45_736 := c45_705.mono (cIx hI716 (by decide)) (cRx hX717 (by decide))
                have c46_737 := c46_706.mono (cIx hI716 (by decide)) (cRx hX717 (by decide))
                have hX_738 := hX_707.mono (cIx hI716 (by decide)) (cRx hX717 (by decide))
                have hC_739 := hC_687.mono (cIx hI716 (by decide)) (cRx hX717 (by decide))
                have hW_740 := hW_688.mono (cIx hI716 (by decide)) (cRx hX717 (by decide))
                have hQ_741 := hQ7.mono (cIx hI716 (by decide)) (cRx hX717 (by decide))
                have hEI742 := hEI708.tr hI716 (by decide)
                have hER743 := hER709.tr hX717 (by decide)
                show pl _ _ _ (522, [(0, .ref m0), (1, .int (nI p)), (2, .int (nI (by2 f pM))), (3, .int (nI f0)), (4, .int (nI ib)), (5, .int (nI k)), (12, .int (nI (E1 k))), (13, .int 0)], [.int 0], M711) _
                exact ps_ret rfl rfl (Or.inr ⟨(27, p), I713, R714, by
                    rw [← hs, mtS_st (i := k) (by omega), ← hpk, mh_n hnm hfl hds (by rw [← hd9, show k - j = 0 by omega]; rfl), q462_s]
                    dsimp only
                    rw [cdu_0, if_pos (by omega), if_neg (by omega)], rfl, hR715, hEI742, hER743, hi718, hi719⟩)
            · have c_480 : ¬ ((nI (aN (by2 f p) 1280)) = 0) := of_decide_eq_false c_480
              have n_480 : ¬ (aN (by2 f p) 1280 = 0) := fun h9 => c_480 ((eq_nI (p := aN (by2 f p) 1280) (n := 0) (Nat.lt_of_le_of_lt (an_le _ _) (by decide)) (by decide)).mpr h9)
              refine ps_st (S' := (485, [(12, .int (nI (E1 k))), (0, .ref m0), (1, .int (nI p)), (2, .int (nI (by2 f pM))), (3, .int (nI f0)), (4, .int (nI ib)), (5, .int (nI k)), (6, .int (nI (by2 f p))), (7, .int (nI a)), (9, .int (nI i9)), (10, .int (nI d)), (11, .int (nI (f0 + k)))], [.int (nI i9)], M649)) rfl rfl rfl ?_
              refine ps_if (S1 := (492, [(0, .ref m0), (1, .int (nI p)), (2, .int (nI (by2 f pM))), (3, .int (nI f0)), (4, .int (nI ib)), (5, .int (nI k)), (11, .int (nI (f0 + k))), (12, .int (nI (E1 k)))], [], M649)) (S2 := (488, [(12, .int (nI (E1 k))), (0, .ref m0), (1, .int (nI p)), (2, .int (nI (by2 f pM))), (3, .int (nI f0)), (4, .int (nI ib)), (5, .int (nI k)), (6, .int (nI (by2 f p))), (7, .int (nI a)), (9, .int (nI i9)), (10, .int (nI d)), (11, .int (nI (f0 + k)))], [], M649)) rfl rfl rfl (fun c_485 => ?_) (fun c_485 => ?_)
              · have c_485 : ¬ (nI i9) = 0 := of_decide_eq_true c_485
                have n_485 : ¬ (i9 = 0) := fun h9 => c_485 ((eq_nI (p := i9) (n := 0) (by omega) (by decide)).mpr h9)
                refine ps_st (S' := (493, [(0, .ref m0), (1, .int (nI p)), (2, .int (nI (by2 f pM))), (3, .int (nI f0)), (4, .int (nI ib)), (5, .int (nI k)), (11, .int (nI (f0 + k))), (12, .int (nI (E1 k)))], [.int 0], M649)) rfl rfl rfl ?_
                refine ps_st (S' := (495, [(13, .int 0), (0, .ref m0), (1, .int (nI p)), (2, .int (nI (by2 f pM))), (3, .int (nI f0)), (4, .int (nI ib)), (5, .int (nI k)), (11, .int (nI (f0 + k))), (12, .int (nI (E1 k)))], [], M649)) rfl rfl rfl ?_
                refine ps_st (S' := (496, [(13, .int 0), (0, .ref m0), (1, .int (nI p)), (2, .int (nI (by2 f pM))), (3, .int (nI f0)), (4, .int (nI ib)), (5, .int (nI k)), (11, .int (nI (f0 + k))), (12, .int (nI (E1 k)))], [.ref m0], M649)) rfl rfl rfl ?_
                refine pr_ref (j := 37) (S' := (499, [(13, .int 0), (0, .ref m0), (1, .int (nI p)), (2, .int (nI (by2 f pM))), (3, .int (nI f0)), (4, .int (nI ib)), (5, .int (nI k)), (11, .int (nI (f0 + k))), (12, .int (nI (E1 k)))], [.ref (q 37)], M649)) rfl hR684 rfl rfl ?_
                refine ps_st (S' := (501, [(13, .int 0), (0, .ref m0), (1, .int (nI p)), (2, .int (nI (by2 f pM))), (3, .int (nI f0)), (4, .int (nI ib)), (5, .int (nI k)), (11, .int (nI (f0 + k))), (12, .int (nI (E1 k)))], [.int (nI (f0 + k)), .ref (q 37)], M649)) rfl rfl rfl ?_
                refine pr_ld (a := 37) (j := f0 + k) (y := y9) (S' := (502, [(13, .int 0), (0, .ref m0), (1, .int (nI p)), (2, .int (nI (by2 f pM))), (3, .int (nI f0)), (4, .int (nI ib)), (5, .int (nI k)), (11, .int (nI (f0 + k))), (12, .int (nI (E1 k)))], [.int y9], M649)) rfl hR684 rfl (by omega) (fun _ => hy9) rfl (fun i1_501 => ?_)
                refine ps_if (S1 := (509, [(13, .int 0), (0, .ref m0), (1, .int (nI p)), (2, .int (nI (by2 f pM))), (3, .int (nI f0)), (4, .int (nI ib)), (5, .int (nI k)), (11, .int (nI (f0 + k))), (12, .int (nI (E1 k)))], [], M649)) (S2 := (505, [(13, .int 0), (0, .ref m0), (1, .int (nI p)), (2, .int (nI (by2 f pM))), (3, .int (nI f0)), (4, .int (nI ib)), (5, .int (nI k)), (11, .int (nI (f0 + k))), (12, .int (nI (E1 k)))], [], M649)) rfl rfl rfl (fun c_502 => ?_) (fun c_502 => ?_)
                · have c_502 : 0 ≤ y9 := of_decide_eq_true c_502
                  have hh9 : ¬ h9680 = 0 := by rcases hyc with h8 | h8; exact absurd h8.2 (Int32.not_lt.mpr c_502); exact h8.1
                  refine ps_st (S' := (510, [(0, .ref m0), (1, .int (nI p)), (2, .int (nI (by2 f pM))), (3, .int (nI f0)), (4, .int (nI ib)), (5, .int (nI k)), (12, .int (nI (E1 k))), (13, .int 0)], [.int 0], M649)) rfl rfl rfl ?_
                  refine ps_st (S' := (512, [(0, .ref m0), (1, .int (nI p)), (2, .int (nI (by2 f pM))), (3, .int (nI f0)), (4, .int (nI ib)), (5, .int (nI k)), (12, .int (nI (E1 k))), (13, .int 0)], [.int 0, .int 0], M649)) rfl rfl rfl ?_
                  refine ps_if2 (S1 := (523, [(0, .ref m0), (1, .int (nI p)), (2, .int (nI (by2 f pM))), (3, .int (nI f0)), (4, .int (nI ib)), (5, .int (nI k)), (12, .int (nI (E1 k))), (13, .int 0)], [], M649)) (S2 := (515, [(0, .ref m0), (1, .int (nI p)), (2, .int (nI (by2 f pM))), (3, .int (nI f0)), (4, .int (nI ib)), (5, .int (nI k)), (12, .int (nI (E1 k))), (13, .int 0)], [], M649)) rfl rfl rfl (fun c_512 => ?_) (fun c_512 => ?_)
                  rotate_left
                  · exact absurd (by decide) (of_decide_eq_false c_512)
                  refine ps_st (S' := (525, [(0, .ref m0), (1, .int (nI p)), (2, .int (nI (by2 f pM))), (3, .int (nI f0)), (4, .int (nI ib)), (5, .int (nI k)), (12, .int (nI (E1 k))), (13, .int 0)], [.int (nI (E1 k))], M649)) rfl rfl rfl ?_
                  refine ps_st (S' := (526, [(1, .int (nI (E1 k))), (0, .ref m0), (2, .int (nI (by2 f pM))), (3, .int (nI f0)), (4, .int (nI ib)), (5, .int (nI k)), (12, .int (nI (E1 k))), (13, .int 0)], [], M649)) rfl rfl rfl ?_
                  refine ps_st (S' := (529, [(5, .int ((nI k) + 1)), (1, .int (nI (E1 k))), (0, .ref m0), (2, .int (nI (by2 f pM))), (3, .int (nI f0)), (4, .int (nI ib)), (12, .int (nI (E1 k))), (13, .int 0)], [], M649)) rfl rfl rfl ?_
                  rw [nI_add1 (p := k) (k := 1) (x := 1) rfl (by omega)]
                  show pl _ _ _ (_, [(5, .int (nI (k + 1))), (1, .int (nI (E1 k))), (0, .ref m0), (2, .int (nI (by2 f pM))), (3, .int (nI f0)), (4, .int (nI ib)), (12, .int (nI (E1 k))), (13, .int 0)], [], M649) _
                  refine ps_st (S' := (40, [(0, .ref m0), (1, .int (nI (E1 k))), (2, .int (nI (by2 f pM))), (3, .int (nI f0)), (4, .int (nI ib)), (5, .int (nI (k + 1)))], [], M649)) rfl rfl rfl ?_
                  have hQ8 := MQX.more hQ7 hpk hW_688 q462_U c34_702 c45_705 c46_706
                  have hN8 := FN.more hN9_701 hpk c35_703 c36_704 hsa hsd ht1 ht2
                  exact ih.1 (k + 1) (E1 k) (ib) M649 I682 R683 hR684 hEI708 hER709 hi689 hi690 hi691 hi692 hi693 hi696 hi694 hi695 hF_697 hY_698 hP_699 hK_700 hN8 hQ8 (by omega) (fun h9 => (hm9.2.2.2 (by omega)).symm) (hm9.2.1) (by
                      rw [← hs, mtS_st (i := k) (by omega), ← hpk, mh_n hnm hfl hds (by rw [← hd9, show k - j = 0 by omega]; rfl), q462_s]
                      dsimp only
                      rw [cdu_0, if_pos (by omega), if_pos (by omega)]) (hib)
                · have c_502 : ¬ (0 ≤ y9) := of_decide_eq_false c_502
                  have hh9 : h9680 = 0 := by rcases hyc with h8 | h8; exact h8.1; exact absurd (Int32.not_le.mp c_502) h8.2
                  refine ps_st (S' := (506, [(13, .int 0), (0, .ref m0), (1, .int (nI p)), (2, .int (nI (by2 f pM))), (3, .int (nI f0)), (4, .int (nI ib)), (5, .int (nI k)), (11, .int (nI (f0 + k))), (12, .int (nI (E1 k)))], [.int 1], M649)) rfl rfl rfl ?_
                  refine ps_st (S' := (510, [(0, .ref m0), (1, .int (nI p)), (2, .int (nI (by2 f pM))), (3, .int (nI f0)), (4, .int (nI ib)), (5, .int (nI k)), (12, .int (nI (E1 k))), (13, .int 0)], [.int 1], M649)) rfl rfl rfl ?_
                  refine ps_st (S' := (512, [(0, .ref m0), (1, .int (nI p)), (2, .int (nI (by2 f pM))), (3, .int (nI f0)), (4, .int (nI ib)), (5, .int (nI k)), (12, .int (nI (E1 k))), (13, .int 0)], [.int 0, .int 1], M649)) rfl rfl rfl ?_
                  refine ps_if2 (S1 := (523, [(0, .ref m0), (1, .int (nI p)), (2, .int (nI (by2 f pM))), (3, .int (nI f0)), (4, .int (nI ib)), (5, .int (nI k)), (12, .int (nI (E1 k))), (13, .int 0)], [], M649)) (S2 := (515, [(0, .ref m0), (1, .int (nI p)), (2, .int (nI (by2 f pM))), (3, .int (nI f0)), (4, .int (nI ib)), (5, .int (nI k)), (12, .int (nI (E1 k))), (13, .int 0)], [], M649)) rfl rfl rfl (fun c_512 => ?_) (fun c_512 => ?_)
                  · exact absurd (of_decide_eq_true c_512) (by decide)
                  refine ps_st (S' := (516, [(0, .ref m0), (1, .int (nI p)), (2, .int (nI (by2 f pM))), (3, .int (nI f0)), (4, .int (nI ib)), (5, .int (nI k)), (12, .int (nI (E1 k))), (13, .int 0)], [.ref m0], M649)) rfl rfl rfl ?_
                  refine ps_st (S' := (518, [(0, .ref m0), (1, .int (nI p)), (2, .int (nI (by2 f pM))), (3, .int (nI f0)), (4, .int (nI ib)), (5, .int (nI k)), (12, .int (nI (E1 k))), (13, .int 0)], [.int 27, .ref m0], M649)) rfl rfl rfl ?_
                  refine ps_st (S' := (519, [(0, .ref m0), (1, .int (nI p)), (2, .int (nI (by2 f pM))), (3, .int (nI f0)), (4, .int (nI ib)), (5, .int (nI k)), (12, .int (nI (E1 k))), (13, .int 0)], [.int (nI p), .int 27, .ref m0], M649)) rfl rfl rfl ?_
                  refine pl_call (a := [.ref m0, .int 27, .int (nI p)]) (rest := []) rfl rfl rfl (rd_wrong (x1 := 27) (x2 := (nI p)) hR684) (fun v744 M745 q746 => ?_)
                  obtain ⟨I747, R748, rfl, hR749, hI750, hX751, hi752, hi753⟩ := q746
                  have hi754 := (hI750 51 (by decide)).trans hi689
                  have hi755 := (hI750 52 (by decide)).trans hi690
                  have hi756 := (hI750 53 (by decide)).trans hi691
                  have hi757 := (hI750 58 (by decide)).trans hi692
                  have hi758 := (hI750 56 (by decide)).trans hi693
                  have hi759 := (hI750 9 (by decide)).trans hi694
                  have hi760 := (hI750 10 (by decide)).trans hi695
                  have hi761 := (hI750 26 (by decide)).trans hi696
                  have hF_762 := hF_697.mono (cIx hI750 (by decide)) (cRx hX751 (by decide))
                  have hY_763 := hY_698.mono (cIx hI750 (by decide)) (cRx hX751 (by decide))
                  have hP_764 := hP_699.mono (cIx hI750 (by decide)) (cRx hX751 (by decide))
                  have hK_765 := hK_700.mono (cIx hI750 (by decide)) (cRx hX751 (by decide))
                  have hN9_766 := hN9_701.mono (cIx hI750 (by decide)) (cRx hX751 (by decide))
                  have c34_767 := c34_702.mono (cIx hI750 (by decide)) (cRx hX751 (by decide))
                  have c35_768 := c35_703.mono (cIx hI750 (by decide)) (cRx hX751 (by decide))
                  have c36_769 := c36_704.mono (cIx hI750 (by decide)) (cRx hX751 (by decide))
                  have c45_770 := c45_705.mono (cIx hI750 (by decide)) (cRx hX751 (by decide))
                  have c46_771 := c46_706.mono (cIx hI750 (by decide)) (cRx hX751 (by decide))
                  have hX_772 := hX_707.mono (cIx hI750 (by decide)) (cRx hX751 (by decide))
                  have hC_773 := hC_687.mono (cIx hI750 (by decide)) (cRx hX751 (by decide))
                  have hW_774 := hW_688.mono (cIx hI750 (by decide)) (cRx hX751 (by decide))
                  have hQ_775 := hQ7.mono (cIx hI750 (by decide)) (cRx hX751 (by decide))
                  have hEI776 := hEI708.tr hI750 (by decide)
                  have hER777 := hER709.tr hX751 (by decide)
                  show pl _ _ _ (522, [(0, .ref m0), (1, .int (nI p)), (2, .int (nI (by2 f pM))), (3, .int (nI f0)), (4, .int (nI ib)), (5, .int (nI k)), (12, .int (nI (E1 k))), (13, .int 0)], [.int 0], M745) _
                  exact ps_ret rfl rfl (Or.inr ⟨(27, p), I747, R748, by
                      rw [← hs, mtS_st (i := k) (by omega), ← hpk, mh_n hnm hfl hds (by rw [← hd9, show k - j = 0 by omega]; rfl), q462_s]
                      dsimp only
                      rw [cdu_0, if_pos (by omega), if_neg (by omega)], rfl, hR749, hEI776, hER777, hi752, hi753⟩)
              · have c_485 : ¬ (¬ (nI i9) = 0) := of_decide_eq_false c_485
                have n_485 : i9 = 0 := (eq_nI (p := i9) (n := 0) (by omega) (by decide)).mp (Decidable.not_not.mp c_485)
                refine ps_st (S' := (489, [(12, .int (nI (E1 k))), (0, .ref m0), (1, .int (nI p)), (2, .int (nI (by2 f pM))), (3, .int (nI f0)), (4, .int (nI ib)), (5, .int (nI k)), (6, .int (nI (by2 f p))), (7, .int (nI a)), (9, .int (nI i9)), (10, .int (nI d)), (11, .int (nI (f0 + k)))], [.int 1], M649)) rfl rfl rfl ?_
                refine ps_st (S' := (493, [(0, .ref m0), (1, .int (nI p)), (2, .int (nI (by2 f pM))), (3, .int (nI f0)), (4, .int (nI ib)), (5, .int (nI k)), (11, .int (nI (f0 + k))), (12, .int (nI (E1 k)))], [.int 1], M649)) rfl rfl rfl ?_
                refine ps_st (S' := (495, [(13, .int 1), (0, .ref m0), (1, .int (nI p)), (2, .int (nI (by2 f pM))), (3, .int (nI f0)), (4, .int (nI ib)), (5, .int (nI k)), (11, .int (nI (f0 + k))), (12, .int (nI (E1 k)))], [], M649)) rfl rfl rfl ?_
                refine ps_st (S' := (496, [(13, .int 1), (0, .ref m0), (1, .int (nI p)), (2, .int (nI (by2 f pM))), (3, .int (nI f0)), (4, .int (nI ib)), (5, .int (nI k)), (11, .int (nI (f0 + k))), (12, .int (nI (E1 k)))], [.ref m0], M649)) rfl rfl rfl ?_
                refine pr_ref (j := 37) (S' := (499, [(13, .int 1), (0, .ref m0), (1, .int (nI p)), (2, .int (nI (by2 f pM))), (3, .int (nI f0)), (4, .int (nI ib)), (5, .int (nI k)), (11, .int (nI (f0 + k))), (12, .int (nI (E1 k)))], [.ref (q 37)], M649)) rfl hR684 rfl rfl ?_
                refine ps_st (S' := (501, [(13, .int 1), (0, .ref m0), (1, .int (nI p)), (2, .int (nI (by2 f pM))), (3, .int (nI f0)), (4, .int (nI ib)), (5, .int (nI k)), (11, .int (nI (f0 + k))), (12, .int (nI (E1 k)))], [.int (nI (f0 + k)), .ref (q 37)], M649)) rfl rfl rfl ?_
                refine pr_ld (a := 37) (j := f0 + k) (y := y9) (S' := (502, [(13, .int 1), (0, .ref m0), (1, .int (nI p)), (2, .int (nI (by2 f pM))), (3, .int (nI f0)), (4, .int (nI ib)), (5, .int (nI k)), (11, .int (nI (f0 + k))), (12, .int (nI (E1 k)))], [.int y9], M649)) rfl hR684 rfl (by omega) (fun _ => hy9) rfl (fun i1_501 => ?_)
                refine ps_if (S1 := (509, [(13, .int 1), (0, .ref m0), (1, .int (nI p)), (2, .int (nI (by2 f pM))), (3, .int (nI f0)), (4, .int (nI ib)), (5, .int (nI k)), (11, .int (nI (f0 + k))), (12, .int (nI (E1 k)))], [], M649)) (S2 := (505, [(13, .int 1), (0, .ref m0), (1, .int (nI p)), (2, .int (nI (by2 f pM))), (3, .int (nI f0)), (4, .int (nI ib)), (5, .int (nI k)), (11, .int (nI (f0 + k))), (12, .int (nI (E1 k)))], [], M649)) rfl rfl rfl (fun c_502 => ?_) (fun c_502 => ?_)
                · have c_502 : 0 ≤ y9 := of_decide_eq_true c_502
                  have hh9 : ¬ h9680 = 0 := by rcases hyc with h8 | h8; exact absurd h8.2 (Int32.not_lt.mpr c_502); exact h8.1
                  refine ps_st (S' := (510, [(0, .ref m0), (1, .int (nI p)), (2, .int (nI (by2 f pM))), (3, .int (nI f0)), (4, .int (nI ib)), (5, .int (nI k)), (12, .int (nI (E1 k))), (13, .int 1)], [.int 0], M649)) rfl rfl rfl ?_
                  refine ps_st (S' := (512, [(0, .ref m0), (1, .int (nI p)), (2, .int (nI (by2 f pM))), (3, .int (nI f0)), (4, .int (nI ib)), (5, .int (nI k)), (12, .int (nI (E1 k))), (13, .int 1)], [.int 1, .int 0], M649)) rfl rfl rfl ?_
                  refine ps_if2 (S1 := (523, [(0, .ref m0), (1, .int (nI p)), (2, .int (nI (by2 f pM))), (3, .int (nI f0)), (4, .int (nI ib)), (5, .int (nI k)), (12, .int (nI (E1 k))), (13, .int 1)], [], M649)) (S2 := (515, [(0, .ref m0), (1, .int (nI p)), (2, .int (nI (by2 f pM))), (3, .int (nI f0)), (4, .int (nI ib)), (5, .int (nI k)), (12, .int (nI (E1 k))), (13, .int 1)], [], M649)) rfl rfl rfl (fun c_512 => ?_) (fun c_512 => ?_)
                  · exact absurd (of_decide_eq_true c_512) (by decide)
                  refine ps_st (S' := (516, [(0, .ref m0), (1, .int (nI p)), (2, .int (nI (by2 f pM))), (3, .int (nI f0)), (4, .int (nI ib)), (5, .int (nI k)), (12, .int (nI (E1 k))), (13, .int 1)], [.ref m0], M649)) rfl rfl rfl ?_
                  refine ps_st (S' := (518, [(0, .ref m0), (1, .int (nI p)), (2, .int (nI (by2 f pM))), (3, .int (nI f0)), (4, .int (nI ib)), (5, .int (nI k)), (12, .int (nI (E1 k))), (13, .int 1)], [.int 27, .ref m0], M649)) rfl rfl rfl ?_
                  refine ps_st (S' := (519, [(0, .ref m0), (1, .int (nI p)), (2, .int (nI (by2 f pM))), (3, .int (nI f0)), (4, .int (nI ib)), (5, .int (nI k)), (12, .int (nI (E1 k))), (13, .int 1)], [.int (nI p), .int 27, .ref m0], M649)) rfl rfl rfl ?_
                  refine pl_call (a := [.ref m0, .int 27, .int (nI p)]) (rest := []) rfl rfl rfl (rd_wrong (x1 := 27) (x2 := (nI p)) hR684) (fun v778 M779 q780 => ?_)
                  obtain ⟨I781, R782, rfl, hR783, hI784, hX785, hi786, hi787⟩ := q780
                  have hi788 := (hI784 51 (by decide)).trans hi689
                  have hi789 := (hI784 52 (by decide)).trans hi690
                  have hi790 := (hI784 53 (by decide)).trans hi691
                  have hi791 := (hI784 58 (by decide)).trans hi692
                  have hi792 := (hI784 56 (by decide)).trans hi693
                  have hi793 := (hI784 9 (by decide)).trans hi694
                  have hi794 := (hI784 10 (by decide)).trans hi695
                  have hi795 := (hI784 26 (by decide)).trans hi696
                  have hF_796 := hF_697.mono (cIx hI784 (by decide)) (cRx hX785 (by decide))
                  have hY_797 := hY_698.mono (cIx hI784 (by decide)) (cRx hX785 (by decide))
                  have hP_798 := hP_699.mono (cIx hI784 (by decide)) (cRx hX785 (by decide))
                  have hK_799 := hK_700.mono (cIx hI784 (by decide)) (cRx hX785 (by decide))
                  have hN9_800 := hN9_701.mono (cIx hI784 (by decide)) (cRx hX785 (by decide))
                  have c34_801 := c34_702.mono (cIx hI784 (by decide)) (cRx hX785 (by decide))
                  have c35_802 := c35_703.mono (cIx hI784 (by decide)) (cRx hX785 (by decide))
                  have c36_803 := c36_704.mono (cIx hI784 (by decide)) (cRx hX785 (by decide))
                  have c45_804 := c45_705.mono (cIx hI784 (by decide)) (cRx hX785 (by decide))
                  have c46_805 := c46_706.mono (cIx hI784 (by decide)) (cRx hX785 (by decide))
                  have hX_806 := hX_707.mono (cIx hI784 (by decide)) (cRx hX785 (by decide))
                  have hC_807 := hC_687.mono (cIx hI784 (by decide)) (cRx hX785 (by decide))
                  have hW_808 := hW_688.mono (cIx hI784 (by decide)) (cRx hX785 (by decide))
                  have hQ_809 := hQ7.mono (cIx hI784 (by decide)) (cRx hX785 (by decide))
                  have hEI810 := hEI708.tr hI784 (by decide)
                  have hER811 := hER709.tr hX785 (by decide)
                  show pl _ _ _ (522, [(0, .ref m0), (1, .int (nI p)), (2, .int (nI (by2 f pM))), (3, .int (nI f0)), (4, .int (nI ib)), (5, .int (nI k)), (12, .int (nI (E1 k))), (13, .int 1)], [.int 0], M779) _
                  exact ps_ret rfl rfl (Or.inr ⟨(27, p), I781, R782, by
                      rw [← hs, mtS_st (i := k) (by omega), ← hpk, mh_n hnm hfl hds (by rw [← hd9, show k - j = 0 by omega]; rfl), q462_s]
                      dsimp only
                      rw [cdu_0, if_neg (by omega), if_neg (by omega)], rfl, hR783, hEI810, hER811, hi786, hi787⟩)
                · have c_502 : ¬ (0 ≤ y9) := of_decide_eq_false c_502
                  have hh9 : h9680 = 0 := by rcases hyc with h8 | h8; exact h8.1; exact absurd (Int32.not_le.mp c_502) h8.2
                  refine ps_st (S' := (506, [(13, .int 1), (0, .ref m0), (1, .int (nI p)), (2, .int (nI (by2 f pM))), (3, .int (nI f0)), (4, .int (nI ib)), (5, .int (nI k)), (11, .int (nI (f0 + k))), (12, .int (nI (E1 k)))], [.int 1], M649)) rfl rfl rfl ?_
                  refine ps_st (S' := (510, [(0, .ref m0), (1, .int (nI p)), (2, .int (nI (by2 f pM))), (3, .int (nI f0)), (4, .int (nI ib)), (5, .int (nI k)), (12, .int (nI (E1 k))), (13, .int 1)], [.int 1], M649)) rfl rfl rfl ?_
                  refine ps_st (S' := (512, [(0, .ref m0), (1, .int (nI p)), (2, .int (nI (by2 f pM))), (3, .int (nI f0)), (4, .int (nI ib)), (5, .int (nI k)), (12, .int (nI (E1 k))), (13, .int 1)], [.int 1, .int 1], M649)) rfl rfl rfl ?_
                  refine ps_if2 (S1 := (523, [(0, .ref m0), (1, .int (nI p)), (2, .int (nI (by2 f pM))), (3, .int (nI f0)), (4, .int (nI ib)), (5, .int (nI k)), (12, .int (nI (E1 k))), (13, .int 1)], [], M649)) (S2 := (515, [(0, .ref m0), (1, .int (nI p)), (2, .int (nI (by2 f pM))), (3, .int (nI f0)), (4, .int (nI ib)), (5, .int (nI k)), (12, .int (nI (E1 k))), (13, .int 1)], [], M649)) rfl rfl rfl (fun c_512 => ?_) (fun c_512 => ?_)
                  rotate_left
                  · exact absurd (by decide) (of_decide_eq_false c_512)
                  refine ps_st (S' := (525, [(0, .ref m0), (1, .int (nI p)), (2, .int (nI (by2 f pM))), (3, .int (nI f0)), (4, .int (nI ib)), (5, .int (nI k)), (12, .int (nI (E1 k))), (13, .int 1)], [.int (nI (E1 k))], M649)) rfl rfl rfl ?_
                  refine ps_st (S' := (526, [(1, .int (nI (E1 k))), (0, .ref m0), (2, .int (nI (by2 f pM))), (3, .int (nI f0)), (4, .int (nI ib)), (5, .int (nI k)), (12, .int (nI (E1 k))), (13, .int 1)], [], M649)) rfl rfl rfl ?_
                  refine ps_st (S' := (529, [(5, .int ((nI k) + 1)), (1, .int (nI (E1 k))), (0, .ref m0), (2, .int (nI (by2 f pM))), (3, .int (nI f0)), (4, .int (nI ib)), (12, .int (nI (E1 k))), (13, .int 1)], [], M649)) rfl rfl rfl ?_
                  rw [nI_add1 (p := k) (k := 1) (x := 1) rfl (by omega)]
                  show pl _ _ _ (_, [(5, .int (nI (k + 1))), (1, .int (nI (E1 k))), (0, .ref m0), (2, .int (nI (by2 f pM))), (3, .int (nI f0)), (4, .int (nI ib)), (12, .int (nI (E1 k))), (13, .int 1)], [], M649) _
                  refine ps_st (S' := (40, [(0, .ref m0), (1, .int (nI (E1 k))), (2, .int (nI (by2 f pM))), (3, .int (nI f0)), (4, .int (nI ib)), (5, .int (nI (k + 1)))], [], M649)) rfl rfl rfl ?_
                  have hQ8 := MQX.more hQ7 hpk hW_688 q462_U c34_702 c45_705 c46_706
                  have hN8 := FN.more hN9_701 hpk c35_703 c36_704 hsa hsd ht1 ht2
                  exact ih.1 (k + 1) (E1 k) (ib) M649 I682 R683 hR684 hEI708 hER709 hi689 hi690 hi691 hi692 hi693 hi696 hi694 hi695 hF_697 hY_698 hP_699 hK_700 hN8 hQ8 (by omega) (fun h9 => (hm9.2.2.2 (by omega)).symm) (hm9.2.1) (by
                      rw [← hs, mtS_st (i := k) (by omega), ← hpk, mh_n hnm hfl hds (by rw [← hd9, show k - j = 0 by omega]; rfl), q462_s]
                      dsimp only
                      rw [cdu_0, if_neg (by omega), if_pos (by omega)]) (hib)
        · have c_403 : ¬ ((nI (f0 + k)) ≤ (nI (f0 + j))) := of_decide_eq_false c_403
          have n_403 : ¬ (f0 + k ≤ f0 + j) := fun h9 => c_403 ((le_nI (p := f0 + k) (n := f0 + j) (by omega) (by omega)).mpr h9)
          obtain ⟨a9, d9, g1, g2, g3, g4, g5, g6⟩ := hN91 j (by omega)
          have g7 := g3.1
          have g8 := g4.1
          have sm1 := sm_sym (k := by2 f (B.getD j 0 + 2)) (m := by2 f (p + 2)) hY1 g3 hsa g5 ht1
          have sm2 := sm_sym (k := by2 f (B.getD j 0 + 4)) (m := by2 f (p + 4)) hY1 g4 hsd g6 ht2
          refine ps_st (S' := (407, [(0, .ref m0), (1, .int (nI p)), (2, .int (nI (by2 f pM))), (3, .int (nI f0)), (4, .int (nI ib)), (5, .int (nI k)), (6, .int (nI (by2 f p))), (7, .int (nI a)), (9, .int (nI i9)), (10, .int (nI d)), (11, .int (nI (f0 + k))), (12, .int (nI (f0 + j)))], [.ref m0], M1)) rfl rfl rfl ?_
          refine pr_ref (j := 35) (S' := (410, [(0, .ref m0), (1, .int (nI p)), (2, .int (nI (by2 f pM))), (3, .int (nI f0)), (4, .int (nI ib)), (5, .int (nI k)), (6, .int (nI (by2 f p))), (7, .int (nI a)), (9, .int (nI i9)), (10, .int (nI d)), (11, .int (nI (f0 + k))), (12, .int (nI (f0 + j)))], [.ref (q 35)], M1)) rfl hR1 rfl rfl ?_
          refine ps_st (S' := (412, [(0, .ref m0), (1, .int (nI p)), (2, .int (nI (by2 f pM))), (3, .int (nI f0)), (4, .int (nI ib)), (5, .int (nI k)), (6, .int (nI (by2 f p))), (7, .int (nI a)), (9, .int (nI i9)), (10, .int (nI d)), (11, .int (nI (f0 + k))), (12, .int (nI (f0 + j)))], [.int (nI (f0 + j)), .ref (q 35)], M1)) rfl rfl rfl ?_
          refine pr_ld (a := 35) (j := f0 + j) (y := (nI a9)) (S' := (413, [(0, .ref m0), (1, .int (nI p)), (2, .int (nI (by2 f pM))), (3, .int (nI f0)), (4, .int (nI ib)), (5, .int (nI k)), (6, .int (nI (by2 f p))), (7, .int (nI a)), (9, .int (nI i9)), (10, .int (nI d)), (11, .int (nI (f0 + k))), (12, .int (nI (f0 + j)))], [.int (nI a9)], M1)) rfl hR1 rfl (by omega) (fun _ => g1) rfl (fun i1_412 => ?_)
          refine ps_st (S' := (415, [(0, .ref m0), (1, .int (nI p)), (2, .int (nI (by2 f pM))), (3, .int (nI f0)), (4, .int (nI ib)), (5, .int (nI k)), (6, .int (nI (by2 f p))), (7, .int (nI a)), (9, .int (nI i9)), (10, .int (nI d)), (11, .int (nI (f0 + k))), (12, .int (nI (f0 + j)))], [.int (nI a), .int (nI a9)], M1)) rfl rfl rfl ?_
          refine ps_if2 (S1 := (438, [(0, .ref m0), (1, .int (nI p)), (2, .int (nI (by2 f pM))), (3, .int (nI f0)), (4, .int (nI ib)), (5, .int (nI k)), (6, .int (nI (by2 f p))), (7, .int (nI a)), (9, .int (nI i9)), (10, .int (nI d)), (11, .int (nI (f0 + k))), (12, .int (nI (f0 + j)))], [], M1)) (S2 := (418, [(0, .ref m0), (1, .int (nI p)), (2, .int (nI (by2 f pM))), (3, .int (nI f0)), (4, .int (nI ib)), (5, .int (nI k)), (6, .int (nI (by2 f p))), (7, .int (nI a)), (9, .int (nI i9)), (10, .int (nI d)), (11, .int (nI (f0 + k))), (12, .int (nI (f0 + j)))], [], M1)) rfl rfl rfl (fun c_415 => ?_) (fun c_415 => ?_)
          · have c_415 : ¬ (nI a9) = (nI a) := of_decide_eq_true c_415
            have n_415 : ¬ (a9 = a) := fun h9 => c_415 ((eq_nI (p := a9) (n := a) (by omega) (by omega)).mpr h9)
            refine ps_st (S' := (441, [(12, .int ((nI (f0 + j)) + 1)), (0, .ref m0), (1, .int (nI p)), (2, .int (nI (by2 f pM))), (3, .int (nI f0)), (4, .int (nI ib)), (5, .int (nI k)), (6, .int (nI (by2 f p))), (7, .int (nI a)), (9, .int (nI i9)), (10, .int (nI d)), (11, .int (nI (f0 + k)))], [], M1)) rfl rfl rfl ?_
            rw [nI_add1 (p := f0 + j) (k := 1) (x := 1) rfl (by omega)]
            show pl _ _ _ (_, [(12, .int (nI (f0 + j + 1))), (0, .ref m0), (1, .int (nI p)), (2, .int (nI (by2 f pM))), (3, .int (nI f0)), (4, .int (nI ib)), (5, .int (nI k)), (6, .int (nI (by2 f p))), (7, .int (nI a)), (9, .int (nI i9)), (10, .int (nI d)), (11, .int (nI (f0 + k)))], [], M1) _
            refine ps_st (S' := (399, [(0, .ref m0), (1, .int (nI p)), (2, .int (nI (by2 f pM))), (3, .int (nI f0)), (4, .int (nI ib)), (5, .int (nI k)), (6, .int (nI (by2 f p))), (7, .int (nI a)), (9, .int (nI i9)), (10, .int (nI d)), (11, .int (nI (f0 + k))), (12, .int (nI (f0 + j + 1)))], [], M1)) rfl rfl rfl ?_
            exact ih.2.2.2 (k) (p) (ib) (a) (i9) (d) (j + 1) M1 I1 R1 hR1 hEI1 hER1 hl51 hl52 hl53 hl58 hl56 hl26 hl9 hl10 hF1 hY1 hP1 hK1 hN91 c341 c351 c361 hC1 hQ1 hWc1 c451 c461 (hk0) (hpk) (hpe) (hs) (hib) (hsa) (ht1) (hnm) (hfl) (h9c) (hsd) (ht2) (hmt) (hds) (by omega) (hx) (by
                rw [← hd9, smeS_st (i := j) (by omega), if_neg (by omega)])
          · have c_415 : ¬ (¬ (nI a9) = (nI a)) := of_decide_eq_false c_415
            have n_415 : a9 = a := (eq_nI (p := a9) (n := a) (by omega) (by omega)).mp (Decidable.not_not.mp c_415)
            refine ps_st (S' := (419, [(0, .ref m0), (1, .int (nI p)), (2, .int (nI (by2 f pM))), (3, .int (nI f0)), (4, .int (nI ib)), (5, .int (nI k)), (6, .int (nI (by2 f p))), (7, .int (nI a)), (9, .int (nI i9)), (10, .int (nI d)), (11, .int (nI (f0 + k))), (12, .int (nI (f0 + j)))], [.ref m0], M1)) rfl rfl rfl ?_
            refine pr_ref (j := 36) (S' := (422, [(0, .ref m0), (1, .int (nI p)), (2, .int (nI (by2 f pM))), (3, .int (nI f0)), (4, .int (nI ib)), (5, .int (nI k)), (6, .int (nI (by2 f p))), (7, .int (nI a)), (9, .int (nI i9)), (10, .int (nI d)), (11, .int (nI (f0 + k))), (12, .int (nI (f0 + j)))], [.ref (q 36)], M1)) rfl hR1 rfl rfl ?_
            refine ps_st (S' := (424, [(0, .ref m0), (1, .int (nI p)), (2, .int (nI (by2 f pM))), (3, .int (nI f0)), (4, .int (nI ib)), (5, .int (nI k)), (6, .int (nI (by2 f p))), (7, .int (nI a)), (9, .int (nI i9)), (10, .int (nI d)), (11, .int (nI (f0 + k))), (12, .int (nI (f0 + j)))], [.int (nI (f0 + j)), .ref (q 36)], M1)) rfl rfl rfl ?_
            refine pr_ld (a := 36) (j := f0 + j) (y := (nI d9)) (S' := (425, [(0, .ref m0), (1, .int (nI p)), (2, .int (nI (by2 f pM))), (3, .int (nI f0)), (4, .int (nI ib)), (5, .int (nI k)), (6, .int (nI (by2 f p))), (7, .int (nI a)), (9, .int (nI i9)), (10, .int (nI d)), (11, .int (nI (f0 + k))), (12, .int (nI (f0 + j)))], [.int (nI d9)], M1)) rfl hR1 rfl (by omega) (fun _ => g2) rfl (fun i1_424 => ?_)
            refine ps_st (S' := (427, [(0, .ref m0), (1, .int (nI p)), (2, .int (nI (by2 f pM))), (3, .int (nI f0)), (4, .int (nI ib)), (5, .int (nI k)), (6, .int (nI (by2 f p))), (7, .int (nI a)), (9, .int (nI i9)), (10, .int (nI d)), (11, .int (nI (f0 + k))), (12, .int (nI (f0 + j)))], [.int (nI d), .int (nI d9)], M1)) rfl rfl rfl ?_
            refine ps_if2 (S1 := (438, [(0, .ref m0), (1, .int (nI p)), (2, .int (nI (by2 f pM))), (3, .int (nI f0)), (4, .int (nI ib)), (5, .int (nI k)), (6, .int (nI (by2 f p))), (7, .int (nI a)), (9, .int (nI i9)), (10, .int (nI d)), (11, .int (nI (f0 + k))), (12, .int (nI (f0 + j)))], [], M1)) (S2 := (430, [(0, .ref m0), (1, .int (nI p)), (2, .int (nI (by2 f pM))), (3, .int (nI f0)), (4, .int (nI ib)), (5, .int (nI k)), (6, .int (nI (by2 f p))), (7, .int (nI a)), (9, .int (nI i9)), (10, .int (nI d)), (11, .int (nI (f0 + k))), (12, .int (nI (f0 + j)))], [], M1)) rfl rfl rfl (fun c_427 => ?_) (fun c_427 => ?_)
            · have c_427 : ¬ (nI d9) = (nI d) := of_decide_eq_true c_427
              have n_427 : ¬ (d9 = d) := fun h9 => c_427 ((eq_nI (p := d9) (n := d) (by omega) (by omega)).mpr h9)
              refine ps_st (S' := (441, [(12, .int ((nI (f0 + j)) + 1)), (0, .ref m0), (1, .int (nI p)), (2, .int (nI (by2 f pM))), (3, .int (nI f0)), (4, .int (nI ib)), (5, .int (nI k)), (6, .int (nI (by2 f p))), (7, .int (nI a)), (9, .int (nI i9)), (10, .int (nI d)), (11, .int (nI (f0 + k)))], [], M1)) rfl rfl rfl ?_
              rw [nI_add1 (p := f0 + j) (k := 1) (x := 1) rfl (by omega)]
              show pl _ _ _ (_, [(12, .int (nI (f0 + j + 1))), (0, .ref m0), (1, .int (nI p)), (2, .int (nI (by2 f pM))), (3, .int (nI f0)), (4, .int (nI ib)), (5, .int (nI k)), (6, .int (nI (by2 f p))), (7, .int (nI a)), (9, .int (nI i9)), (10, .int (nI d)), (11, .int (nI (f0 + k)))], [], M1) _
              refine ps_st (S' := (399, [(0, .ref m0), (1, .int (nI p)), (2, .int (nI (by2 f pM))), (3, .int (nI f0)), (4, .int (nI ib)), (5, .int (nI k)), (6, .int (nI (by2 f p))), (7, .int (nI a)), (9, .int (nI i9)), (10, .int (nI d)), (11, .int (nI (f0 + k))), (12, .int (nI (f0 + j + 1)))], [], M1)) rfl rfl rfl ?_
              exact ih.2.2.2 (k) (p) (ib) (a) (i9) (d) (j + 1) M1 I1 R1 hR1 hEI1 hER1 hl51 hl52 hl53 hl58 hl56 hl26 hl9 hl10 hF1 hY1 hP1 hK1 hN91 c341 c351 c361 hC1 hQ1 hWc1 c451 c461 (hk0) (hpk) (hpe) (hs) (hib) (hsa) (ht1) (hnm) (hfl) (h9c) (hsd) (ht2) (hmt) (hds) (by omega) (hx) (by
                  rw [← hd9, smeS_st (i := j) (by omega), if_neg (by omega)])
            · have c_427 : ¬ (¬ (nI d9) = (nI d)) := of_decide_eq_false c_427
              have n_427 : d9 = d := (eq_nI (p := d9) (n := d) (by omega) (by omega)).mp (Decidable.not_not.mp c_427)
              refine ps_st (S' := (431, [(0, .ref m0), (1, .int (nI p)), (2, .int (nI (by2 f pM))), (3, .int (nI f0)), (4, .int (nI ib)), (5, .int (nI k)), (6, .int (nI (by2 f p))), (7, .int (nI a)), (9, .int (nI i9)), (10, .int (nI d)), (11, .int (nI (f0 + k))), (12, .int (nI (f0 + j)))], [.ref m0], M1)) rfl rfl rfl ?_
              refine ps_st (S' := (433, [(0, .ref m0), (1, .int (nI p)), (2, .int (nI (by2 f pM))), (3, .int (nI f0)), (4, .int (nI ib)), (5, .int (nI k)), (6, .int (nI (by2 f p))), (7, .int (nI a)), (9, .int (nI i9)), (10, .int (nI d)), (11, .int (nI (f0 + k))), (12, .int (nI (f0 + j)))], [.int 26, .ref m0], M1)) rfl rfl rfl ?_
              refine ps_st (S' := (434, [(0, .ref m0), (1, .int (nI p)), (2, .int (nI (by2 f pM))), (3, .int (nI f0)), (4, .int (nI ib)), (5, .int (nI k)), (6, .int (nI (by2 f p))), (7, .int (nI a)), (9, .int (nI i9)), (10, .int (nI d)), (11, .int (nI (f0 + k))), (12, .int (nI (f0 + j)))], [.int (nI p), .int 26, .ref m0], M1)) rfl rfl rfl ?_
              refine pl_call (a := [.ref m0, .int 26, .int (nI p)]) (rest := []) rfl rfl rfl (rd_wrong (x1 := 26) (x2 := (nI p)) hR1) (fun v812 M813 q814 => ?_)
              obtain ⟨I815, R816, rfl, hR817, hI818, hX819, hi820, hi821⟩ := q814
              have hi822 := (hI818 51 (by decide)).trans hl51
              have hi823 := (hI818 52 (by decide)).trans hl52
              have hi824 := (hI818 53 (by decide)).trans hl53
              have hi825 := (hI818 58 (by decide)).trans hl58
              have hi826 := (hI818 56 (by decide)).trans hl56
              have hi827 := (hI818 26 (by decide)).trans hl26
              have hi828 := (hI818 9 (by decide)).trans hl9
              have hi829 := (hI818 10 (by decide)).trans hl10
              have hF_830 := hF1.mono (cIx hI818 (by decide)) (cRx hX819 (by decide))
              have hY_831 := hY1.mono (cIx hI818 (by decide)) (cRx hX819 (by decide))
              have hP_832 := hP1.mono (cIx hI818 (by decide)) (cRx hX819 (by decide))
              have hK_833 := hK1.mono (cIx hI818 (by decide)) (cRx hX819 (by decide))
              have hN9_834 := hN91.mono (cIx hI818 (by decide)) (cRx hX819 (by decide))
              have c34_835 := c341.mono (cIx hI818 (by decide)) (cRx hX819 (by decide))
              have c35_836 := c351.mono (cIx hI818 (by decide)) (cRx hX819 (by decide))
              have c36_837 := c361.mono (cIx hI818 (by decide)) (cRx hX819 (by decide))
              have hC_838 := hC1.mono (cIx hI818 (by decide)) (cRx hX819 (by decide))
              have hQ_839 := hQ1.mono (cIx hI818 (by decide)) (cRx hX819 (by decide))
              have hWc_840 := hWc1.mono (cIx hI818 (by decide)) (cRx hX819 (by decide))
              have c45_841 := c451.mono (cIx hI818 (by decide)) (cRx hX819 (by decide))
              have c46_842 := c461.mono (cIx hI818 (by decide)) (cRx hX819 (by decide))
              have hEI843 := hEI1.tr hI818 (by decide)
              have hER844 := hER1.tr hX819 (by decide)
              show pl _ _ _ (437, [(0, .ref m0), (1, .int (nI p)), (2, .int (nI (by2 f pM))), (3, .int (nI f0)), (4, .int (nI ib)), (5, .int (nI k)), (6, .int (nI (by2 f p))), (7, .int (nI a)), (9, .int (nI i9)), (10, .int (nI d)), (11, .int (nI (f0 + k))), (12, .int (nI (f0 + j)))], [.int 0], M813) _
              exact ps_ret rfl rfl (Or.inr ⟨(26, p), I815, R816, by
                  rw [← hs, mtS_st (i := k) (by omega), ← hpk, mh_26 hnm hfl hds (by rw [← hd9, smeS_st (i := j) (by omega), if_pos (by omega)]; exact fun h9 => by cases h9)], rfl, hR817, hEI843, hER844, hi820, hi821⟩)
  refine ps_st (S' := (1, [(0, .ref m0)], [.ref m0], M)) rfl rfl rfl ?_
  refine pr_int (j := 56) (S' := (4, [(0, .ref m0)], [.int (nI pM)], M)) rfl hR rfl hi56 rfl ?_
  refine ps_st (S' := (5, [(1, .int (nI pM)), (0, .ref m0)], [], M)) rfl rfl rfl ?_
  refine ps_st (S' := (6, [(1, .int (nI pM)), (0, .ref m0)], [.ref m0], M)) rfl rfl rfl ?_
  refine ps_st (S' := (7, [(1, .int (nI pM)), (0, .ref m0)], [.int (nI pM), .ref m0], M)) rfl rfl rfl ?_
  refine pl_call (a := [.ref m0, .int (nI pM)]) (rest := []) rfl rfl rfl (rd_u2 (n := n) (f := f) (p := pM) hR hF (by omega)) (fun v845 M846 q847 => ?_)
  obtain ⟨rfl, rfl⟩ := q847
  show pl _ _ _ (10, [(1, .int (nI pM)), (0, .ref m0)], [.int (nI (by2 f pM))], M) _
  have hu_7 := by2_lt f pM
  refine ps_st (S' := (11, [(2, .int (nI (by2 f pM))), (1, .int (nI pM)), (0, .ref m0)], [], M)) rfl rfl rfl ?_
  refine ps_st (S' := (14, [(1, .int ((nI pM) + 2)), (2, .int (nI (by2 f pM))), (0, .ref m0)], [], M)) rfl rfl rfl ?_
  rw [nI_add1 (p := pM) (k := 2) (x := 2) rfl (by omega)]
  show pl _ _ _ (_, [(1, .int (nI (pM + 2))), (2, .int (nI (by2 f pM))), (0, .ref m0)], [], M) _
  refine ps_st (S' := (15, [(1, .int (nI (pM + 2))), (2, .int (nI (by2 f pM))), (0, .ref m0)], [.ref m0], M)) rfl rfl rfl ?_
  refine pr_int (j := 26) (S' := (18, [(1, .int (nI (pM + 2))), (2, .int (nI (by2 f pM))), (0, .ref m0)], [.int (nI f0)], M)) rfl hR rfl hi26 rfl ?_
  refine ps_st (S' := (19, [(3, .int (nI f0)), (1, .int (nI (pM + 2))), (2, .int (nI (by2 f pM))), (0, .ref m0)], [], M)) rfl rfl rfl ?_
  refine ps_st (S' := (20, [(3, .int (nI f0)), (1, .int (nI (pM + 2))), (2, .int (nI (by2 f pM))), (0, .ref m0)], [.ref m0], M)) rfl rfl rfl ?_
  refine pr_int (j := 58) (S' := (23, [(3, .int (nI f0)), (1, .int (nI (pM + 2))), (2, .int (nI (by2 f pM))), (0, .ref m0)], [.int (nI cf)], M)) rfl hR rfl hi58 rfl ?_
  refine ps_st (S' := (26, [(3, .int (nI f0)), (1, .int (nI (pM + 2))), (2, .int (nI (by2 f pM))), (0, .ref m0)], [.int 512, .int (nI cf)], M)) rfl rfl rfl ?_
  refine ps_st (S' := (27, [(3, .int (nI f0)), (1, .int (nI (pM + 2))), (2, .int (nI (by2 f pM))), (0, .ref m0)], [.int ((nI cf) &&& 512)], M)) rfl rfl rfl ?_
  rw [nI_an (p := cf) (k := 512) (x := 512) rfl]
  show pl _ _ _ (_, [(3, .int (nI f0)), (1, .int (nI (pM + 2))), (2, .int (nI (by2 f pM))), (0, .ref m0)], [.int (nI (aN cf 512))], M) _
  refine ps_if (S1 := (34, [(3, .int (nI f0)), (1, .int (nI (pM + 2))), (2, .int (nI (by2 f pM))), (0, .ref m0)], [], M)) (S2 := (30, [(3, .int (nI f0)), (1, .int (nI (pM + 2))), (2, .int (nI (by2 f pM))), (0, .ref m0)], [], M)) rfl rfl rfl (fun c_27 => ?_) (fun c_27 => ?_)
  · have c_27 : (nI (aN cf 512)) = 0 := of_decide_eq_true c_27
    have n_27 : aN cf 512 = 0 := (eq_nI (p := aN cf 512) (n := 0) (Nat.lt_of_le_of_lt (an_le _ _) (by decide)) (by decide)).mp c_27
    refine ps_st (S' := (35, [(0, .ref m0), (1, .int (nI (pM + 2))), (2, .int (nI (by2 f pM))), (3, .int (nI f0))], [.int 0], M)) rfl rfl rfl ?_
    refine ps_st (S' := (37, [(4, .int 0), (0, .ref m0), (1, .int (nI (pM + 2))), (2, .int (nI (by2 f pM))), (3, .int (nI f0))], [], M)) rfl rfl rfl ?_
    refine ps_st (S' := (38, [(4, .int 0), (0, .ref m0), (1, .int (nI (pM + 2))), (2, .int (nI (by2 f pM))), (3, .int (nI f0))], [.int 0], M)) rfl rfl rfl ?_
    refine ps_st (S' := (40, [(0, .ref m0), (1, .int (nI (pM + 2))), (2, .int (nI (by2 f pM))), (3, .int (nI f0)), (4, .int 0), (5, .int 0)], [], M)) rfl rfl rfl ?_
    exact (LL kf).1 (0) (pM + 2) (0) M I R hR hEI hER hi51 hi52 hi53 hi58 hi56 hi26 hi9 hi10 hF hY hP hK hFN0 hFQ0 (by omega) (fun h9 => (hMB.2.2.1 (by omega)).symm) (by omega) (rfl) (by omega)
  · have c_27 : ¬ ((nI (aN cf 512)) = 0) := of_decide_eq_false c_27
    have n_27 : ¬ (aN cf 512 = 0) := fun h9 => c_27 ((eq_nI (p := aN cf 512) (n := 0) (Nat.lt_of_le_of_lt (an_le _ _) (by decide)) (by decide)).mpr h9)
    refine ps_st (S' := (31, [(3, .int (nI f0)), (1, .int (nI (pM + 2))), (2, .int (nI (by2 f pM))), (0, .ref m0)], [.int 1], M)) rfl rfl rfl ?_
    refine ps_st (S' := (35, [(0, .ref m0), (1, .int (nI (pM + 2))), (2, .int (nI (by2 f pM))), (3, .int (nI f0))], [.int 1], M)) rfl rfl rfl ?_
    refine ps_st (S' := (37, [(4, .int 1), (0, .ref m0), (1, .int (nI (pM + 2))), (2, .int (nI (by2 f pM))), (3, .int (nI f0))], [], M)) rfl rfl rfl ?_
    refine ps_st (S' := (38, [(4, .int 1), (0, .ref m0), (1, .int (nI (pM + 2))), (2, .int (nI (by2 f pM))), (3, .int (nI f0))], [.int 0], M)) rfl rfl rfl ?_
    refine ps_st (S' := (40, [(0, .ref m0), (1, .int (nI (pM + 2))), (2, .int (nI (by2 f pM))), (3, .int (nI f0)), (4, .int 1), (5, .int 0)], [], M)) rfl rfl rfl ?_
    exact (LL kf).1 (0) (pM + 2) (1) M I R hR hEI hER hi51 hi52 hi53 hi58 hi56 hi26 hi9 hi10 hF hY hP hK hFN0 hFQ0 (by omega) (fun h9 => (hMB.2.2.1 (by omega)).symm) (by omega) (rfl) (by omega)
end
section
/-! what the class keeps (my own text) -/
section KCA
variable {g : xe_G} {f : Nat → Int32} {n N q c da : Nat} {E : List (Nat × Nat)} {M M' : mi_H}
/-- members, whatever became of what isn't theirs -/
theorem MV.mov3 {B : List Nat} {mm k : Nat} {G : Nat → Nat} (h : MV f B mm G k M) (hz : M.2.1 ≤ M'.2.1) (hm : ∀ z c', z < M.2.1 → M.1 z = some c' → (∀ o, c' = .inr o → o.1 = 6) → (∀ k F, c' ≠ ar .byte k F) → M'.1 z = some c') : MV f B mm G k M' :=
  h.move hz (fun C n R e => (hm mm _ h.1 e (fun o h9 => by cases h9) (fun k F h9 => by
    simp only [ar, ro, Sum.inl.injEq, Prod.mk.injEq] at h9
    exact absurd h9.1 (fun e9 => by cases e9))).trans e.symm) (fun i hi x1 x2 x3 x4 v e => ⟨x1, x2, x3, x4, v, hm _ _ (h.2.2.2 i hi).1 e (fun o h9 => by cases h9; rfl) (fun k F h9 => by cases h9), fun _ => ⟨rfl, rfl, rfl, rfl, rfl⟩⟩)
/-- what a kept file tells of its members and its attributes -/
def KCM (f : Nat → Int32) (n : Nat) (E : List (Nat × Nat)) (p1 pF pM pA q : Nat) (w : List Value) (M : mi_H) : Prop := ∃ (fr mr : Nat) (G1 G2 : Nat → Nat) (k1 k2 bc : Nat) (K : KT), w = [.int (nI (by2 f 4)), .int (nI (by2 f 6)), .int (nI p1), .int (nI (by2 f (p1 + 6))), .ref fr, .ref mr, .int (nI (by2 f pA)), .int (nI (pA + 2)), .int (nI K.1), .int (nI bc), .int (nI K.2.1), .int (nI K.2.2.1), .int (nI K.2.2.2.1), .int (nI K.2.2.2.2.1), .int K.2.2.2.2.2] ∧ MV f (mbs f n (by2 f pF) (pF + 2)) fr G1 k1 M ∧ MV f (mbs f n (by2 f pM) (pM + 2)) mr G2 k2 M ∧ s_class f n p1 = .inr pF ∧ s_mbs f n pF = .inr pM ∧ s_mbs f n pM = .inr pA ∧ s_attributes f n pA = .inr n ∧ clS f n E (by2 f p1) (by2 f 6) (by2 f pA) (pA + 2) 0 0 = .inr bc ∧ clU f n E (by2 f 6) (by2 f pA) (pA + 2) (0, 0, 0, 0, 0, -1) = K ∧ DF f n E (mbs f n (by2 f pF) (pF + 2)) G1 (mbs f n (by2 f pF) (pF + 2)).length M ∧ DMk f n E (by2 f 6) q (mbs f n (by2 f pM) (pM + 2)) G2 M
theorem KCM.mov3 {p1 pF pM pA q : Nat} {w : List Value} (h : KCM f n E p1 pF pM pA q w M) (hz : M.2.1 ≤ M'.2.1) (hm : ∀ z c', z < M.2.1 → M.1 z = some c' → (∀ o, c' = .inr o → o.1 = 6) → (∀ k F, c' ≠ ar .byte k F) → M'.1 z = some c') (hq : H4 M M') : KCM f n E p1 pF pM pA q w M' := by
  obtain ⟨fr, mr, G1, G2, k1, k2, bc, K, h1, h2, h3, g1, g2, g3, g4, g5, g6, g7, g8⟩ := h
  exact ⟨fr, mr, G1, G2, k1, k2, bc, K, h1, h2.mov3 hz hm, h3.mov3 hz hm, g1, g2, g3, g4, g5, g6, g7.mov3 hz hm, g8.mov3 hz hm hq⟩
/-- a file that is kept: its bytes, its pool -/
def KC (g : xe_G) (f : Nat → Int32) (n c da : Nat) (M : mi_H) : Prop := ∃ (b q N : Nat) (E : List (Nat × Nat)) (p1 pF pM pA : Nat) (w : List Value), M.1 c = some (ob 3 (.ref b :: .ref q :: w)) ∧ M.1 b = some (ob 1 [.ref da]) ∧ M.1 da = some (ar .byte n f) ∧ PV g f n N E q M ∧ s_whole f n = .inr (E, p1, pF, pM, pA) ∧ N = by2 f 8 ∧ (c < M.2.1 ∧ b < M.2.1 ∧ da < M.2.1) ∧ n ≤ 65540 ∧ KCM f n E p1 pF pM pA q w M
/-- bytes may change, and objects but for pools and literals -/
theorem PV.mov2 (h : PV g f n N E q M) (hz : M.2.1 ≤ M'.2.1) (hm : ∀ z c, z < M.2.1 → M.1 z = some c → (∀ o, c = .inr o → o.1 = 7 ∨ 100 ≤ o.1) → (∀ k F, c ≠ ar .byte k F) → M'.1 z = some c) : PV g f n N E q M' := by
  obtain ⟨hL, H, m, qq, F, cc, ⟨a0, a1, a6⟩, hT, ⟨b0, b1⟩, h3⟩ := h
  have hi : ∀ {z k : Nat} {F : Nat → Int32}, z < M.2.1 → M.1 z = some (ar .int k F) → M'.1 z = some (ar .int k F) := fun hl hc => hm _ _ hl hc (fun o h9 => by cases h9) (fun k F h9 => by simp [ar] at h9)
  have hc : ∀ {z k : Nat} {F : Nat → Int32}, z < M.2.1 → M.1 z = some (ar .char k F) → M'.1 z = some (ar .char k F) := fun hl hc => hm _ _ hl hc (fun o h9 => by cases h9) (fun k F h9 => by simp [ar] at h9)
  have h7 := hm q _ b0 a0 (fun o h9 => by cases h9; exact Or.inl rfl) (fun k F h9 => by cases h9)
  refine ⟨fun k hk => ?_, H, m, qq, F, cc, ⟨h7, fun i h1 h2 => hi (b1 i h1 (by omega)) (a1 i h1 h2), hc (b1 6 (by decide) (by decide)) a6⟩, hT, ⟨by omega, fun i h1 h2 => Nat.lt_of_lt_of_le (b1 i h1 h2) hz⟩, h3⟩
  obtain ⟨k1, k', fl, k2, k3, k4⟩ := hL k hk
  exact ⟨by omega, k', fl, k2, hm _ _ k1 k3 (fun o h9 => by cases h9; exact Or.inr (Nat.le_add_right _ _)) (fun k F h9 => by cases h9), k4⟩
theorem KC.mov2 (h : KC g f n c da M) (hz : M.2.1 ≤ M'.2.1) (hm : ∀ z c', z < M.2.1 → M.1 z = some c' → (∀ o, c' = .inr o → o.1 = 7 ∨ o.1 = 3 ∨ o.1 = 1 ∨ 100 ≤ o.1 ∨ o.1 = 6) → (∀ k F, c' = ar .byte k F → z = da) → M'.1 z = some c') (hq : H4 M M') : KC g f n c da M' := by
  obtain ⟨b, q, N, E, p1, pF, pM, pA, w, h1, h2, h3, h4, h5, h6, ⟨l1, l2, l3⟩, h8⟩ := h
  exact ⟨b, q, N, E, p1, pF, pM, pA, w, hm c _ l1 h1 (fun o h9 => by cases h9; exact Or.inr (Or.inl rfl)) (fun k F h9 => by cases h9), hm b _ l2 h2 (fun o h9 => by cases h9; exact Or.inr (Or.inr (Or.inl rfl))) (fun k F h9 => by cases h9), hm da _ l3 h3 (fun o h9 => by cases h9) (fun k F h9 => rfl), h4.mov2 hz (fun z c' hl hc ho hb => hm z c' hl hc (fun o h9 => (ho o h9).elim Or.inl (fun h => Or.inr (Or.inr (Or.inr (Or.inl h))))) (fun k F h9 => absurd h9 (hb k F))), h5, h6, ⟨by omega, by omega, by omega⟩, h8.1, h8.2.mov3 hz (fun z c' hl hc ho hb => hm z c' hl hc (fun o h9 => Or.inr (Or.inr (Or.inr (Or.inr (ho o h9))))) (fun k F h9 => absurd h9 (hb k F))) hq⟩
theorem KC.fr (h : KC g f n c da M) (hf : frD M M') : KC g f n c da M' :=
  h.mov2 hf.1.2 (fun z c' hl hc ho _ => (hf.1.1 z hl (fun o h9 hw => by
    rw [hc] at h9
    have h1 := ho o (Option.some.inj h9)
    simp only [List.mem_cons, List.not_mem_nil, or_false] at hw
    omega)).trans hc) hf.2
theorem KC.gmk {S : List Nat} (h : KC g f n c da M) (hf : gm S M M') (hs : ∀ z ∈ S, (∃ l, M.1 z = some (ob 11 l)) ∨ (z ≠ da ∧ ∃ k F, M.1 z = some (ar .byte k F))) : KC g f n c da M' :=
  h.mov2 hf.2 (fun z c' hl hc ho hb => (hf.1 z hl (fun hz => by
    rcases hs z hz with ⟨l, e⟩ | ⟨e1, k, F, e⟩
    · rw [hc] at e
      have h1 := ho _ (Option.some.inj e)
      dsimp only at h1
      omega
    · rw [hc] at e
      exact e1 (hb k F (Option.some.inj e)))).trans hc) (fun z l hl hc h9 => ⟨l, (hf.1 z hl (fun hz => by
    rcases hs z hz with ⟨l2, e⟩ | ⟨-, k, F, e⟩
    · rw [hc] at e
      exact ob_411 (Option.some.inj e)
    · rw [hc] at e
      cases e)).trans hc, h9, rfl⟩)
/-- the same cells, others beside them -/
theorem KC.sp {F : Nat → Option mi_C} (h : KC g f n c da M) (hs : spR F M M') : KC g f n c da M' := by
  have ez : M'.2.1 = M.2.1 := by rw [hs.1]
  obtain ⟨b, q, N, E, p1, pF, pM, pA, w, h1, h2, h3, ⟨hL, H, m, qq, F', cc, ⟨a0, a1, a6⟩, hT, ⟨b0, b1⟩, h4⟩, h5, h6, ⟨l1, l2, l3⟩, h8⟩ := h
  refine ⟨b, q, N, E, p1, pF, pM, pA, w, hs.get h1, hs.get h2, hs.get h3, ⟨fun k hk => ?_, H, m, qq, F', cc, ⟨hs.get a0, fun i h1 h2 => hs.get (a1 i h1 h2), hs.get a6⟩, hT, ⟨by omega, fun i h1 h2 => by rw [ez]; exact b1 i h1 h2⟩, h4⟩, h5, h6, ⟨by omega, by omega, by omega⟩, h8.1, h8.2.mov3 (by omega) (fun z c' _ hc _ _ => hs.get hc) (fun z l _ hc h9 => ⟨l, hs.get hc, h9, rfl⟩)⟩
  obtain ⟨k1, k', fl, k2, k3, k4⟩ := hL k hk
  exact ⟨by omega, k', fl, k2, hs.get k3, k4⟩
/-- what is kept, if anything is -/
def KPC (g : xe_G) (ko : Option (Nat × (Nat → Int32))) (kv : Value) (cm : Nat) (M : mi_H) : Prop := match ko with
  | none => kv = .null
  | some p => ∃ c da, kv = .ref c ∧ KC g p.2 p.1 c da M ∧ da ≠ cm ∧ s_read p.2 p.1 = none
variable {ko : Option (Nat × (Nat → Int32))} {kv : Value} {cm x : Nat}
theorem KPC.mov (h : KPC g ko kv cm M) (hz : M.2.1 ≤ M'.2.1) (hm : ∀ a c', a < M.2.1 → M.1 a = some c' → (∀ l, c' ≠ ob 11 l) → M'.1 a = some c') : KPC g ko kv cm M' := by
  cases ko with
  | none => exact h
  | some p =>
    obtain ⟨c, da, h1, h2, h3, h4⟩ := h
    refine ⟨c, da, h1, h2.mov2 hz (fun z c' hl hc ho _ => hm z c' hl hc (fun l e => ?_)) (fun z l hl hc h9 => ⟨l, hm z _ hl hc (fun l2 e => ob_411 e), h9, rfl⟩), h3, h4⟩
    have h9 := ho (11, fun i => l[i]?) e
    dsimp only at h9
    omega
theorem KPC.fr (h : KPC g ko kv cm M) (hf : frD M M') : KPC g ko kv cm M' := by
  cases ko with
  | none => exact h
  | some p =>
    obtain ⟨c, da, h1, h2, h3, h4⟩ := h
    exact ⟨c, da, h1, h2.fr hf, h3, h4⟩
theorem KPC.gmk {S : List Nat} (h : KPC g ko kv cm M) (hf : gm S M M') (hs : ∀ z ∈ S, ∃ l, M.1 z = some (ob 11 l)) : KPC g ko kv cm M' := by
  cases ko with
  | none => exact h
  | some p =>
    obtain ⟨c, da, h1, h2, h3, h4⟩ := h
    exact ⟨c, da, h1, h2.gmk hf (fun z hz => Or.inl (hs z hz)), h3, h4⟩
theorem KPC.gmk2 {cm2 m : Nat} {C : Nat → Int32} {l : List Value} (h : KPC g ko kv cm M) (hf : gm [x, cm] M M') (hx : M.1 x = some (ob 11 l)) (hc : M.1 cm = some (ar .byte m C)) (hd : cm2 = cm ∨ M.2.1 ≤ cm2) : KPC g ko kv cm2 M' := by
  cases ko with
  | none => exact h
  | some p =>
    obtain ⟨c, da, h1, h2, h3, h4⟩ := h
    have hl : da < M.2.1 := by
      obtain ⟨b, q, N, E, p1, pF, pM, pA, w, -, -, -, -, -, -, ⟨-, -, l3⟩, -⟩ := h2
      exact l3
    refine ⟨c, da, h1, h2.gmk hf (fun z hz => ?_), fun e => ?_, h4⟩
    · simp only [List.mem_cons, List.not_mem_nil, or_false] at hz
      rcases hz with rfl | rfl
      · exact Or.inl ⟨l, hx⟩
      · exact Or.inr ⟨fun e => h3 e.symm, m, C, hc⟩
    · rcases hd with e2 | e2
      · exact h3 (e.trans e2)
      · omega
end KCA
set_option maxHeartbeats 1000000 in
theorem dk_holds2_c {g : xe_G} {M : mi_H} {f : Nat → Int32} {n N q : Nat} {E : List (Nat × Nat)} {ox ac o z9 c b da vd fr mr fa ic mj na pa e0 : Nat} {s1 mi ru wa k1 : Int32} {B1 B2 : List Nat} {G1 G2 : Nat → Nat} {og ga gf : Nat} {gn gw : Int32} {gk : Value} (h_ox : M.1 ox = some (ob 8 [.ref q, .int (nI mj), .ref vd])) (h_ac : M.1 ac = some (ob 0 [.ref c, .ref b, .ref q, .ref vd, .int s1])) (h_o : M.1 o = some (ob 2 [.ref c, .ref b, .ref q, .ref vd, .ref ac])) (h_c : M.1 c = some (ob 3 [.ref b, .ref q, .int mi, .int (nI mj), .int (nI fa), .int (nI ic), .ref fr, .ref mr, .int (nI na), .int (nI pa), .int k1, .int 0, .int 0, .int 0, .int 0, .int 0, .int (-1)])) (h_b : M.1 b = some (ob 1 [.ref da])) (h_da : M.1 da = some (ar .byte n f)) (h_vd : M.1 vd = some (ob 10 [.int ru, .int wa])) (h_og : M.1 og = some (ob 11 [.ref ga, .int gn, .ref gf, gk, .int gw])) (hn : n ≤ 65540) (hmj : mj < 65536) (hfa : fa + 8 ≤ n) (hic : fa + 8 + 2 * ic ≤ n) (hic2 : ic < 65536) (hna : na < 65536 ∧ pa ≤ n) (hat : s_atts f n na pa = .inr e0) (hB91 : B1.length < 65536) (hB92 : B2.length < 65536) (hB1 : ∀ i, i < B1.length → B1.getD i 0 + 8 ≤ n ∧ ∃ e0, s_atts f n (by2 f (B1.getD i 0 + 6)) (B1.getD i 0 + 8) = .inr e0) (hB2 : ∀ i, i < B2.length → B2.getD i 0 + 8 ≤ n ∧ ∃ e0, s_atts f n (by2 f (B2.getD i 0 + 6)) (B2.getD i 0 + 8) = .inr e0) (hDs : ∀ i j, i < B1.length → j < B2.length → ¬ G1 i = G2 j) (l_c : c < M.2.1) (l_b : b < M.2.1) (l_da : da < M.2.1) (l_vd : vd < M.2.1) (l_q : q < M.2.1) (l_og : og < M.2.1) (l_ox : ox < M.2.1) (l_ac : ac < M.2.1) (l_o : o < M.2.1) (hz9 : z9 ≤ M.2.1) (hq40 : chkP f n E mj (N - 1) 1 = none) (hq48 : hdS f n E fa = none) (hq56 : ifS f n E (fa + 8) ic 0 = none) (hq64 : flS f n E (by2 f fa) B1 B1.length 0 = none) (hq72 : mtS f n E (by2 f fa) mj B2 B2.length 0 = none) (hV : PV g f n N E q M) (hM1 : MV f B1 fr G1 B1.length M) (hM2 : MV f B2 mr G2 B2.length M) (hDF : DF f n E B1 G1 B1.length M) (hDM : DMe f n E mj q b B2 G2 M) (kf : Nat) : pl (mT g) kf (mb_11 g).2 (78, [(4, .ref o), (3, .ref ac), (2, .ref ox), (0, .ref c), (1, .ref vd)], [], M) (fun v M' => (∃ (bc : Nat) (K : KT), (s_chk f n N E mj fa ic B1 B2 na pa = none) ∧ (clS f n E (by2 f fa) mj na pa 0 0 = .inr bc) ∧ (clU f n E mj na pa (0, 0, 0, 0, 0, -1) = K) ∧ (PV g f n N E q M') ∧ (MV f B1 fr G1 B1.length M') ∧ (MV f B2 mr G2 B2.length M') ∧ (DF f n E B1 G1 B1.length M') ∧ (DMe f n E mj q b B2 G2 M') ∧ v = some (.int 1) ∧ M'.1 vd = some (ob 10 [.int ru, .int wa]) ∧ M'.1 og = some (ob 11 [.ref ga, .int gn, .ref gf, gk, .int gw]) ∧ M'.1 c = some (ob 3 [.ref b, .ref q, .int mi, .int (nI mj), .int (nI fa), .int (nI ic), .ref fr, .ref mr, .int (nI na), .int (nI pa), .int (nI K.1), .int (nI bc), .int (nI K.2.1), .int (nI K.2.2.1), .int (nI K.2.2.2.1), .int (nI K.2.2.2.2.1), .int K.2.2.2.2.2]) ∧ M'.1 b = some (ob 1 [.ref da]) ∧ M'.1 da = some (ar .byte n f) ∧ z9 ≤ M'.2.1) ∨ (∃ (e9 : Nat × Nat), (s_chk f n N E mj fa ic B1 B2 na pa = some e9) ∧ v = some (.int 0) ∧ M'.1 vd = some (ob 10 [.int (nI e9.1), .int (nI e9.2)]) ∧ M'.1 og = some (ob 11 [.ref ga, .int gn, .ref gf, gk, .int gw]) ∧ z9 ≤ M'.2.1)) := by
  obtain ⟨z0, tp0⟩ : ∃ z0, M.2.1 = z0 := ⟨_, rfl⟩
  refine ps_st (S' := (79, [(4, .ref o), (3, .ref ac), (2, .ref ox), (0, .ref c), (1, .ref vd)], [.ref ac], M)) rfl rfl rfl ?_
  refine pl_call (a := [.ref ac]) (rest := []) rfl rfl rfl (dk_ofClass (f := f) (n := n) (N := N) (q := q) (E := E) (ac := ac) (c := c) (b := b) (da := da) (vd := vd) (fr := fr) (mr := mr) (fa := fa) (ic := ic) (mj := mj) (na := na) (pa := pa) (mi := mi) (ru := ru) (wa := wa) (s1 := s1) (k1 := k1) (e0 := e0) (bc0 := 0) (K0 := (0, 0, 0, 0, 0, -1)) h_ac h_b h_da h_c h_vd (hn) (hmj) (hfa) (hna) (by decide) (hat) (rfl) (hV)) (fun v1 M2 q3 => ?_)
  rcases q3 with q3 | q3
  · skip
    obtain ⟨bc4, K5, s26, q79_s, q79_l, q79_U, rfl, h7, h8, h9, f10⟩ := q3
    have h12 := (f10.1 ox (nin3 (ob_ne h_ox h_ac (by decide)) (ob_ne h_ox h_vd (by decide)) (ob_ne h_ox h_c (by decide)))).trans h_ox
    have h13 := (f10.1 o (nin3 (ob_ne h_o h_ac (by decide)) (ob_ne h_o h_vd (by decide)) (ob_ne h_o h_c (by decide)))).trans h_o
    have h14 := (f10.1 b (nin3 (ob_ne h_b h_ac (by decide)) (ob_ne h_b h_vd (by decide)) (ob_ne h_b h_c (by decide)))).trans h_b
    have h15 := (f10.1 da (nin3 (Ne.symm (ob_ar h_ac h_da)) (Ne.symm (ob_ar h_vd h_da)) (Ne.symm (ob_ar h_c h_da)))).trans h_da
    have h16 := (f10.1 og (nin3 (ob_ne h_og h_ac (by decide)) (ob_ne h_og h_vd (by decide)) (ob_ne h_og h_c (by decide)))).trans h_og
    have tp18 : M2.2.1 = z0 := by rw [f10.2]; exact tp0
    have hV19 := hV.keep f10.gm (n7c h_ac (by decide) (n7c h_vd (by decide) (n7c h_c (by decide) (n7nil))))
    have hV20 := hM1.keep f10.gm (n6o h_ac (by decide) (n6o h_vd (by decide) (n6o h_c (by decide) (n6on))))
    have hV21 := hM2.keep f10.gm (n6o h_ac (by decide) (n6o h_vd (by decide) (n6o h_c (by decide) (n6on))))
    have hV22 := hDF.keep f10.gm (nDc h_ac (by decide) (nDc h_vd (by decide) (nDc h_c (by decide) (nDn))))
    have hV23 := hDM.keep f10.gm (nDc h_ac (by decide) (nDc h_vd (by decide) (nDc h_c (by decide) (nDn))))
    show pl _ _ _ (82, [(4, .ref o), (3, .ref ac), (2, .ref ox), (0, .ref c), (1, .ref vd)], [.int 1], M2) _
    clear h_ox h_ac h_o h_c h_b h_da h_vd h_og hV hM1 hM2 hDF hDM f10
    refine ps_if (S1 := (100, [], [], M2)) (S2 := (85, [(4, .ref o), (3, .ref ac), (2, .ref ox), (0, .ref c), (1, .ref vd)], [], M2)) rfl rfl rfl (fun c_82 => ?_) (fun c_82 => ?_)
    · exact absurd (of_decide_eq_true c_82) (by decide)
    refine ps_st (S' := (86, [(4, .ref o), (3, .ref ac), (2, .ref ox), (0, .ref c), (1, .ref vd)], [.ref ox], M2)) rfl rfl rfl ?_
    refine ps_st (S' := (87, [(4, .ref o), (3, .ref ac), (2, .ref ox), (0, .ref c), (1, .ref vd)], [.ref c, .ref ox], M2)) rfl rfl rfl ?_
    refine ps_get (S' := (90, [(4, .ref o), (3, .ref ac), (2, .ref ox), (0, .ref c), (1, .ref vd)], [.int (nI bc4), .ref ox], M2)) rfl h9 rfl rfl ?_
    refine pl_call (a := [.ref ox, .int (nI bc4)]) (rest := []) rfl rfl rfl (dk_bootstrapsHold (f := f) (n := n) (N := N) (q := q) (E := E) (o := ox) (vd := vd) (mj := mj) (bc := bc4) (ru := ru) (wa := wa) h12 h7 (hmj) (q79_l) (hV19)) (fun v24 M25 q26 => ?_)
    rcases q26 with q26 | q26
    · skip
      obtain ⟨q90_s, rfl, h27, f28⟩ := q26
      have h30 := (f28.1 ox (nin1 (ob_ne h12 h7 (by decide)))).trans h12
      have h31 := (f28.1 ac (nin1 (ob_ne h8 h7 (by decide)))).trans h8
      have h32 := (f28.1 o (nin1 (ob_ne h13 h7 (by decide)))).trans h13
      have h33 := (f28.1 c (nin1 (ob_ne h9 h7 (by decide)))).trans h9
      have h34 := (f28.1 b (nin1 (ob_ne h14 h7 (by decide)))).trans h14
      have h35 := (f28.1 da (nin1 (Ne.symm (ob_ar h7 h15)))).trans h15
      have h36 := (f28.1 og (nin1 (ob_ne h16 h7 (by decide)))).trans h16
      have tp38 : M25.2.1 = z0 := by rw [f28.2]; exact tp18
      have hV39 := hV19.keep f28.gm (n7c h7 (by decide) (n7nil))
      have hV40 := hV20.keep f28.gm (n6o h7 (by decide) (n6on))
      have hV41 := hV21.keep f28.gm (n6o h7 (by decide) (n6on))
      have hV42 := hV22.keep f28.gm (nDc h7 (by decide) (nDn))
      have hV43 := hV23.keep f28.gm (nDc h7 (by decide) (nDn))
      show pl _ _ _ (93, [(4, .ref o), (3, .ref ac), (2, .ref ox), (0, .ref c), (1, .ref vd)], [.int 1], M25) _
      clear h12 h8 h13 h9 h14 h15 h7 h16 hV19 hV20 hV21 hV22 hV23 f28
      refine ps_if (S1 := (100, [], [], M25)) (S2 := (96, [(4, .ref o), (3, .ref ac), (2, .ref ox), (0, .ref c), (1, .ref vd)], [], M25)) rfl rfl rfl (fun c_93 => ?_) (fun c_93 => ?_)
      · exact absurd (of_decide_eq_true c_93) (by decide)
      refine ps_st (S' := (97, [(4, .ref o), (3, .ref ac), (2, .ref ox), (0, .ref c), (1, .ref vd)], [.int 1], M25)) rfl rfl rfl ?_
      refine ps_st (S' := (101, [], [.int 1], M25)) rfl rfl rfl ?_
      exact ps_ret rfl rfl (Or.inl ⟨bc4, K5, by
          unfold s_chk
          rw [hq40]
          try dsimp only
          rw [hq48]
          try dsimp only
          rw [hq56]
          try dsimp only
          rw [hq64]
          try dsimp only
          rw [hq72]
          try dsimp only
          rw [q79_s]
          try dsimp only
          rw [q90_s]
          try dsimp only
          first | done | rfl, q79_s, q79_U, hV39, hV40, hV41, hV42, hV43, rfl, h27, h36, h33, h34, h35, by omega⟩)
    · skip
      obtain ⟨e44, q90_s, rfl, h45, f46⟩ := q26
      have h48 := (f46.1 ox (nin1 (ob_ne h12 h7 (by decide)))).trans h12
      have h49 := (f46.1 ac (nin1 (ob_ne h8 h7 (by decide)))).trans h8
      have h50 := (f46.1 o (nin1 (ob_ne h13 h7 (by decide)))).trans h13
      have h51 := (f46.1 c (nin1 (ob_ne h9 h7 (by decide)))).trans h9
      have h52 := (f46.1 b (nin1 (ob_ne h14 h7 (by decide)))).trans h14
      have h53 := (f46.1 da (nin1 (Ne.symm (ob_ar h7 h15)))).trans h15
      have h54 := (f46.1 og (nin1 (ob_ne h16 h7 (by decide)))).trans h16
      have tp56 : M25.2.1 = z0 := by rw [f46.2]; exact tp18
      have hV57 := hV19.keep f46.gm (n7c h7 (by decide) (n7nil))
      have hV58 := hV20.keep f46.gm (n6o h7 (by decide) (n6on))
      have hV59 := hV21.keep f46.gm (n6o h7 (by decide) (n6on))
      have hV60 := hV22.keep f46.gm (nDc h7 (by decide) (nDn))
      have hV61 := hV23.keep f46.gm (nDc h7 (by decide) (nDn))
      show pl _ _ _ (93, [(4, .ref o), (3, .ref ac), (2, .ref ox), (0, .ref c), (1, .ref vd)], [.int 0], M25) _
      clear h12 h8 h13 h9 h14 h15 h7 h16 hV19 hV20 hV21 hV22 hV23 f46
      refine ps_if (S1 := (100, [], [], M25)) (S2 := (96, [(4, .ref o), (3, .ref ac), (2, .ref ox), (0, .ref c), (1, .ref vd)], [], M25)) rfl rfl rfl (fun c_93 => ?_) (fun c_93 => ?_)
      rotate_left
      · exact absurd (by decide) (of_decide_eq_false c_93)
      refine ps_st (S' := (101, [], [.int 0], M25)) rfl rfl rfl ?_
      exact ps_ret rfl rfl (Or.inr ⟨e44, by
          unfold s_chk
          rw [hq40]
          try dsimp only
          rw [hq48]
          try dsimp only
          rw [hq56]
          try dsimp only
          rw [hq64]
          try dsimp only
          rw [hq72]
          try dsimp only
          rw [q79_s]
          try dsimp only
          rw [q90_s]
          try dsimp only
          first | done | rfl, rfl, h45, h54, by omega⟩)
  · skip
    obtain ⟨e962, q79_s, rfl, h63, f64⟩ := q3
    have h66 := (f64.1 ox (nin3 (ob_ne h_ox h_ac (by decide)) (ob_ne h_ox h_vd (by decide)) (ob_ne h_ox h_c (by decide)))).trans h_ox
    have h67 := (f64.1 o (nin3 (ob_ne h_o h_ac (by decide)) (ob_ne h_o h_vd (by decide)) (ob_ne h_o h_c (by decide)))).trans h_o
    have h68 := (f64.1 b (nin3 (ob_ne h_b h_ac (by decide)) (ob_ne h_b h_vd (by decide)) (ob_ne h_b h_c (by decide)))).trans h_b
    have h69 := (f64.1 da (nin3 (Ne.symm (ob_ar h_ac h_da)) (Ne.symm (ob_ar h_vd h_da)) (Ne.symm (ob_ar h_c h_da)))).trans h_da
    have h70 := (f64.1 og (nin3 (ob_ne h_og h_ac (by decide)) (ob_ne h_og h_vd (by decide)) (ob_ne h_og h_c (by decide)))).trans h_og
    have tp72 : M2.2.1 = z0 := by rw [f64.2]; exact tp0
    have hV73 := hV.keep f64.gm (n7c h_ac (by decide) (n7c h_vd (by decide) (n7c h_c (by decide) (n7nil))))
    have hV74 := hM1.keep f64.gm (n6o h_ac (by decide) (n6o h_vd (by decide) (n6o h_c (by decide) (n6on))))
    have hV75 := hM2.keep f64.gm (n6o h_ac (by decide) (n6o h_vd (by decide) (n6o h_c (by decide) (n6on))))
    have hV76 := hDF.keep f64.gm (nDc h_ac (by decide) (nDc h_vd (by decide) (nDc h_c (by decide) (nDn))))
    have hV77 := hDM.keep f64.gm (nDc h_ac (by decide) (nDc h_vd (by decide) (nDc h_c (by decide) (nDn))))
    show pl _ _ _ (82, [(4, .ref o), (3, .ref ac), (2, .ref ox), (0, .ref c), (1, .ref vd)], [.int 0], M2) _
    clear h_ox h_ac h_o h_c h_b h_da h_vd h_og hV hM1 hM2 hDF hDM f64
    refine ps_if (S1 := (100, [], [], M2)) (S2 := (85, [(4, .ref o), (3, .ref ac), (2, .ref ox), (0, .ref c), (1, .ref vd)], [], M2)) rfl rfl rfl (fun c_82 => ?_) (fun c_82 => ?_)
    rotate_left
    · exact absurd (by decide) (of_decide_eq_false c_82)
    refine ps_st (S' := (101, [], [.int 0], M2)) rfl rfl rfl ?_
    exact ps_ret rfl rfl (Or.inr ⟨e962, by
        unfold s_chk
        rw [hq40]
        try dsimp only
        rw [hq48]
        try dsimp only
        rw [hq56]
        try dsimp only
        rw [hq64]
        try dsimp only
        rw [hq72]
        try dsimp only
        rw [q79_s]
        try dsimp only
        first | done | rfl, rfl, h63, h70, by omega⟩)
set_option maxHeartbeats 1000000 in
theorem dk_holds2_b {g : xe_G} {M : mi_H} {f : Nat → Int32} {n N q : Nat} {E : List (Nat × Nat)} {ox ac o z9 c b da vd fr mr fa ic mj na pa e0 : Nat} {s1 mi ru wa k1 : Int32} {B1 B2 : List Nat} {G1 G2 : Nat → Nat} {og ga gf : Nat} {gn gw : Int32} {gk : Value} (h_ox : M.1 ox = some (ob 8 [.ref q, .int (nI mj), .ref vd])) (h_ac : M.1 ac = some (ob 0 [.ref c, .ref b, .ref q, .ref vd, .int s1])) (h_o : M.1 o = some (ob 2 [.ref c, .ref b, .ref q, .ref vd, .ref ac])) (h_c : M.1 c = some (ob 3 [.ref b, .ref q, .int mi, .int (nI mj), .int (nI fa), .int (nI ic), .ref fr, .ref mr, .int (nI na), .int (nI pa), .int k1, .int 0, .int 0, .int 0, .int 0, .int 0, .int (-1)])) (h_b : M.1 b = some (ob 1 [.ref da])) (h_da : M.1 da = some (ar .byte n f)) (h_vd : M.1 vd = some (ob 10 [.int ru, .int wa])) (h_og : M.1 og = some (ob 11 [.ref ga, .int gn, .ref gf, gk, .int gw])) (hn : n ≤ 65540) (hmj : mj < 65536) (hfa : fa + 8 ≤ n) (hic : fa + 8 + 2 * ic ≤ n) (hic2 : ic < 65536) (hna : na < 65536 ∧ pa ≤ n) (hat : s_atts f n na pa = .inr e0) (hB91 : B1.length < 65536) (hB92 : B2.length < 65536) (hB1 : ∀ i, i < B1.length → B1.getD i 0 + 8 ≤ n ∧ ∃ e0, s_atts f n (by2 f (B1.getD i 0 + 6)) (B1.getD i 0 + 8) = .inr e0) (hB2 : ∀ i, i < B2.length → B2.getD i 0 + 8 ≤ n ∧ ∃ e0, s_atts f n (by2 f (B2.getD i 0 + 6)) (B2.getD i 0 + 8) = .inr e0) (hDs : ∀ i j, i < B1.length → j < B2.length → ¬ G1 i = G2 j) (l_c : c < M.2.1) (l_b : b < M.2.1) (l_da : da < M.2.1) (l_vd : vd < M.2.1) (l_q : q < M.2.1) (l_og : og < M.2.1) (l_ox : ox < M.2.1) (l_ac : ac < M.2.1) (l_o : o < M.2.1) (hz9 : z9 ≤ M.2.1) (hq40 : chkP f n E mj (N - 1) 1 = none) (hq48 : hdS f n E fa = none) (hq56 : ifS f n E (fa + 8) ic 0 = none) (hV : PV g f n N E q M) (hM1 : MV f B1 fr G1 0 M) (hM2 : MV f B2 mr G2 0 M) (kf : Nat) : pl (mT g) kf (mb_11 g).2 (62, [(4, .ref o), (3, .ref ac), (2, .ref ox), (0, .ref c), (1, .ref vd)], [], M) (fun v M' => (∃ (bc : Nat) (K : KT), (s_chk f n N E mj fa ic B1 B2 na pa = none) ∧ (clS f n E (by2 f fa) mj na pa 0 0 = .inr bc) ∧ (clU f n E mj na pa (0, 0, 0, 0, 0, -1) = K) ∧ (PV g f n N E q M') ∧ (MV f B1 fr G1 B1.length M') ∧ (MV f B2 mr G2 B2.length M') ∧ (DF f n E B1 G1 B1.length M') ∧ (DMe f n E mj q b B2 G2 M') ∧ v = some (.int 1) ∧ M'.1 vd = some (ob 10 [.int ru, .int wa]) ∧ M'.1 og = some (ob 11 [.ref ga, .int gn, .ref gf, gk, .int gw]) ∧ M'.1 c = some (ob 3 [.ref b, .ref q, .int mi, .int (nI mj), .int (nI fa), .int (nI ic), .ref fr, .ref mr, .int (nI na), .int (nI pa), .int (nI K.1), .int (nI bc), .int (nI K.2.1), .int (nI K.2.2.1), .int (nI K.2.2.2.1), .int (nI K.2.2.2.2.1), .int K.2.2.2.2.2]) ∧ M'.1 b = some (ob 1 [.ref da]) ∧ M'.1 da = some (ar .byte n f) ∧ z9 ≤ M'.2.1) ∨ (∃ (e9 : Nat × Nat), (s_chk f n N E mj fa ic B1 B2 na pa = some e9) ∧ v = some (.int 0) ∧ M'.1 vd = some (ob 10 [.int (nI e9.1), .int (nI e9.2)]) ∧ M'.1 og = some (ob 11 [.ref ga, .int gn, .ref gf, gk, .int gw]) ∧ z9 ≤ M'.2.1)) := by
  obtain ⟨z0, tp0⟩ : ∃ z0, M.2.1 = z0 := ⟨_, rfl⟩
  refine ps_st (S' := (64, [(4, .ref o), (3, .ref ac), (2, .ref ox), (0, .ref c), (1, .ref vd)], [.ref o], M)) rfl rfl rfl ?_
  refine pl_call (a := [.ref o]) (rest := []) rfl rfl rfl (dk_fieldsHold7 (f := f) (n := n) (N := N) (q := q) (E := E) (o := o) (c := c) (b := b) (da := da) (vd := vd) (ac := ac) (mr := mr) (fa := fa) (ic := ic) (mj := mj) (na := na) (pa := pa) (mi := mi) (ru := ru) (wa := wa) (k1 := k1) (k2 := 0) (k3 := 0) (k4 := 0) (k5 := 0) (k6 := 0) (k7 := (-1)) (ox := ox) (og := og) (ga := ga) (gf := gf) (gn := gn) (gw := gw) (gk := gk) (s1 := s1) (B := B1) (G := G1) (mm := fr) (B2 := B2) (G2 := G2) (m2 := mr) (kk2 := 0) h_ox h_og h_o h_c h_b h_da h_vd h_ac (hn) (hmj) (hfa) (hB91) (hB1) (hDs) (by omega) (by omega) (by omega) (by omega) (by omega) (by omega) (by omega) (by omega) (by omega) (hV) (hM1) (hM2)) (fun v1 M2 q3 => ?_)
  rcases q3 with q3 | q3
  · skip
    obtain ⟨s24, q64_s, q64_V, q64_W, q64_X, q64_D, rfl, h5, h6, h7, h8, h9, h10, h11, h12, tp14⟩ := q3
    obtain ⟨t15, tp16⟩ : ∃ t9, M2.2.1 = t9 := ⟨_, rfl⟩
    rw [tp0, tp16] at tp14
    show pl _ _ _ (67, [(4, .ref o), (3, .ref ac), (2, .ref ox), (0, .ref c), (1, .ref vd)], [.int 1], M2) _
    refine ps_if (S1 := (100, [], [], M2)) (S2 := (70, [(4, .ref o), (3, .ref ac), (2, .ref ox), (0, .ref c), (1, .ref vd)], [], M2)) rfl rfl rfl (fun c_67 => ?_) (fun c_67 => ?_)
    · exact absurd (of_decide_eq_true c_67) (by decide)
    refine ps_st (S' := (72, [(4, .ref o), (3, .ref ac), (2, .ref ox), (0, .ref c), (1, .ref vd)], [.ref o], M2)) rfl rfl rfl ?_
    refine pl_call (a := [.ref o]) (rest := []) rfl rfl rfl (dk_methodsHold7 (f := f) (n := n) (N := N) (q := q) (E := E) (o := o) (c := c) (b := b) (da := da) (vd := vd) (ac := ac) (fr := fr) (fa := fa) (ic := ic) (mj := mj) (na := na) (pa := pa) (mi := mi) (ru := ru) (wa := wa) (k1 := k1) (k2 := 0) (k3 := 0) (k4 := 0) (k5 := 0) (k6 := 0) (k7 := (-1)) (ox := ox) (og := og) (ga := ga) (gf := gf) (gn := gn) (gw := gw) (gk := gk) (s1 := s24) (B := B2) (G := G2) (mm := mr) (B2 := B1) (G2 := G1) (m2 := fr) (kk2 := B1.length) h5 h6 h7 h8 h9 h10 h11 h12 (hn) (hmj) (hfa) (hB92) (hB2) (fun i j hi hj e9 => hDs j i hj hi e9.symm) (by omega) (by omega) (by omega) (by omega) (by omega) (by omega) (by omega) (by omega) (by omega) (q64_V) (q64_W) (q64_X) (q64_D)) (fun v17 M18 q19 => ?_)
    rcases q19 with q19 | q19
    · skip
      obtain ⟨s220, q72_s, q72_V, q72_W, q72_X, q72_D, q72_O, rfl, h21, h22, h23, h24, h25, h26, h27, h28, tp30⟩ := q19
      obtain ⟨t31, tp32⟩ : ∃ t9, M18.2.1 = t9 := ⟨_, rfl⟩
      rw [tp16, tp32] at tp30
      show pl _ _ _ (75, [(4, .ref o), (3, .ref ac), (2, .ref ox), (0, .ref c), (1, .ref vd)], [.int 1], M18) _
      have hDM9 : DMe f n E mj q b B2 G2 M18 := ⟨_, q72_D⟩
      refine ps_if (S1 := (100, [], [], M18)) (S2 := (78, [(4, .ref o), (3, .ref ac), (2, .ref ox), (0, .ref c), (1, .ref vd)], [], M18)) rfl rfl rfl (fun c_75 => ?_) (fun c_75 => ?_)
      · exact absurd (of_decide_eq_true c_75) (by decide)
      exact dk_holds2_c (z9 := z9) (e0 := e0) h21 h28 h23 h24 h25 h26 h27 h22 hn hmj hfa hic hic2 hna hat hB91 hB92 hB1 hB2 hDs (by omega) (by omega) (by omega) (by omega) (by omega) (by omega) (by omega) (by omega) (by omega) (by omega) hq40 hq48 hq56 q64_s q72_s q72_V q72_W q72_X q72_O hDM9 kf
    · skip
      obtain ⟨e933, q72_s, rfl, h34, h35, tp37⟩ := q19
      obtain ⟨t38, tp39⟩ : ∃ t9, M18.2.1 = t9 := ⟨_, rfl⟩
      rw [tp16, tp39] at tp37
      show pl _ _ _ (75, [(4, .ref o), (3, .ref ac), (2, .ref ox), (0, .ref c), (1, .ref vd)], [.int 0], M18) _
      refine ps_if (S1 := (100, [], [], M18)) (S2 := (78, [(4, .ref o), (3, .ref ac), (2, .ref ox), (0, .ref c), (1, .ref vd)], [], M18)) rfl rfl rfl (fun c_75 => ?_) (fun c_75 => ?_)
      rotate_left
      · exact absurd (by decide) (of_decide_eq_false c_75)
      refine ps_st (S' := (101, [], [.int 0], M18)) rfl rfl rfl ?_
      exact ps_ret rfl rfl (Or.inr ⟨e933, by
          unfold s_chk
          rw [hq40]
          try dsimp only
          rw [hq48]
          try dsimp only
          rw [hq56]
          try dsimp only
          rw [q64_s]
          try dsimp only
          rw [q72_s]
          try dsimp only
          first | done | rfl, rfl, h34, h35, by omega⟩)
  · skip
    obtain ⟨e940, q64_s, rfl, h41, h42, tp44⟩ := q3
    obtain ⟨t45, tp46⟩ : ∃ t9, M2.2.1 = t9 := ⟨_, rfl⟩
    rw [tp0, tp46] at tp44
    show pl _ _ _ (67, [(4, .ref o), (3, .ref ac), (2, .ref ox), (0, .ref c), (1, .ref vd)], [.int 0], M2) _
    refine ps_if (S1 := (100, [], [], M2)) (S2 := (70, [(4, .ref o), (3, .ref ac), (2, .ref ox), (0, .ref c), (1, .ref vd)], [], M2)) rfl rfl rfl (fun c_67 => ?_) (fun c_67 => ?_)
    rotate_left
    · exact absurd (by decide) (of_decide_eq_false c_67)
    refine ps_st (S' := (101, [], [.int 0], M2)) rfl rfl rfl ?_
    exact ps_ret rfl rfl (Or.inr ⟨e940, by
        unfold s_chk
        rw [hq40]
        try dsimp only
        rw [hq48]
        try dsimp only
        rw [hq56]
        try dsimp only
        rw [q64_s]
        try dsimp only
        first | done | rfl, rfl, h41, h42, by omega⟩)
set_option maxHeartbeats 1000000 in
theorem dk_holds2 {g : xe_G} {M : mi_H} {f : Nat → Int32} {n N q : Nat} {E : List (Nat × Nat)} {c b da vd fr mr fa ic mj na pa e0 : Nat} {mi ru wa k1 : Int32} {B1 B2 : List Nat} {G1 G2 : Nat → Nat} {og ga gf : Nat} {gn gw : Int32} {gk : Value} (h_c : M.1 c = some (ob 3 [.ref b, .ref q, .int mi, .int (nI mj), .int (nI fa), .int (nI ic), .ref fr, .ref mr, .int (nI na), .int (nI pa), .int k1, .int 0, .int 0, .int 0, .int 0, .int 0, .int (-1)])) (h_b : M.1 b = some (ob 1 [.ref da])) (h_da : M.1 da = some (ar .byte n f)) (h_vd : M.1 vd = some (ob 10 [.int ru, .int wa])) (h_og : M.1 og = some (ob 11 [.ref ga, .int gn, .ref gf, gk, .int gw])) (hn : n ≤ 65540) (hmj : mj < 65536) (hfa : fa + 8 ≤ n) (hic : fa + 8 + 2 * ic ≤ n) (hic2 : ic < 65536) (hna : na < 65536 ∧ pa ≤ n) (hat : s_atts f n na pa = .inr e0) (hB91 : B1.length < 65536) (hB92 : B2.length < 65536) (hB1 : ∀ i, i < B1.length → B1.getD i 0 + 8 ≤ n ∧ ∃ e0, s_atts f n (by2 f (B1.getD i 0 + 6)) (B1.getD i 0 + 8) = .inr e0) (hB2 : ∀ i, i < B2.length → B2.getD i 0 + 8 ≤ n ∧ ∃ e0, s_atts f n (by2 f (B2.getD i 0 + 6)) (B2.getD i 0 + 8) = .inr e0) (hDs : ∀ i j, i < B1.length → j < B2.length → ¬ G1 i = G2 j) (l_c : c < M.2.1) (l_b : b < M.2.1) (l_da : da < M.2.1) (l_vd : vd < M.2.1) (l_q : q < M.2.1) (l_og : og < M.2.1) (hW : PW g f n N E q M) (hM1 : MV f B1 fr G1 0 M) (hM2 : MV f B2 mr G2 0 M) : pt (mT g) 11 [.ref c, .ref vd] M (fun v M' => (∃ (bc : Nat) (K : KT), (s_chk f n N E mj fa ic B1 B2 na pa = none) ∧ (clS f n E (by2 f fa) mj na pa 0 0 = .inr bc) ∧ (clU f n E mj na pa (0, 0, 0, 0, 0, -1) = K) ∧ (PV g f n N E q M') ∧ (MV f B1 fr G1 B1.length M') ∧ (MV f B2 mr G2 B2.length M') ∧ (DF f n E B1 G1 B1.length M') ∧ (DMe f n E mj q b B2 G2 M') ∧ v = some (.int 1) ∧ M'.1 vd = some (ob 10 [.int ru, .int wa]) ∧ M'.1 og = some (ob 11 [.ref ga, .int gn, .ref gf, gk, .int gw]) ∧ M'.1 c = some (ob 3 [.ref b, .ref q, .int mi, .int (nI mj), .int (nI fa), .int (nI ic), .ref fr, .ref mr, .int (nI na), .int (nI pa), .int (nI K.1), .int (nI bc), .int (nI K.2.1), .int (nI K.2.2.1), .int (nI K.2.2.2.1), .int (nI K.2.2.2.2.1), .int K.2.2.2.2.2]) ∧ M'.1 b = some (ob 1 [.ref da]) ∧ M'.1 da = some (ar .byte n f) ∧ M.2.1 ≤ M'.2.1) ∨ (∃ (e9 : Nat × Nat), (s_chk f n N E mj fa ic B1 B2 na pa = some e9) ∧ v = some (.int 0) ∧ M'.1 vd = some (ob 10 [.int (nI e9.1), .int (nI e9.2)]) ∧ M'.1 og = some (ob 11 [.ref ga, .int gn, .ref gf, gk, .int gw]) ∧ M.2.1 ≤ M'.2.1)) := by
  refine pt_in (b := mb_11 g) rfl (fun kf => ?_)
  show pl (mT g) kf (mb_11 g).2 (0, [(0, .ref c), (1, .ref vd)], [], M) _
  obtain ⟨z0, tp0⟩ : ∃ z0, M.2.1 = z0 := ⟨_, rfl⟩
  obtain ⟨hL, H, m, qq, F, cc, hP, hT, hBd, hb, hVF, hD⟩ := hW
  have h_q := hP.1
  have h_qq_1 := hP.2.1 1 (by decide) (by decide)
  have h_qq_2 := hP.2.1 2 (by decide) (by decide)
  have h_qq_3 := hP.2.1 3 (by decide) (by decide)
  have h_qq_4 := hP.2.1 4 (by decide) (by decide)
  have h_qq_5 := hP.2.1 5 (by decide) (by decide)
  have h_qq_6 := hP.2.2
  have l_qq_1 := hBd.2 1 (by decide) (by decide)
  have l_qq_2 := hBd.2 2 (by decide) (by decide)
  have l_qq_3 := hBd.2 3 (by decide) (by decide)
  have l_qq_4 := hBd.2 4 (by decide) (by decide)
  have l_qq_5 := hBd.2 5 (by decide) (by decide)
  have l_qq_6 := hBd.2 6 (by decide) (by decide)
  have l_fr := hM1.1
  have l_mr := hM2.1
  refine ps_st (S' := (1, [(0, .ref c), (1, .ref vd)], [.ref c], M)) rfl rfl rfl ?_
  refine ps_get (S' := (4, [(0, .ref c), (1, .ref vd)], [.ref q], M)) rfl h_c rfl rfl ?_
  refine pl_call (a := [.ref q]) (rest := []) rfl rfl rfl (dk_describeTexts (f := f) (n := n) (N := N) (H := H) (m := m) (q := q) (E := E) (qq := qq) (F := F) (cc := cc) h_q h_qq_1 h_qq_2 h_qq_3 h_qq_4 h_qq_5 h_qq_6 (by omega) (hVF) (hD)) (fun v1 M2 q3 => ?_)
  obtain ⟨G54, q4_s, rfl, h5, f6⟩ := q3
  have h8 := (f6.1 c (nin1 (ob_ar h_c h_qq_5))).trans h_c
  have h9 := (f6.1 b (nin1 (ob_ar h_b h_qq_5))).trans h_b
  have h10 := (f6.1 da (nin1 (ar_ne h_da h_qq_5 (by decide)))).trans h_da
  have h11 := (f6.1 vd (nin1 (ob_ar h_vd h_qq_5))).trans h_vd
  have h12 := (f6.1 og (nin1 (ob_ar h_og h_qq_5))).trans h_og
  have h13 := (f6.1 q (nin1 (ob_ar h_q h_qq_5))).trans h_q
  have h14 := (f6.1 (qq 1) (nin1 (hD 1 (by decide) (by decide)))).trans h_qq_1
  have h15 := (f6.1 (qq 2) (nin1 (hD 2 (by decide) (by decide)))).trans h_qq_2
  have h16 := (f6.1 (qq 3) (nin1 (hD 3 (by decide) (by decide)))).trans h_qq_3
  have h17 := (f6.1 (qq 4) (nin1 (hD 4 (by decide) (by decide)))).trans h_qq_4
  have h18 := (f6.1 (qq 6) (nin1 (ar_ne h_qq_6 h_qq_5 (by decide)))).trans h_qq_6
  have tp20 : M2.2.1 = z0 := by rw [f6.2]; exact tp0
  show pl _ _ _ (7, [(0, .ref c), (1, .ref vd)], [], M2) _
  have hV21 := hM1.keepX f6.gm h_qq_5 (by decide)
  have hV22 := hM2.keepX f6.gm h_qq_5 (by decide)
  have hV23 := hL.keepX f6.gm h_qq_5
  have hV : PV g f n N E q M2 := PV_of hV23 (PL5 h13 h14 h15 h16 h17 h5 h18) hT hBd f6.2 hb hVF q4_s
  clear h_c h_b h_da h_vd h_og h_q h_qq_1 h_qq_2 h_qq_3 h_qq_4 h_qq_5 h_qq_6 hM1 hM2 hL f6
  refine ps_newz rfl tp20 (fun M24 h25 f26 tp27 => ?_)
  have h28 := (f26 c (show c ≠ z0 by omega)).trans h8
  have h29 := (f26 b (show b ≠ z0 by omega)).trans h9
  have h30 := (f26 da (show da ≠ z0 by omega)).trans h10
  have h31 := (f26 vd (show vd ≠ z0 by omega)).trans h11
  have h32 := (f26 og (show og ≠ z0 by omega)).trans h12
  have hV33 := hV.new tp20 f26 tp27
  have hV34 := hV21.new tp20 f26 tp27
  have hV35 := hV22.new tp20 f26 tp27
  clear h8 h9 h10 h11 h12 hV hV21 hV22 f26
  show pl _ _ _ (10, [(0, .ref c), (1, .ref vd)], [.ref z0], M24) _
  refine ps_st (S' := (11, [(0, .ref c), (1, .ref vd)], [.ref z0, .ref z0], M24)) rfl rfl rfl ?_
  refine ps_st (S' := (12, [(0, .ref c), (1, .ref vd)], [.ref c, .ref z0, .ref z0], M24)) rfl rfl rfl ?_
  refine ps_st (S' := (13, [(0, .ref c), (1, .ref vd)], [.ref vd, .ref c, .ref z0, .ref z0], M24)) rfl rfl rfl ?_
  refine pl_call (a := [.ref z0, .ref c, .ref vd]) (rest := [.ref z0]) rfl rfl rfl (dk_poolCheck0 (q := q) (c := c) (b := b) (fr := fr) (mr := mr) (fa := fa) (ic := ic) (mj := mj) (na := na) (pa := pa) (vd := vd) (o8 := z0) (mi := mi) (k1 := k1) (k2 := 0) (k3 := 0) (k4 := 0) (k5 := 0) (k6 := 0) (k7 := (-1)) h25 h28) (fun v37 M38 q39 => ?_)
  obtain ⟨rfl, h40, f41⟩ := q39
  have h43 := (f41.1 c (nin1 (show c ≠ z0 by omega))).trans h28
  have h44 := (f41.1 b (nin1 (show b ≠ z0 by omega))).trans h29
  have h45 := (f41.1 da (nin1 (show da ≠ z0 by omega))).trans h30
  have h46 := (f41.1 vd (nin1 (show vd ≠ z0 by omega))).trans h31
  have h47 := (f41.1 og (nin1 (show og ≠ z0 by omega))).trans h32
  have tp49 : M38.2.1 = z0 + 1 := by rw [f41.2]; exact tp27
  have hV50 := hV33.keep f41.gm (n7c h25 (by decide) (n7nil))
  have hV51 := hV34.keep f41.gm (n6o h25 (by decide) (n6on))
  have hV52 := hV35.keep f41.gm (n6o h25 (by decide) (n6on))
  show pl _ _ _ (16, [(0, .ref c), (1, .ref vd)], [.ref z0], M38) _
  clear h28 h29 h30 h31 h32 h25 hV33 hV34 hV35 f41
  refine ps_st (S' := (17, [(2, .ref z0), (0, .ref c), (1, .ref vd)], [], M38)) rfl rfl rfl ?_
  refine ps_newz rfl tp49 (fun M53 h54 f55 tp56 => ?_)
  have h57 := (f55 c (show c ≠ (z0 + 1) by omega)).trans h43
  have h58 := (f55 b (show b ≠ (z0 + 1) by omega)).trans h44
  have h59 := (f55 da (show da ≠ (z0 + 1) by omega)).trans h45
  have h60 := (f55 vd (show vd ≠ (z0 + 1) by omega)).trans h46
  have h61 := (f55 og (show og ≠ (z0 + 1) by omega)).trans h47
  have h62 := (f55 z0 (show z0 ≠ (z0 + 1) by omega)).trans h40
  have hV63 := hV50.new tp49 f55 tp56
  have hV64 := hV51.new tp49 f55 tp56
  have hV65 := hV52.new tp49 f55 tp56
  clear h43 h44 h45 h46 h47 h40 hV50 hV51 hV52 f55
  show pl _ _ _ (20, [(2, .ref z0), (0, .ref c), (1, .ref vd)], [.ref (z0 + 1)], M53) _
  refine ps_st (S' := (21, [(2, .ref z0), (0, .ref c), (1, .ref vd)], [.ref (z0 + 1), .ref (z0 + 1)], M53)) rfl rfl rfl ?_
  refine ps_st (S' := (22, [(2, .ref z0), (0, .ref c), (1, .ref vd)], [.ref c, .ref (z0 + 1), .ref (z0 + 1)], M53)) rfl rfl rfl ?_
  refine ps_st (S' := (23, [(2, .ref z0), (0, .ref c), (1, .ref vd)], [.ref vd, .ref c, .ref (z0 + 1), .ref (z0 + 1)], M53)) rfl rfl rfl ?_
  refine pl_call (a := [.ref (z0 + 1), .ref c, .ref vd]) (rest := [.ref (z0 + 1)]) rfl rfl rfl (dk_attrCheck0 (q := q) (c := c) (b := b) (fr := fr) (mr := mr) (fa := fa) (ic := ic) (mj := mj) (na := na) (pa := pa) (vd := vd) (o0 := (z0 + 1)) (mi := mi) (k1 := k1) (k2 := 0) (k3 := 0) (k4 := 0) (k5 := 0) (k6 := 0) (k7 := (-1)) h54 h57) (fun v67 M68 q69 => ?_)
  obtain ⟨rfl, h70, f71⟩ := q69
  have h73 := (f71.1 c (nin1 (show c ≠ (z0 + 1) by omega))).trans h57
  have h74 := (f71.1 b (nin1 (show b ≠ (z0 + 1) by omega))).trans h58
  have h75 := (f71.1 da (nin1 (show da ≠ (z0 + 1) by omega))).trans h59
  have h76 := (f71.1 vd (nin1 (show vd ≠ (z0 + 1) by omega))).trans h60
  have h77 := (f71.1 og (nin1 (show og ≠ (z0 + 1) by omega))).trans h61
  have h78 := (f71.1 z0 (nin1 (show z0 ≠ (z0 + 1) by omega))).trans h62
  have tp80 : M68.2.1 = z0 + 2 := by rw [f71.2]; exact tp56
  have hV81 := hV63.keep f71.gm (n7c h54 (by decide) (n7nil))
  have hV82 := hV64.keep f71.gm (n6o h54 (by decide) (n6on))
  have hV83 := hV65.keep f71.gm (n6o h54 (by decide) (n6on))
  show pl _ _ _ (26, [(2, .ref z0), (0, .ref c), (1, .ref vd)], [.ref (z0 + 1)], M68) _
  clear h57 h58 h59 h60 h61 h62 h54 hV63 hV64 hV65 f71
  refine ps_st (S' := (27, [(3, .ref (z0 + 1)), (2, .ref z0), (0, .ref c), (1, .ref vd)], [], M68)) rfl rfl rfl ?_
  refine ps_newz rfl tp80 (fun M84 h85 f86 tp87 => ?_)
  have h88 := (f86 c (show c ≠ (z0 + 2) by omega)).trans h73
  have h89 := (f86 b (show b ≠ (z0 + 2) by omega)).trans h74
  have h90 := (f86 da (show da ≠ (z0 + 2) by omega)).trans h75
  have h91 := (f86 vd (show vd ≠ (z0 + 2) by omega)).trans h76
  have h92 := (f86 og (show og ≠ (z0 + 2) by omega)).trans h77
  have h93 := (f86 z0 (show z0 ≠ (z0 + 2) by omega)).trans h78
  have h94 := (f86 (z0 + 1) (show (z0 + 1) ≠ (z0 + 2) by omega)).trans h70
  have hV95 := hV81.new tp80 f86 tp87
  have hV96 := hV82.new tp80 f86 tp87
  have hV97 := hV83.new tp80 f86 tp87
  clear h73 h74 h75 h76 h77 h78 h70 hV81 hV82 hV83 f86
  show pl _ _ _ (30, [(3, .ref (z0 + 1)), (2, .ref z0), (0, .ref c), (1, .ref vd)], [.ref (z0 + 2)], M84) _
  refine ps_st (S' := (31, [(3, .ref (z0 + 1)), (2, .ref z0), (0, .ref c), (1, .ref vd)], [.ref (z0 + 2), .ref (z0 + 2)], M84)) rfl rfl rfl ?_
  refine ps_st (S' := (32, [(3, .ref (z0 + 1)), (2, .ref z0), (0, .ref c), (1, .ref vd)], [.ref c, .ref (z0 + 2), .ref (z0 + 2)], M84)) rfl rfl rfl ?_
  refine ps_st (S' := (33, [(3, .ref (z0 + 1)), (2, .ref z0), (0, .ref c), (1, .ref vd)], [.ref vd, .ref c, .ref (z0 + 2), .ref (z0 + 2)], M84)) rfl rfl rfl ?_
  refine ps_st (S' := (34, [(3, .ref (z0 + 1)), (2, .ref z0), (0, .ref c), (1, .ref vd)], [.ref (z0 + 1), .ref vd, .ref c, .ref (z0 + 2), .ref (z0 + 2)], M84)) rfl rfl rfl ?_
  refine pl_call (a := [.ref (z0 + 2), .ref c, .ref vd, .ref (z0 + 1)]) (rest := [.ref (z0 + 2)]) rfl rfl rfl (dk_classCheck0 (q := q) (c := c) (b := b) (fr := fr) (mr := mr) (fa := fa) (ic := ic) (mj := mj) (na := na) (pa := pa) (vd := vd) (o2 := (z0 + 2)) (ac := (z0 + 1)) (mi := mi) (k1 := k1) (k2 := 0) (k3 := 0) (k4 := 0) (k5 := 0) (k6 := 0) (k7 := (-1)) h85 h88) (fun v99 M100 q101 => ?_)
  obtain ⟨rfl, h102, f103⟩ := q101
  have h105 := (f103.1 c (nin1 (show c ≠ (z0 + 2) by omega))).trans h88
  have h106 := (f103.1 b (nin1 (show b ≠ (z0 + 2) by omega))).trans h89
  have h107 := (f103.1 da (nin1 (show da ≠ (z0 + 2) by omega))).trans h90
  have h108 := (f103.1 vd (nin1 (show vd ≠ (z0 + 2) by omega))).trans h91
  have h109 := (f103.1 og (nin1 (show og ≠ (z0 + 2) by omega))).trans h92
  have h110 := (f103.1 z0 (nin1 (show z0 ≠ (z0 + 2) by omega))).trans h93
  have h111 := (f103.1 (z0 + 1) (nin1 (show (z0 + 1) ≠ (z0 + 2) by omega))).trans h94
  have tp113 : M100.2.1 = z0 + 3 := by rw [f103.2]; exact tp87
  have hV114 := hV95.keep f103.gm (n7c h85 (by decide) (n7nil))
  have hV115 := hV96.keep f103.gm (n6o h85 (by decide) (n6on))
  have hV116 := hV97.keep f103.gm (n6o h85 (by decide) (n6on))
  show pl _ _ _ (37, [(3, .ref (z0 + 1)), (2, .ref z0), (0, .ref c), (1, .ref vd)], [.ref (z0 + 2)], M100) _
  clear h88 h89 h90 h91 h92 h93 h94 h85 hV95 hV96 hV97 f103
  refine ps_st (S' := (39, [(4, .ref (z0 + 2)), (3, .ref (z0 + 1)), (2, .ref z0), (0, .ref c), (1, .ref vd)], [], M100)) rfl rfl rfl ?_
  refine ps_st (S' := (40, [(4, .ref (z0 + 2)), (3, .ref (z0 + 1)), (2, .ref z0), (0, .ref c), (1, .ref vd)], [.ref z0], M100)) rfl rfl rfl ?_
  refine pl_call (a := [.ref z0]) (rest := []) rfl rfl rfl (dk_entriesHold (f := f) (n := n) (N := N) (q := q) (E := E) (o := z0) (vd := vd) (mj := mj) (ru := ru) (wa := wa) h110 h108 (hmj) (hV114)) (fun v117 M118 q119 => ?_)
  rcases q119 with q119 | q119
  · skip
    obtain ⟨q40_s, rfl, h120, f121⟩ := q119
    have h123 := (f121.1 c (nin1 (ob_ne h105 h108 (by decide)))).trans h105
    have h124 := (f121.1 b (nin1 (ob_ne h106 h108 (by decide)))).trans h106
    have h125 := (f121.1 da (nin1 (Ne.symm (ob_ar h108 h107)))).trans h107
    have h126 := (f121.1 og (nin1 (ob_ne h109 h108 (by decide)))).trans h109
    have h127 := (f121.1 z0 (nin1 (show z0 ≠ vd by omega))).trans h110
    have h128 := (f121.1 (z0 + 1) (nin1 (show (z0 + 1) ≠ vd by omega))).trans h111
    have h129 := (f121.1 (z0 + 2) (nin1 (show (z0 + 2) ≠ vd by omega))).trans h102
    have tp131 : M118.2.1 = z0 + 3 := by rw [f121.2]; exact tp113
    have hV132 := hV114.keep f121.gm (n7c h108 (by decide) (n7nil))
    have hV133 := hV115.keep f121.gm (n6o h108 (by decide) (n6on))
    have hV134 := hV116.keep f121.gm (n6o h108 (by decide) (n6on))
    show pl _ _ _ (43, [(4, .ref (z0 + 2)), (3, .ref (z0 + 1)), (2, .ref z0), (0, .ref c), (1, .ref vd)], [.int 1], M118) _
    clear h105 h106 h107 h108 h109 h110 h111 h102 hV114 hV115 hV116 f121
    refine ps_if (S1 := (100, [], [], M118)) (S2 := (46, [(4, .ref (z0 + 2)), (3, .ref (z0 + 1)), (2, .ref z0), (0, .ref c), (1, .ref vd)], [], M118)) rfl rfl rfl (fun c_43 => ?_) (fun c_43 => ?_)
    · exact absurd (of_decide_eq_true c_43) (by decide)
    refine ps_st (S' := (48, [(4, .ref (z0 + 2)), (3, .ref (z0 + 1)), (2, .ref z0), (0, .ref c), (1, .ref vd)], [.ref (z0 + 2)], M118)) rfl rfl rfl ?_
    refine pl_call (a := [.ref (z0 + 2)]) (rest := []) rfl rfl rfl (dk_headHolds (f := f) (n := n) (N := N) (q := q) (E := E) (o := (z0 + 2)) (c := c) (b := b) (da := da) (vd := vd) (ac := (z0 + 1)) (fr := fr) (mr := mr) (fa := fa) (ic := ic) (mj := mj) (na := na) (pa := pa) (mi := mi) (ru := ru) (wa := wa) (k1 := k1) (k2 := 0) (k3 := 0) (k4 := 0) (k5 := 0) (k6 := 0) (k7 := (-1)) h129 h123 h124 h125 h120 (hn) (hmj) (hfa) (hV132)) (fun v135 M136 q137 => ?_)
    rcases q137 with q137 | q137
    · skip
      obtain ⟨q48_s, rfl, h138, f139⟩ := q137
      have h141 := (f139.1 c (nin1 (ob_ne h123 h120 (by decide)))).trans h123
      have h142 := (f139.1 b (nin1 (ob_ne h124 h120 (by decide)))).trans h124
      have h143 := (f139.1 da (nin1 (Ne.symm (ob_ar h120 h125)))).trans h125
      have h144 := (f139.1 og (nin1 (ob_ne h126 h120 (by decide)))).trans h126
      have h145 := (f139.1 z0 (nin1 (show z0 ≠ vd by omega))).trans h127
      have h146 := (f139.1 (z0 + 1) (nin1 (show (z0 + 1) ≠ vd by omega))).trans h128
      have h147 := (f139.1 (z0 + 2) (nin1 (show (z0 + 2) ≠ vd by omega))).trans h129
      have tp149 : M136.2.1 = z0 + 3 := by rw [f139.2]; exact tp131
      have hV150 := hV132.keep f139.gm (n7c h120 (by decide) (n7nil))
      have hV151 := hV133.keep f139.gm (n6o h120 (by decide) (n6on))
      have hV152 := hV134.keep f139.gm (n6o h120 (by decide) (n6on))
      show pl _ _ _ (51, [(4, .ref (z0 + 2)), (3, .ref (z0 + 1)), (2, .ref z0), (0, .ref c), (1, .ref vd)], [.int 1], M136) _
      clear h123 h124 h125 h120 h126 h127 h128 h129 hV132 hV133 hV134 f139
      refine ps_if (S1 := (100, [], [], M136)) (S2 := (54, [(4, .ref (z0 + 2)), (3, .ref (z0 + 1)), (2, .ref z0), (0, .ref c), (1, .ref vd)], [], M136)) rfl rfl rfl (fun c_51 => ?_) (fun c_51 => ?_)
      · exact absurd (of_decide_eq_true c_51) (by decide)
      refine ps_st (S' := (56, [(4, .ref (z0 + 2)), (3, .ref (z0 + 1)), (2, .ref z0), (0, .ref c), (1, .ref vd)], [.ref (z0 + 2)], M136)) rfl rfl rfl ?_
      refine pl_call (a := [.ref (z0 + 2)]) (rest := []) rfl rfl rfl (dk_interfacesHold (f := f) (n := n) (N := N) (q := q) (E := E) (o := (z0 + 2)) (c := c) (b := b) (da := da) (vd := vd) (ac := (z0 + 1)) (fr := fr) (mr := mr) (fa := fa) (ic := ic) (mj := mj) (na := na) (pa := pa) (mi := mi) (ru := ru) (wa := wa) (k1 := k1) (k2 := 0) (k3 := 0) (k4 := 0) (k5 := 0) (k6 := 0) (k7 := (-1)) h147 h141 h142 h143 h138 (hn) (hmj) (hfa) (hic) (hV150)) (fun v153 M154 q155 => ?_)
      rcases q155 with q155 | q155
      · skip
        obtain ⟨q56_s, rfl, h156, f157⟩ := q155
        have h159 := (f157.1 c (nin1 (ob_ne h141 h138 (by decide)))).trans h141
        have h160 := (f157.1 b (nin1 (ob_ne h142 h138 (by decide)))).trans h142
        have h161 := (f157.1 da (nin1 (Ne.symm (ob_ar h138 h143)))).trans h143
        have h162 := (f157.1 og (nin1 (ob_ne h144 h138 (by decide)))).trans h144
        have h163 := (f157.1 z0 (nin1 (show z0 ≠ vd by omega))).trans h145
        have h164 := (f157.1 (z0 + 1) (nin1 (show (z0 + 1) ≠ vd by omega))).trans h146
        have h165 := (f157.1 (z0 + 2) (nin1 (show (z0 + 2) ≠ vd by omega))).trans h147
        have tp167 : M154.2.1 = z0 + 3 := by rw [f157.2]; exact tp149
        have hV168 := hV150.keep f157.gm (n7c h138 (by decide) (n7nil))
        have hV169 := hV151.keep f157.gm (n6o h138 (by decide) (n6on))
        have hV170 := hV152.keep f157.gm (n6o h138 (by decide) (n6on))
        show pl _ _ _ (59, [(4, .ref (z0 + 2)), (3, .ref (z0 + 1)), (2, .ref z0), (0, .ref c), (1, .ref vd)], [.int 1], M154) _
        clear h141 h142 h143 h138 h144 h145 h146 h147 hV150 hV151 hV152 f157
        refine ps_if (S1 := (100, [], [], M154)) (S2 := (62, [(4, .ref (z0 + 2)), (3, .ref (z0 + 1)), (2, .ref z0), (0, .ref c), (1, .ref vd)], [], M154)) rfl rfl rfl (fun c_59 => ?_) (fun c_59 => ?_)
        · exact absurd (of_decide_eq_true c_59) (by decide)
        exact dk_holds2_b (z9 := M.2.1) (e0 := e0) h163 h164 h165 h159 h160 h161 h156 h162 hn hmj hfa hic hic2 hna hat hB91 hB92 hB1 hB2 hDs (by omega) (by omega) (by omega) (by omega) (by omega) (by omega) (by omega) (by omega) (by omega) (by omega) q40_s q48_s q56_s hV168 hV169 hV170 kf
      · skip
        obtain ⟨e171, q56_s, rfl, h172, f173⟩ := q155
        have h175 := (f173.1 c (nin1 (ob_ne h141 h138 (by decide)))).trans h141
        have h176 := (f173.1 b (nin1 (ob_ne h142 h138 (by decide)))).trans h142
        have h177 := (f173.1 da (nin1 (Ne.symm (ob_ar h138 h143)))).trans h143
        have h178 := (f173.1 og (nin1 (ob_ne h144 h138 (by decide)))).trans h144
        have h179 := (f173.1 z0 (nin1 (show z0 ≠ vd by omega))).trans h145
        have h180 := (f173.1 (z0 + 1) (nin1 (show (z0 + 1) ≠ vd by omega))).trans h146
        have h181 := (f173.1 (z0 + 2) (nin1 (show (z0 + 2) ≠ vd by omega))).trans h147
        have tp183 : M154.2.1 = z0 + 3 := by rw [f173.2]; exact tp149
        have hV184 := hV150.keep f173.gm (n7c h138 (by decide) (n7nil))
        have hV185 := hV151.keep f173.gm (n6o h138 (by decide) (n6on))
        have hV186 := hV152.keep f173.gm (n6o h138 (by decide) (n6on))
        show pl _ _ _ (59, [(4, .ref (z0 + 2)), (3, .ref (z0 + 1)), (2, .ref z0), (0, .ref c), (1, .ref vd)], [.int 0], M154) _
        clear h141 h142 h143 h138 h144 h145 h146 h147 hV150 hV151 hV152 f173
        refine ps_if (S1 := (100, [], [], M154)) (S2 := (62, [(4, .ref (z0 + 2)), (3, .ref (z0 + 1)), (2, .ref z0), (0, .ref c), (1, .ref vd)], [], M154)) rfl rfl rfl (fun c_59 => ?_) (fun c_59 => ?_)
        rotate_left
        · exact absurd (by decide) (of_decide_eq_false c_59)
        refine ps_st (S' := (101, [], [.int 0], M154)) rfl rfl rfl ?_
        exact ps_ret rfl rfl (Or.inr ⟨e171, by
            unfold s_chk
            rw [q40_s]
            try dsimp only
            rw [q48_s]
            try dsimp only
            rw [q56_s]
            try dsimp only
            first | done | rfl, rfl, h172, h178, by omega⟩)
    · skip
      obtain ⟨e187, q48_s, rfl, h188, f189⟩ := q137
      have h191 := (f189.1 c (nin1 (ob_ne h123 h120 (by decide)))).trans h123
      have h192 := (f189.1 b (nin1 (ob_ne h124 h120 (by decide)))).trans h124
      have h193 := (f189.1 da (nin1 (Ne.symm (ob_ar h120 h125)))).trans h125
      have h194 := (f189.1 og (nin1 (ob_ne h126 h120 (by decide)))).trans h126
      have h195 := (f189.1 z0 (nin1 (show z0 ≠ vd by omega))).trans h127
      have h196 := (f189.1 (z0 + 1) (nin1 (show (z0 + 1) ≠ vd by omega))).trans h128
      have h197 := (f189.1 (z0 + 2) (nin1 (show (z0 + 2) ≠ vd by omega))).trans h129
      have tp199 : M136.2.1 = z0 + 3 := by rw [f189.2]; exact tp131
      have hV200 := hV132.keep f189.gm (n7c h120 (by decide) (n7nil))
      have hV201 := hV133.keep f189.gm (n6o h120 (by decide) (n6on))
      have hV202 := hV134.keep f189.gm (n6o h120 (by decide) (n6on))
      show pl _ _ _ (51, [(4, .ref (z0 + 2)), (3, .ref (z0 + 1)), (2, .ref z0), (0, .ref c), (1, .ref vd)], [.int 0], M136) _
      clear h123 h124 h125 h120 h126 h127 h128 h129 hV132 hV133 hV134 f189
      refine ps_if (S1 := (100, [], [], M136)) (S2 := (54, [(4, .ref (z0 + 2)), (3, .ref (z0 + 1)), (2, .ref z0), (0, .ref c), (1, .ref vd)], [], M136)) rfl rfl rfl (fun c_51 => ?_) (fun c_51 => ?_)
      rotate_left
      · exact absurd (by decide) (of_decide_eq_false c_51)
      refine ps_st (S' := (101, [], [.int 0], M136)) rfl rfl rfl ?_
      exact ps_ret rfl rfl (Or.inr ⟨e187, by
          unfold s_chk
          rw [q40_s]
          try dsimp only
          rw [q48_s]
          try dsimp only
          first | done | rfl, rfl, h188, h194, by omega⟩)
  · skip
    obtain ⟨e203, q40_s, rfl, h204, f205⟩ := q119
    have h207 := (f205.1 c (nin1 (ob_ne h105 h108 (by decide)))).trans h105
    have h208 := (f205.1 b (nin1 (ob_ne h106 h108 (by decide)))).trans h106
    have h209 := (f205.1 da (nin1 (Ne.symm (ob_ar h108 h107)))).trans h107
    have h210 := (f205.1 og (nin1 (ob_ne h109 h108 (by decide)))).trans h109
    have h211 := (f205.1 z0 (nin1 (show z0 ≠ vd by omega))).trans h110
    have h212 := (f205.1 (z0 + 1) (nin1 (show (z0 + 1) ≠ vd by omega))).trans h111
    have h213 := (f205.1 (z0 + 2) (nin1 (show (z0 + 2) ≠ vd by omega))).trans h102
    have tp215 : M118.2.1 = z0 + 3 := by rw [f205.2]; exact tp113
    have hV216 := hV114.keep f205.gm (n7c h108 (by decide) (n7nil))
    have hV217 := hV115.keep f205.gm (n6o h108 (by decide) (n6on))
    have hV218 := hV116.keep f205.gm (n6o h108 (by decide) (n6on))
    show pl _ _ _ (43, [(4, .ref (z0 + 2)), (3, .ref (z0 + 1)), (2, .ref z0), (0, .ref c), (1, .ref vd)], [.int 0], M118) _
    clear h105 h106 h107 h108 h109 h110 h111 h102 hV114 hV115 hV116 f205
    refine ps_if (S1 := (100, [], [], M118)) (S2 := (46, [(4, .ref (z0 + 2)), (3, .ref (z0 + 1)), (2, .ref z0), (0, .ref c), (1, .ref vd)], [], M118)) rfl rfl rfl (fun c_43 => ?_) (fun c_43 => ?_)
    rotate_left
    · exact absurd (by decide) (of_decide_eq_false c_43)
    refine ps_st (S' := (101, [], [.int 0], M118)) rfl rfl rfl ?_
    exact ps_ret rfl rfl (Or.inr ⟨e203, by
        unfold s_chk
        rw [q40_s]
        try dsimp only
        first | done | rfl, rfl, h204, h210, by omega⟩)
set_option maxHeartbeats 1000000 in
theorem dk_read2 {g : xe_G} {M : mi_H} {f : Nat → Int32} {n o ca da : Nat} {cn wp : Int32} {kv : Value} (h_o : M.1 o = some (ob 11 [.ref ca, .int cn, .ref da, kv, .int wp])) (h_da : M.1 da = some (ar .byte n f)) (hn : n ≤ 65540) (l_o : o < M.2.1) (l_da : da < M.2.1) (hL : LT g M) : pt (mT g) 18 [.ref o] M (fun v M' => (∃ (c2 : Nat), (s_read f n = none) ∧ (KC g f n c2 da M') ∧ (M.2.1 ≤ c2) ∧ v = some (.int 0) ∧ M'.1 o = some (ob 11 [.ref ca, .int cn, .ref g.1, .ref c2, .int (-1)]) ∧ M.2.1 ≤ M'.2.1) ∨ (∃ (e9 : Nat × Nat), (s_read f n = some e9) ∧ v = some (.int (nI e9.1)) ∧ M'.1 o = some (ob 11 [.ref ca, .int cn, .ref g.1, kv, .int (nI e9.2)]) ∧ M.2.1 ≤ M'.2.1)) := by
  refine pt_in (b := mb_18 g) rfl (fun kf => ?_)
  show pl (mT g) kf (mb_18 g).2 (0, [(0, .ref o)], [], M) _
  obtain ⟨z0, tp0⟩ : ∃ z0, M.2.1 = z0 := ⟨_, rfl⟩
  refine ps_newz rfl tp0 (fun M1 h2 f3 tp4 => ?_)
  have h5 := (f3 o (show o ≠ z0 by omega)).trans h_o
  have h6 := (f3 da (show da ≠ z0 by omega)).trans h_da
  have hV7 := hL.new tp0 f3 tp4
  clear h_o h_da hL f3
  show pl _ _ _ (3, [(0, .ref o)], [.ref z0], M1) _
  refine ps_st (S' := (4, [(0, .ref o)], [.ref z0, .ref z0], M1)) rfl rfl rfl ?_
  refine ps_newz rfl tp4 (fun M9 h10 f11 tp12 => ?_)
  have h13 := (f11 o (show o ≠ (z0 + 1) by omega)).trans h5
  have h14 := (f11 da (show da ≠ (z0 + 1) by omega)).trans h6
  have h15 := (f11 z0 (show z0 ≠ (z0 + 1) by omega)).trans h2
  have hV16 := hV7.new tp4 f11 tp12
  clear h5 h6 h2 hV7 f11
  show pl _ _ _ (7, [(0, .ref o)], [.ref (z0 + 1), .ref z0, .ref z0], M9) _
  refine ps_st (S' := (8, [(0, .ref o)], [.ref (z0 + 1), .ref (z0 + 1), .ref z0, .ref z0], M9)) rfl rfl rfl ?_
  refine ps_st (S' := (9, [(0, .ref o)], [.ref o, .ref (z0 + 1), .ref (z0 + 1), .ref z0, .ref z0], M9)) rfl rfl rfl ?_
  refine ps_get (S' := (12, [(0, .ref o)], [.ref da, .ref (z0 + 1), .ref (z0 + 1), .ref z0, .ref z0], M9)) rfl h13 rfl rfl ?_
  refine pl_call (a := [.ref (z0 + 1), .ref da]) (rest := [.ref (z0 + 1), .ref z0, .ref z0]) rfl rfl rfl (dk_bytes0 (o1 := (z0 + 1)) (da := da) h10) (fun v18 M19 q20 => ?_)
  obtain ⟨rfl, h21, f22⟩ := q20
  have h24 := (f22.1 o (nin1 (show o ≠ (z0 + 1) by omega))).trans h13
  have h25 := (f22.1 da (nin1 (show da ≠ (z0 + 1) by omega))).trans h14
  have h26 := (f22.1 z0 (nin1 (show z0 ≠ (z0 + 1) by omega))).trans h15
  have tp28 : M19.2.1 = z0 + 2 := by rw [f22.2]; exact tp12
  have hV29 := hV16.keep f22.gm (n7c h10 (by decide) (n7nil))
  show pl _ _ _ (15, [(0, .ref o)], [.ref (z0 + 1), .ref z0, .ref z0], M19) _
  clear h13 h14 h15 h10 hV16 f22
  refine pl_call (a := [.ref z0, .ref (z0 + 1)]) (rest := [.ref z0]) rfl rfl rfl (dk_classFile0 (o3 := z0) (b := (z0 + 1)) h26 (by omega)) (fun v30 M31 q32 => ?_)
  obtain ⟨u133, u634, u735, rfl, h36, f37, tp38⟩ := q32
  have h39 := (f37.1 o (by omega) (nin1 (show o ≠ z0 by omega))).trans h24
  have h40 := (f37.1 da (by omega) (nin1 (show da ≠ z0 by omega))).trans h25
  have h41 := (f37.1 (z0 + 1) (by omega) (nin1 (show (z0 + 1) ≠ z0 by omega))).trans h21
  obtain ⟨t43, tp44⟩ : ∃ t9, M31.2.1 = t9 := ⟨_, rfl⟩
  rw [tp28, tp44] at tp38
  have hV45 := hV29.keep f37 (n7c h26 (by decide) (n7nil))
  show pl _ _ _ (18, [(0, .ref o)], [.ref z0], M31) _
  clear h24 h25 h26 h21 hV29 f37
  refine ps_st (S' := (19, [(1, .ref z0), (0, .ref o)], [], M31)) rfl rfl rfl ?_
  refine ps_newz rfl tp44 (fun M46 h47 f48 tp49 => ?_)
  have h50 := (f48 o (show o ≠ t43 by omega)).trans h39
  have h51 := (f48 da (show da ≠ t43 by omega)).trans h40
  have h52 := (f48 z0 (show z0 ≠ t43 by omega)).trans h36
  have h53 := (f48 (z0 + 1) (show (z0 + 1) ≠ t43 by omega)).trans h41
  have hV54 := hV45.new tp44 f48 tp49
  clear h39 h40 h36 h41 hV45 f48
  show pl _ _ _ (22, [(1, .ref z0), (0, .ref o)], [.ref t43], M46) _
  refine ps_st (S' := (23, [(1, .ref z0), (0, .ref o)], [.ref t43, .ref t43], M46)) rfl rfl rfl ?_
  refine pl_call (a := [.ref t43]) (rest := [.ref t43]) rfl rfl rfl (dk_verdict0 (o10 := t43) h47) (fun v56 M57 q58 => ?_)
  obtain ⟨rfl, h59, f60⟩ := q58
  have h62 := (f60.1 o (nin1 (show o ≠ t43 by omega))).trans h50
  have h63 := (f60.1 da (nin1 (show da ≠ t43 by omega))).trans h51
  have h64 := (f60.1 z0 (nin1 (show z0 ≠ t43 by omega))).trans h52
  have h65 := (f60.1 (z0 + 1) (nin1 (show (z0 + 1) ≠ t43 by omega))).trans h53
  have tp67 : M57.2.1 = t43 + 1 := by rw [f60.2]; exact tp49
  have hV68 := hV54.keep f60.gm (n7c h47 (by decide) (n7nil))
  show pl _ _ _ (26, [(1, .ref z0), (0, .ref o)], [.ref t43], M57) _
  clear h50 h51 h52 h53 h47 hV54 f60
  refine ps_st (S' := (27, [(2, .ref t43), (1, .ref z0), (0, .ref o)], [], M57)) rfl rfl rfl ?_
  refine ps_st (S' := (28, [(2, .ref t43), (1, .ref z0), (0, .ref o)], [.ref o], M57)) rfl rfl rfl ?_
  refine ps_st (S' := (31, [(2, .ref t43), (1, .ref z0), (0, .ref o)], [.ref g.1, .ref o], M57)) rfl rfl rfl ?_
  refine ps_put (l' := [.ref ca, .int cn, .ref g.1, kv, .int wp]) rfl h62 rfl rfl (fun M69 h70 f71 z72 => ?_)
  have h73 := (f71 da (Ne.symm (ob_ar h62 h63))).trans h63
  have h74 := (f71 z0 (show z0 ≠ o by omega)).trans h64
  have h75 := (f71 (z0 + 1) (show (z0 + 1) ≠ o by omega)).trans h65
  have h76 := (f71 t43 (show t43 ≠ o by omega)).trans h59
  have hV77 := hV68.put h62 (by decide) f71 z72
  have tp79 : M69.2.1 = t43 + 1 := by rw [z72]; exact tp67
  clear h62 h63 h64 h65 h59 hV68 f71
  show pl _ _ _ (34, [(2, .ref t43), (1, .ref z0), (0, .ref o)], [], M69) _
  refine ps_st (S' := (35, [(2, .ref t43), (1, .ref z0), (0, .ref o)], [.ref z0], M69)) rfl rfl rfl ?_
  refine ps_st (S' := (36, [(2, .ref t43), (1, .ref z0), (0, .ref o)], [.ref t43, .ref z0], M69)) rfl rfl rfl ?_
  refine pl_call (a := [.ref z0, .ref t43]) (rest := []) rfl rfl rfl (dk_isWhole (f := f) (n := n) (c := z0) (b := (z0 + 1)) (da := da) (vd := t43) (ru := 0) (wa := (-1)) (mi := 0) (ma := 0) (fa := 0) (ic := 0) (ac := 0) (aa := 0) (k1 := 0) (k2 := 0) (k3 := 0) (k4 := 0) (k5 := 0) (k6 := 0) (k7 := (-1)) (u1 := u133) (u6 := u634) (u7 := u735) (og := o) (ga := ca) (gf := g.1) (gn := cn) (gw := wp) (gk := kv) h74 h75 h73 h76 h70 (hn) (by omega) (by omega) (by omega) (by omega) (by omega) (hV77)) (fun v80 M81 q82 => ?_)
  rcases q82 with q82 | q82
  · skip
    obtain ⟨E83, q84, p185, pF86, pM87, pA88, m189, m290, G191, G292, q36_s, q36_b, q36_c, q36_f, q36_m, q36_a, q36_V, q36_M1, q36_M2, q36_D, rfl, h93, h94, h95, h96, h97, tp99⟩ := q82
    obtain ⟨t100, tp101⟩ : ∃ t9, M81.2.1 = t9 := ⟨_, rfl⟩
    rw [tp79, tp101] at tp99
    show pl _ _ _ (39, [(2, .ref t43), (1, .ref z0), (0, .ref o)], [.int 1], M81) _
    refine ps_if (S1 := (55, [(0, .ref o), (2, .ref t43)], [], M81)) (S2 := (42, [(2, .ref t43), (1, .ref z0), (0, .ref o)], [], M81)) rfl rfl rfl (fun c_39 => ?_) (fun c_39 => ?_)
    · exact absurd (of_decide_eq_true c_39) (by decide)
    refine ps_st (S' := (43, [(2, .ref t43), (1, .ref z0), (0, .ref o)], [.ref z0], M81)) rfl rfl rfl ?_
    refine ps_st (S' := (44, [(2, .ref t43), (1, .ref z0), (0, .ref o)], [.ref t43, .ref z0], M81)) rfl rfl rfl ?_
    have hb1 := mbs_of q36_f
    have hb2 := mbs_of q36_m
    have hc9 := s_class_in q36_c
    obtain ⟨ha8, ha9⟩ := s_atts_of q36_a
    have hu1 := by2_lt f pF86
    have hu2 := by2_lt f pM87
    refine pl_call (a := [.ref z0, .ref t43]) (rest := []) rfl rfl rfl (dk_holds2 (f := f) (n := n) (N := (by2 f 8)) (q := q84) (E := E83) (c := z0) (b := (z0 + 1)) (da := da) (vd := t43) (fr := m189) (mr := m290) (fa := p185) (ic := (by2 f (p185 + 6))) (mj := (by2 f 6)) (na := (by2 f pA88)) (pa := (pA88 + 2)) (e0 := n) (mi := (nI (by2 f 4))) (ru := 0) (wa := (-1)) (k1 := 0) (B1 := (mbs f n (by2 f pF86) (pF86 + 2))) (B2 := (mbs f n (by2 f pM87) (pM87 + 2))) (G1 := G191) (G2 := G292) (og := o) (ga := ca) (gf := g.1) (gn := cn) (gw := wp) (gk := kv) h93 h94 h95 h96 h97 (hn) (by2_lt _ _) (by omega) (by omega) (by2_lt _ _) (⟨by2_lt _ _, by omega⟩) (ha9) (by omega) (by omega) (hb1.2) (hb2.2) (q36_D) (by omega) (by omega) (by omega) (by omega) (by omega) (by omega) (q36_V) (q36_M1) (q36_M2)) (fun v102 M103 q104 => ?_)
    rcases q104 with q104 | q104
    · skip
      obtain ⟨bc105, K106, q44_s, q44_B, q44_U, q44_V, q44_M1, q44_M2, q44_D1, q44_D2, rfl, h107, h108, h109, h110, h111, tp113⟩ := q104
      obtain ⟨t114, tp115⟩ : ∃ t9, M103.2.1 = t9 := ⟨_, rfl⟩
      rw [tp101, tp115] at tp113
      show pl _ _ _ (47, [(2, .ref t43), (1, .ref z0), (0, .ref o)], [.int 1], M103) _
      refine ps_if (S1 := (55, [(0, .ref o), (2, .ref t43)], [], M103)) (S2 := (50, [(2, .ref t43), (1, .ref z0), (0, .ref o)], [], M103)) rfl rfl rfl (fun c_47 => ?_) (fun c_47 => ?_)
      · exact absurd (of_decide_eq_true c_47) (by decide)
      refine ps_st (S' := (51, [(2, .ref t43), (1, .ref z0), (0, .ref o)], [.ref o], M103)) rfl rfl rfl ?_
      refine ps_st (S' := (52, [(2, .ref t43), (1, .ref z0), (0, .ref o)], [.ref z0, .ref o], M103)) rfl rfl rfl ?_
      refine ps_put (l' := [.ref ca, .int cn, .ref g.1, .ref z0, .int wp]) rfl h108 rfl rfl (fun M116 h117 f118 z119 => ?_)
      have h120 := (f118 t43 (show t43 ≠ o by omega)).trans h107
      have h121 := (f118 z0 (show z0 ≠ o by omega)).trans h109
      have h122 := (f118 (z0 + 1) (show (z0 + 1) ≠ o by omega)).trans h110
      have h123 := (f118 da (Ne.symm (ob_ar h108 h111))).trans h111
      have hV124 := q44_V.put h108 (by decide) f118 z119
      have hV125 := q44_M1.put h108 (by decide) f118 z119
      have hV126 := q44_M2.put h108 (by decide) f118 z119
      have hV127 := q44_D1.put h108 (by decide) f118 z119
      have hV128 := q44_D2.put h108 (by decide) f118 z119
      have tp130 : M116.2.1 = t114 := by rw [z119]; exact tp115
      clear h107 h108 h109 h110 h111 q44_V q44_M1 q44_M2 q44_D1 q44_D2 f118
      show pl _ _ _ (55, [(0, .ref o), (2, .ref t43)], [], M116) _
      refine ps_st (S' := (56, [(0, .ref o), (2, .ref t43)], [.ref o], M116)) rfl rfl rfl ?_
      refine ps_st (S' := (57, [(0, .ref o), (2, .ref t43)], [.ref t43, .ref o], M116)) rfl rfl rfl ?_
      refine ps_get (S' := (60, [(0, .ref o), (2, .ref t43)], [.int (-1), .ref o], M116)) rfl h120 rfl rfl ?_
      refine ps_put (l' := [.ref ca, .int cn, .ref g.1, .ref z0, .int (-1)]) rfl h117 rfl rfl (fun M131 h132 f133 z134 => ?_)
      have h135 := (f133 t43 (show t43 ≠ o by omega)).trans h120
      have h136 := (f133 z0 (show z0 ≠ o by omega)).trans h121
      have h137 := (f133 (z0 + 1) (show (z0 + 1) ≠ o by omega)).trans h122
      have h138 := (f133 da (Ne.symm (ob_ar h117 h123))).trans h123
      have hV139 := hV124.put h117 (by decide) f133 z134
      have hV140 := hV125.put h117 (by decide) f133 z134
      have hV141 := hV126.put h117 (by decide) f133 z134
      have hV142 := hV127.put h117 (by decide) f133 z134
      have hV143 := hV128.put h117 (by decide) f133 z134
      have tp145 : M131.2.1 = t114 := by rw [z134]; exact tp130
      clear h120 h117 h121 h122 h123 hV124 hV125 hV126 hV127 hV128 f133
      show pl _ _ _ (63, [(0, .ref o), (2, .ref t43)], [], M131) _
      refine ps_st (S' := (64, [(0, .ref o), (2, .ref t43)], [.ref t43], M131)) rfl rfl rfl ?_
      refine ps_get (S' := (67, [(0, .ref o), (2, .ref t43)], [.int 0], M131)) rfl h135 rfl rfl ?_
      have hrd : s_read f n = none := s_read_2 q36_s q44_s
      exact ps_ret rfl rfl (Or.inl ⟨z0, hrd, ⟨z0 + 1, q84, by2 f 8, E83, p185, pF86, pM87, pA88, _, h136, h137, h138, hV139, q36_s, rfl, ⟨by omega, by omega, by omega⟩, hn, ⟨m189, m290, G191, G292, _, _, _, _, rfl, hV140, hV141, q36_c, q36_f, q36_m, q36_a, q44_B, q44_U, hV142, hV143.k⟩⟩, by omega, rfl, h132, by omega⟩)
    · skip
      obtain ⟨e9146, q44_s, rfl, h147, h148, tp150⟩ := q104
      obtain ⟨t151, tp152⟩ : ∃ t9, M103.2.1 = t9 := ⟨_, rfl⟩
      rw [tp101, tp152] at tp150
      show pl _ _ _ (47, [(2, .ref t43), (1, .ref z0), (0, .ref o)], [.int 0], M103) _
      refine ps_if (S1 := (55, [(0, .ref o), (2, .ref t43)], [], M103)) (S2 := (50, [(2, .ref t43), (1, .ref z0), (0, .ref o)], [], M103)) rfl rfl rfl (fun c_47 => ?_) (fun c_47 => ?_)
      rotate_left
      · exact absurd (by decide) (of_decide_eq_false c_47)
      refine ps_st (S' := (56, [(0, .ref o), (2, .ref t43)], [.ref o], M103)) rfl rfl rfl ?_
      refine ps_st (S' := (57, [(0, .ref o), (2, .ref t43)], [.ref t43, .ref o], M103)) rfl rfl rfl ?_
      refine ps_get (S' := (60, [(0, .ref o), (2, .ref t43)], [.int (nI e9146.2), .ref o], M103)) rfl h147 rfl rfl ?_
      refine ps_put (l' := [.ref ca, .int cn, .ref g.1, kv, .int (nI e9146.2)]) rfl h148 rfl rfl (fun M153 h154 f155 z156 => ?_)
      have h157 := (f155 t43 (show t43 ≠ o by omega)).trans h147
      have tp159 : M153.2.1 = t151 := by rw [z156]; exact tp152
      clear h147 h148 f155
      show pl _ _ _ (63, [(0, .ref o), (2, .ref t43)], [], M153) _
      refine ps_st (S' := (64, [(0, .ref o), (2, .ref t43)], [.ref t43], M153)) rfl rfl rfl ?_
      refine ps_get (S' := (67, [(0, .ref o), (2, .ref t43)], [.int (nI e9146.1)], M153)) rfl h157 rfl rfl ?_
      exact ps_reti rfl (Or.inr ⟨e9146, s_read_2 q36_s q44_s, rfl, h154, by omega⟩)
  · skip
    obtain ⟨e9160, q36_s, rfl, h161, h162, tp164⟩ := q82
    obtain ⟨t165, tp166⟩ : ∃ t9, M81.2.1 = t9 := ⟨_, rfl⟩
    rw [tp79, tp166] at tp164
    show pl _ _ _ (39, [(2, .ref t43), (1, .ref z0), (0, .ref o)], [.int 0], M81) _
    refine ps_if (S1 := (55, [(0, .ref o), (2, .ref t43)], [], M81)) (S2 := (42, [(2, .ref t43), (1, .ref z0), (0, .ref o)], [], M81)) rfl rfl rfl (fun c_39 => ?_) (fun c_39 => ?_)
    rotate_left
    · exact absurd (by decide) (of_decide_eq_false c_39)
    refine ps_st (S' := (56, [(0, .ref o), (2, .ref t43)], [.ref o], M81)) rfl rfl rfl ?_
    refine ps_st (S' := (57, [(0, .ref o), (2, .ref t43)], [.ref t43, .ref o], M81)) rfl rfl rfl ?_
    refine ps_get (S' := (60, [(0, .ref o), (2, .ref t43)], [.int (nI e9160.2), .ref o], M81)) rfl h161 rfl rfl ?_
    refine ps_put (l' := [.ref ca, .int cn, .ref g.1, kv, .int (nI e9160.2)]) rfl h162 rfl rfl (fun M167 h168 f169 z170 => ?_)
    have h171 := (f169 t43 (show t43 ≠ o by omega)).trans h161
    have tp173 : M167.2.1 = t165 := by rw [z170]; exact tp166
    clear h161 h162 f169
    show pl _ _ _ (63, [(0, .ref o), (2, .ref t43)], [], M167) _
    refine ps_st (S' := (64, [(0, .ref o), (2, .ref t43)], [.ref t43], M167)) rfl rfl rfl ?_
    refine ps_get (S' := (67, [(0, .ref o), (2, .ref t43)], [.int (nI e9160.1)], M167)) rfl h171 rfl rfl ?_
    exact ps_reti rfl (Or.inr ⟨e9160, s_read_1 q36_s, rfl, h168, by omega⟩)
end
section
/-! what the reference keeps (my own text) -/
section XKA
variable {f : Nat → Int32} {n : Nat} {I I' : rI} {R R' : rR}
/-- its members: how many, their names and descriptors -/
def XKM (f : Nat → Int32) (n : Nat) (tx : List (List Nat)) (E : List (Nat × Nat)) (p1 pF pM pA : Nat) (I : rI) (R : rR) : Prop := I 25 = some (nI (mbs f n (by2 f pF) (pF + 2)).length) ∧ I 26 = some (nI (mbs f n (by2 f pM) (pM + 2)).length) ∧ FN 28 29 f n E tx (mbs f n (by2 f pF) (pF + 2)) 0 (mbs f n (by2 f pF) (pF + 2)).length I R ∧ FN 35 36 f n E tx (mbs f n (by2 f pM) (pM + 2)) 0 (mbs f n (by2 f pM) (pM + 2)).length I R ∧ s_mbs f n pF = .inr pM ∧ s_mbs f n pM = .inr pA ∧ s_class f n p1 = .inr pF ∧ s_attributes f n pA = .inr n ∧ (I 54 = some (nI p1) ∧ I 58 = some (nI (by2 f p1)) ∧ I 61 = some (nI (by2 f (p1 + 6))) ∧ FQ f n E (mbs f n (by2 f pF) (pF + 2)) 0 (mbs f n (by2 f pF) (pF + 2)).length I R ∧ MQX f n E (mbs f n (by2 f pM) (pM + 2)) 0 (mbs f n (by2 f pM) (pM + 2)).length I R) ∧ ∃ (bc : Nat) (K : KT), clS f n E (by2 f p1) (by2 f 6) (by2 f pA) (pA + 2) 0 0 = .inr bc ∧ clU f n E (by2 f 6) (by2 f pA) (pA + 2) (0, 0, 0, 0, 0, -1) = K ∧ I 71 = some (nI bc) ∧ I 66 = some (nI K.1) ∧ I 65 = some (nI K.2.2.1) ∧ I 68 = some (nI K.2.2.2.1) ∧ I 69 = some (nI K.2.2.2.2.1) ∧ I 70 = some (b7 K) ∧ I 72 = some K.2.2.2.2.2
theorem XKM.mono {tx : List (List Nat)} {E : List (Nat × Nat)} {p1 pF pM pA : Nat} (h : XKM f n tx E p1 pF pM pA I R) (hI : ∀ k, k ∈ [3, 8, 16, 49, 51, 52, 53, 25, 26, 54, 58, 61, 65, 66, 68, 69, 70, 71, 72] → I' k = I k) (hR : ∀ k, k ∈ [1, 4, 5, 6, 7, 12, 21, 22, 28, 29, 35, 36, 27, 30, 31, 32, 33, 34, 37, 38, 39, 40, 41, 42, 43, 44, 45, 46] → R' k = R k) : XKM f n tx E p1 pF pM pA I' R' := by
  obtain ⟨h1, h2, h3, h4, h5, h6, h7, h8, ⟨a1, a2, a3, a4, a5⟩, bc, K, h9, h10, g1, g2, g3, g4, g5, g6, g7⟩ := h
  exact ⟨(hI 25 (by decide)).trans h1, (hI 26 (by decide)).trans h2, h3.mono (fun k hk => by cases hk) (fun k hk => hR k (by revert k; decide)), h4.mono (fun k hk => by cases hk) (fun k hk => hR k (by revert k; decide)), h5, h6, h7, h8, ⟨(hI 54 (by decide)).trans a1, (hI 58 (by decide)).trans a2, (hI 61 (by decide)).trans a3, a4.mono (fun k hk => by cases hk) (fun k hk => hR k (by revert k; decide)), a5.mono (fun k hk => by cases hk) (fun k hk => hR k (by revert k; decide))⟩, bc, K, h9, h10, (hI 71 (by decide)).trans g1, (hI 66 (by decide)).trans g2, (hI 65 (by decide)).trans g3, (hI 68 (by decide)).trans g4, (hI 69 (by decide)).trans g5, (hI 70 (by decide)).trans g6, (hI 72 (by decide)).trans g7⟩
/-- a file that is kept, as it was parsed -/
def XKV (f : Nat → Int32) (n : Nat) (I : rI) (R : rR) : Prop := ∃ (tx : List (List Nat)) (cN : Nat) (A : Nat → Nat) (E : List (Nat × Nat)) (N mj p1 pF pM pA : Nat), FK n f I R ∧ SYT tx cN A I R ∧ RPV f n E tx N I R ∧ I 51 = some 0 ∧ I 52 = some (nI N) ∧ I 53 = some (nI mj) ∧ s_whole f n = .inr (E, p1, pF, pM, pA) ∧ N = by2 f 8 ∧ mj = by2 f 6 ∧ XKM f n tx E p1 pF pM pA I R
theorem XKV.mono (h : XKV f n I R) (hI : ∀ k, k ∈ [3, 8, 16, 49, 51, 52, 53, 25, 26, 54, 58, 61, 65, 66, 68, 69, 70, 71, 72] → I' k = I k) (hR : ∀ k, k ∈ [1, 4, 5, 6, 7, 12, 21, 22, 28, 29, 35, 36, 27, 30, 31, 32, 33, 34, 37, 38, 39, 40, 41, 42, 43, 44, 45, 46] → R' k = R k) : XKV f n I' R' := by
  obtain ⟨tx, cN, A, E, N, mj, p1, pF, pM, pA, h1, h2, h3, h4, h5, h6, h7, h8, h9, h10⟩ := h
  refine ⟨tx, cN, A, E, N, mj, p1, pF, pM, pA, h1.mono (fun k hk => hI k (by revert k; decide)) (fun k hk => hR k (by revert k; decide)), h2.mono (fun k hk => hI k (by revert k; decide)) (fun k hk => hR k (by revert k; decide)), h3.mono (fun k hk => by cases hk) (fun k hk => hR k (by revert k; decide)), (hI 51 (by decide)).trans h4, (hI 52 (by decide)).trans h5, (hI 53 (by decide)).trans h6, h7, h8, h9, h10.mono hI hR⟩
/-- what is kept, if anything is -/
def KPR (ko : Option (Nat × (Nat → Int32))) (I : rI) (R : rR) : Prop := match ko with
  | none => ∃ kn : Int32, I 18 = some kn ∧ kn < 0
  | some p => I 18 = some (nI p.1) ∧ p.1 ≤ 65540 ∧ BX 14 p.1 p.2 I R ∧ s_read p.2 p.1 = none ∧ XKV p.2 p.1 I R
theorem KPR.mono {ko : Option (Nat × (Nat → Int32))} (h : KPR ko I R) (hI : ∀ k, k ∈ [18, 3, 8, 16, 49, 51, 52, 53, 25, 26, 54, 58, 61, 65, 66, 68, 69, 70, 71, 72] → I' k = I k) (hR : ∀ k, k ∈ [14, 1, 4, 5, 6, 7, 12, 21, 22, 28, 29, 35, 36, 27, 30, 31, 32, 33, 34, 37, 38, 39, 40, 41, 42, 43, 44, 45, 46] → R' k = R k) : KPR ko I' R' := by
  cases ko with
  | none =>
    obtain ⟨kn, h1, h2⟩ := h
    exact ⟨kn, (hI 18 (by decide)).trans h1, h2⟩
  | some p =>
    obtain ⟨h1, h2, h3, h4, h5⟩ := h
    exact ⟨(hI 18 (by decide)).trans h1, h2, h3.mono (fun k hk => by cases hk) (fun k hk => hR k (by revert k; decide)), h4, h5.mono (fun k hk => hI k (by revert k; decide)) (fun k hk => hR k (by revert k; decide))⟩
end XKA
set_option maxHeartbeats 4000000 in
theorem rd_checkFile2 {g : xe_G} {m0 : Nat} {q : Nat → Nat} {z : Nat × Nat} {I : rI} {R : rR} {M : mi_H} {n : Nat} {f : Nat → Int32} {tx : List (List Nat)} {cN : Nat} {A : Nat → Nat} {s1 s2 s3 : Nat} (hR : RS g m0 q z I R M) (hi20 : I 20 = some 0) (hi25 : I 25 = some 0) (hi26 : I 26 = some 0) (hi9 : I 9 = some (nI s1)) (hi10 : I 10 = some (nI s2)) (hi11 : I 11 = some (nI s3)) (hF : FK n f I R) (hY : SYT tx cN A I R) (hK : KX I R) (hs1 : s1 < tx.length ∧ tx.getD s1 [] = ltx 25) (hs2 : s2 < tx.length ∧ tx.getD s2 [] = ltx 26) (hs3 : s3 < tx.length ∧ tx.getD s3 [] = ltx 27) : pt (mT g) 190 [.ref m0] M (fun v M' => (∃  (I' : rI) (R' : rR), (s_read f n = none) ∧ v = some (.int 1) ∧ RS g m0 q z I' R' M' ∧ eqI [3, 8, 20, 25, 26, 47, 48, 50, 51, 52, 53, 54, 55, 56, 57, 58, 59, 60, 61, 65, 66, 67, 68, 69, 70, 71, 72] I I' ∧ eqR [1, 2, 4, 5, 6, 7, 21, 22, 27, 28, 29, 30, 31, 32, 33, 34, 35, 36, 37, 38, 39, 40, 41, 42, 43, 44, 45, 46] R R' ∧ XKV f n I' R') ∨ (∃ (e9 : Nat × Nat) (I' : rI) (R' : rR), (s_read f n = some e9) ∧ v = some (.int 0) ∧ RS g m0 q z I' R' M' ∧ eqI [3, 8, 20, 25, 26, 47, 48, 50, 51, 52, 53, 54, 55, 56, 57, 58, 59, 60, 61, 65, 66, 67, 68, 69, 70, 71, 72] I I' ∧ eqR [1, 2, 4, 5, 6, 7, 21, 22, 27, 28, 29, 30, 31, 32, 33, 34, 35, 36, 37, 38, 39, 40, 41, 42, 43, 44, 45, 46] R R' ∧ I' 47 = some (nI e9.1) ∧ I' 48 = some (nI e9.2))) := by
  refine pt_in (b := mb_190 g) rfl (fun kf => ?_)
  show pl (mT g) kf (mb_190 g).2 (0, [(0, .ref m0)], [], M) _
  have hEI : eqI [3, 8, 20, 25, 26, 47, 48, 50, 51, 52, 53, 54, 55, 56, 57, 58, 59, 60, 61, 65, 66, 67, 68, 69, 70, 71, 72] I I := eqI.rf
  have hER : eqR [1, 2, 4, 5, 6, 7, 21, 22, 27, 28, 29, 30, 31, 32, 33, 34, 35, 36, 37, 38, 39, 40, 41, 42, 43, 44, 45, 46] R R := eqR.rf
  have hn := hF.1
  have LL : ∀ (kf : Nat), (∀ (N mj p1 pF pM pA : Nat) (E : List (Nat × Nat)) (tx : List (List Nat)) (cN : Nat) (A : Nat → Nat) (M1 : mi_H) (I1 : rI) (R1 : rR), (RS g m0 q z I1 R1 M1) → (eqI [3, 8, 20, 25, 26, 47, 48, 50, 51, 52, 53, 54, 55, 56, 57, 58, 59, 60, 61, 65, 66, 67, 68, 69, 70, 71, 72] I I1) → (eqR [1, 2, 4, 5, 6, 7, 21, 22, 27, 28, 29, 30, 31, 32, 33, 34, 35, 36, 37, 38, 39, 40, 41, 42, 43, 44, 45, 46] R R1) → (I1 51 = some 0) → (I1 52 = some (nI N)) → (I1 53 = some (nI mj)) → (I1 54 = some (nI p1)) → (I1 55 = some (nI pF)) → (I1 56 = some (nI pM)) → (I1 57 = some (nI pA)) → (I1 25 = some (nI 0)) → (I1 26 = some (nI 0)) → (I1 71 = some (nI 0)) → (I1 66 = some 0) → (I1 65 = some (nI 0)) → (I1 68 = some (nI 0)) → (I1 69 = some (nI 0)) → (I1 70 = some (-1)) → (I1 72 = some (-1)) → (I1 9 = some (nI s1)) → (I1 10 = some (nI s2)) → (I1 11 = some (nI s3)) → (FK n f I1 R1) → (SYT tx cN A I1 R1) → (RPV f n E tx N I1 R1) → (KX I1 R1) → (N = by2 f 8) → (mj = by2 f 6) → (s_whole f n = .inr (E, p1, pF, pM, pA)) → (s1 < tx.length ∧ tx.getD s1 [] = ltx 25) → (s2 < tx.length ∧ tx.getD s2 [] = ltx 26) → (s3 < tx.length ∧ tx.getD s3 [] = ltx 27) → (s_class f n p1 = .inr pF) → (s_mbs f n pF = .inr pM) → (s_mbs f n pM = .inr pA) → (s_attributes f n pA = .inr n) →  pl (mT g) kf (mb_190 g).2 (47, [(0, .ref m0)], [], M1) (fun v M' => (∃  (I' : rI) (R' : rR), (s_read f n = none) ∧ v = some (.int 1) ∧ RS g m0 q z I' R' M' ∧ eqI [3, 8, 20, 25, 26, 47, 48, 50, 51, 52, 53, 54, 55, 56, 57, 58, 59, 60, 61, 65, 66, 67, 68, 69, 70, 71, 72] I I' ∧ eqR [1, 2, 4, 5, 6, 7, 21, 22, 27, 28, 29, 30, 31, 32, 33, 34, 35, 36, 37, 38, 39, 40, 41, 42, 43, 44, 45, 46] R R' ∧ XKV f n I' R') ∨ (∃ (e9 : Nat × Nat) (I' : rI) (R' : rR), (s_read f n = some e9) ∧ v = some (.int 0) ∧ RS g m0 q z I' R' M' ∧ eqI [3, 8, 20, 25, 26, 47, 48, 50, 51, 52, 53, 54, 55, 56, 57, 58, 59, 60, 61, 65, 66, 67, 68, 69, 70, 71, 72] I I' ∧ eqR [1, 2, 4, 5, 6, 7, 21, 22, 27, 28, 29, 30, 31, 32, 33, 34, 35, 36, 37, 38, 39, 40, 41, 42, 43, 44, 45, 46] R R' ∧ I' 47 = some (nI e9.1) ∧ I' 48 = some (nI e9.2)))) ∧ (∀ (N mj bc k p1 pF pM pA : Nat) (K : KT) (E : List (Nat × Nat)) (tx : List (List Nat)) (cN : Nat) (A : Nat → Nat) (M1 : mi_H) (I1 : rI) (R1 : rR), (RS g m0 q z I1 R1 M1) → (eqI [3, 8, 20, 25, 26, 47, 48, 50, 51, 52, 53, 54, 55, 56, 57, 58, 59, 60, 61, 65, 66, 67, 68, 69, 70, 71, 72] I I1) → (eqR [1, 2, 4, 5, 6, 7, 21, 22, 27, 28, 29, 30, 31, 32, 33, 34, 35, 36, 37, 38, 39, 40, 41, 42, 43, 44, 45, 46] R R1) → (I1 51 = some 0) → (I1 52 = some (nI N)) → (I1 53 = some (nI mj)) → (I1 71 = some (nI bc)) → (I1 25 = some (nI (0 + (mbs f n (by2 f pF) (pF + 2)).length))) → (I1 26 = some (nI (0 + (mbs f n (by2 f pM) (pM + 2)).length))) → (I1 54 = some (nI p1)) → (I1 58 = some (nI (by2 f p1))) → (I1 61 = some (nI (by2 f (p1 + 6)))) → (I1 66 = some (nI K.1)) → (I1 65 = some (nI K.2.2.1)) → (I1 68 = some (nI K.2.2.2.1)) → (I1 69 = some (nI K.2.2.2.2.1)) → (I1 70 = some (b7 K)) → (I1 72 = some K.2.2.2.2.2) → (FK n f I1 R1) → (SYT tx cN A I1 R1) → (RPV f n E tx N I1 R1) → (FN 28 29 f n E tx (mbs f n (by2 f pF) (pF + 2)) 0 (mbs f n (by2 f pF) (pF + 2)).length I1 R1) → (FN 35 36 f n E tx (mbs f n (by2 f pM) (pM + 2)) 0 (mbs f n (by2 f pM) (pM + 2)).length I1 R1) → (FQ f n E (mbs f n (by2 f pF) (pF + 2)) 0 (mbs f n (by2 f pF) (pF + 2)).length I1 R1) → (MQX f n E (mbs f n (by2 f pM) (pM + 2)) 0 (mbs f n (by2 f pM) (pM + 2)).length I1 R1) → (EP f n E) → (N < 65536) → (mj < 65536) → (bc < 65536) → (1 ≤ k ∧ k ≤ N) → (s_read f n = chkB f E bc (N - 1) 1) → (chkB f E bc (N - k) k = chkB f E bc (N - 1) 1) → (N = by2 f 8) → (mj = by2 f 6) → (s_whole f n = .inr (E, p1, pF, pM, pA)) → (s_class f n p1 = .inr pF) → (s_mbs f n pF = .inr pM) → (s_mbs f n pM = .inr pA) → (s_attributes f n pA = .inr n) → (clS f n E (by2 f p1) mj (by2 f pA) (pA + 2) 0 0 = .inr bc) → (clU f n E mj (by2 f pA) (pA + 2) (0, 0, 0, 0, 0, -1) = K) →  pl (mT g) kf (mb_190 g).2 (94, [(0, .ref m0), (1, .int (nI k))], [], M1) (fun v M' => (∃  (I' : rI) (R' : rR), (s_read f n = none) ∧ v = some (.int 1) ∧ RS g m0 q z I' R' M' ∧ eqI [3, 8, 20, 25, 26, 47, 48, 50, 51, 52, 53, 54, 55, 56, 57, 58, 59, 60, 61, 65, 66, 67, 68, 69, 70, 71, 72] I I' ∧ eqR [1, 2, 4, 5, 6, 7, 21, 22, 27, 28, 29, 30, 31, 32, 33, 34, 35, 36, 37, 38, 39, 40, 41, 42, 43, 44, 45, 46] R R' ∧ XKV f n I' R') ∨ (∃ (e9 : Nat × Nat) (I' : rI) (R' : rR), (s_read f n = some e9) ∧ v = some (.int 0) ∧ RS g m0 q z I' R' M' ∧ eqI [3, 8, 20, 25, 26, 47, 48, 50, 51, 52, 53, 54, 55, 56, 57, 58, 59, 60, 61, 65, 66, 67, 68, 69, 70, 71, 72] I I' ∧ eqR [1, 2, 4, 5, 6, 7, 21, 22, 27, 28, 29, 30, 31, 32, 33, 34, 35, 36, 37, 38, 39, 40, 41, 42, 43, 44, 45, 46] R R' ∧ I' 47 = some (nI e9.1) ∧ I' 48 = some (nI e9.2)))) := by
    intro kf
    induction kf with
    | zero => exact ⟨by intros; exact pl_0, by intros; exact pl_0⟩
    | succ kf ih =>
      refine ⟨?_, ?_⟩
      · skip
        intro N mj p1 pF pM pA E tx cN A M1 I1 R1 hR1 hEI1 hER1 hl51 hl52 hl53 hl54 hl55 hl56 hl57 hl25 hl26 hl71 hl66 hl65 hl68 hl69 hl70 hl72 hl9 hl10 hl11 hF1 hY1 hP1 hK1 hN8 hm6 hwh hs1 hs2 hs3 hc hf hm ha
        have hn := hF1.1
        obtain ⟨hEP, hN0⟩ := EP_of (whole_in hwh)
        have hN : N < 65536 := by rw [hN8]; exact by2_lt _ _
        have hmj : mj < 65536 := by rw [hm6]; exact by2_lt _ _
        have hN1 : 1 ≤ N := by omega
        have hin := (s_class_in hc).1
        have hMF := MBS_of hf
        have hMM := MBS_of hm
        have hat := atE_at ha
        have hb1 := by2_lt f pF
        have hb2 := by2_lt f pM
        have hcf := by2_lt f p1
        refine ps_st1 (S' := (48, [(0, .ref m0)], [.ref m0], M1)) rfl rfl rfl ?_
        refine pl_call (a := [.ref m0]) (rest := []) rfl rfl rfl (rd_checkPool (n := n) (f := f) (tx := tx) (cN := cN) (A := A) (N := N) (mj := mj) (E := E) (s1 := s1) hR1 hl51 hl52 hl53 hl9 hF1 hY1 hP1 (hEP) (hN) (hmj) (hs1) (hN1)) (fun v1 M2 q3 => ?_)
        rcases q3 with q3 | q3
        · skip
          obtain ⟨I4, R5, q48_s, rfl, hR6, hI7, hX8⟩ := q3
          have hi12 := (hI7 51 (by decide)).trans hl51
          have hi13 := (hI7 52 (by decide)).trans hl52
          have hi14 := (hI7 53 (by decide)).trans hl53
          have hi15 := (hI7 54 (by decide)).trans hl54
          have hi16 := (hI7 55 (by decide)).trans hl55
          have hi17 := (hI7 56 (by decide)).trans hl56
          have hi18 := (hI7 57 (by decide)).trans hl57
          have hi19 := (hI7 25 (by decide)).trans hl25
          have hi21 := (hI7 26 (by decide)).trans hl26
          have hi22 := (hI7 71 (by decide)).trans hl71
          have hi23 := (hI7 66 (by decide)).trans hl66
          have hi24 := (hI7 65 (by decide)).trans hl65
          have hi27 := (hI7 68 (by decide)).trans hl68
          have hi28 := (hI7 69 (by decide)).trans hl69
          have hi29 := (hI7 70 (by decide)).trans hl70
          have hi30 := (hI7 72 (by decide)).trans hl72
          have hi31 := (hI7 9 (by decide)).trans hl9
          have hi32 := (hI7 10 (by decide)).trans hl10
          have hi33 := (hI7 11 (by decide)).trans hl11
          have hF_34 := hF1.mono (cIx hI7 (by decide)) (cRx hX8 (by decide))
          have hY_35 := hY1.mono (cIx hI7 (by decide)) (cRx hX8 (by decide))
          have hP_36 := hP1.mono (cIx hI7 (by decide)) (cRx hX8 (by decide))
          have hK_37 := hK1.mono (cIx hI7 (by decide)) (cRx hX8 (by decide))
          have hEI38 := hEI1.tr hI7 (by decide)
          have hER39 := hER1.tr hX8 (by decide)
          show pl _ _ _ (51, [(0, .ref m0)], [.int 1], M2) _
          have hCP := CP_of q48_s hP1.1
          refine ps_if (S1 := (75, [], [], M2)) (S2 := (54, [(0, .ref m0)], [], M2)) rfl rfl rfl (fun c_51 => ?_) (fun c_51 => ?_)
          · exact absurd (of_decide_eq_true c_51) (by decide)
          refine ps_st (S' := (55, [(0, .ref m0)], [.ref m0], M2)) rfl rfl rfl ?_
          refine pl_call (a := [.ref m0]) (rest := []) rfl rfl rfl (rd_checkClass (n := n) (f := f) (tx := tx) (cN := cN) (A := A) (N := N) (mj := mj) (E := E) (hA := p1) (s3 := s3) hR6 hi15 hi33 hi12 hi13 hi14 hF_34 hY_35 hP_36 (hEP) (hN) (hmj) (hs3) (hCP) (hin)) (fun v40 M41 q42 => ?_)
          rcases q42 with q42 | q42
          · skip
            obtain ⟨I43, R44, q55_s, rfl, hR45, hI46, hX47, hi48, hi49⟩ := q42
            have hi50 := (hI46 51 (by decide)).trans hi12
            have hi51 := (hI46 52 (by decide)).trans hi13
            have hi52 := (hI46 53 (by decide)).trans hi14
            have hi53 := (hI46 54 (by decide)).trans hi15
            have hi54 := (hI46 55 (by decide)).trans hi16
            have hi55 := (hI46 56 (by decide)).trans hi17
            have hi56 := (hI46 57 (by decide)).trans hi18
            have hi57 := (hI46 25 (by decide)).trans hi19
            have hi58 := (hI46 26 (by decide)).trans hi21
            have hi59 := (hI46 71 (by decide)).trans hi22
            have hi60 := (hI46 66 (by decide)).trans hi23
            have hi61 := (hI46 65 (by decide)).trans hi24
            have hi62 := (hI46 68 (by decide)).trans hi27
            have hi63 := (hI46 69 (by decide)).trans hi28
            have hi64 := (hI46 70 (by decide)).trans hi29
            have hi65 := (hI46 72 (by decide)).trans hi30
            have hi66 := (hI46 9 (by decide)).trans hi31
            have hi67 := (hI46 10 (by decide)).trans hi32
            have hi68 := (hI46 11 (by decide)).trans hi33
            have hF_69 := hF_34.mono (cIx hI46 (by decide)) (cRx hX47 (by decide))
            have hY_70 := hY_35.mono (cIx hI46 (by decide)) (cRx hX47 (by decide))
            have hP_71 := hP_36.mono (cIx hI46 (by decide)) (cRx hX47 (by decide))
            have hK_72 := hK_37.mono (cIx hI46 (by decide)) (cRx hX47 (by decide))
            have hEI73 := hEI38.tr hI46 (by decide)
            have hER74 := hER39.tr hX47 (by decide)
            show pl _ _ _ (58, [(0, .ref m0)], [.int 1], M41) _
            refine ps_if (S1 := (75, [], [], M41)) (S2 := (61, [(0, .ref m0)], [], M41)) rfl rfl rfl (fun c_58 => ?_) (fun c_58 => ?_)
            · exact absurd (of_decide_eq_true c_58) (by decide)
            refine ps_st (S' := (62, [(0, .ref m0)], [.ref m0], M41)) rfl rfl rfl ?_
            refine pl_call (a := [.ref m0]) (rest := []) rfl rfl rfl (rd_checkFields7 (n := n) (f := f) (tx := tx) (cN := cN) (A := A) (N := N) (mj := mj) (E := E) (pF := pF) (f0 := 0) (cf := (by2 f p1)) (B := (mbs f n (by2 f pF) (pF + 2))) (E1 := (fun i => mE f n ((mbs f n (by2 f pF) (pF + 2)).getD i 0))) hR45 hi50 hi51 hi52 hi48 hi54 hi57 hF_69 hY_70 hP_71 hK_72 (hEP) (hN) (hmj) (hMF) (by omega) (hcf)) (fun v75 M76 q77 => ?_)
            rcases q77 with q77 | q77
            · skip
              obtain ⟨I78, R79, q62_s, rfl, hR80, hI81, hX82, hi83, hN9_84, hQ_85⟩ := q77
              have hi86 := (hI81 51 (by decide)).trans hi50
              have hi87 := (hI81 52 (by decide)).trans hi51
              have hi88 := (hI81 53 (by decide)).trans hi52
              have hi89 := (hI81 54 (by decide)).trans hi53
              have hi90 := (hI81 55 (by decide)).trans hi54
              have hi91 := (hI81 56 (by decide)).trans hi55
              have hi92 := (hI81 57 (by decide)).trans hi56
              have hi93 := (hI81 26 (by decide)).trans hi58
              have hi94 := (hI81 71 (by decide)).trans hi59
              have hi95 := (hI81 66 (by decide)).trans hi60
              have hi96 := (hI81 65 (by decide)).trans hi61
              have hi97 := (hI81 68 (by decide)).trans hi62
              have hi98 := (hI81 69 (by decide)).trans hi63
              have hi99 := (hI81 70 (by decide)).trans hi64
              have hi100 := (hI81 72 (by decide)).trans hi65
              have hi101 := (hI81 9 (by decide)).trans hi66
              have hi102 := (hI81 10 (by decide)).trans hi67
              have hi103 := (hI81 11 (by decide)).trans hi68
              have hi104 := (hI81 58 (by decide)).trans hi48
              have hi105 := (hI81 61 (by decide)).trans hi49
              have hF_106 := hF_69.mono (cIx hI81 (by decide)) (cRx hX82 (by decide))
              have hY_107 := hY_70.mono (cIx hI81 (by decide)) (cRx hX82 (by decide))
              have hP_108 := hP_71.mono (cIx hI81 (by decide)) (cRx hX82 (by decide))
              have hK_109 := hK_72.mono (cIx hI81 (by decide)) (cRx hX82 (by decide))
              have hEI110 := hEI73.tr hI81 (by decide)
              have hER111 := hER74.tr hX82 (by decide)
              show pl _ _ _ (65, [(0, .ref m0)], [.int 1], M76) _
              refine ps_if (S1 := (75, [], [], M76)) (S2 := (68, [(0, .ref m0)], [], M76)) rfl rfl rfl (fun c_65 => ?_) (fun c_65 => ?_)
              · exact absurd (of_decide_eq_true c_65) (by decide)
              refine ps_st (S' := (69, [(0, .ref m0)], [.ref m0], M76)) rfl rfl rfl ?_
              refine pl_call (a := [.ref m0]) (rest := []) rfl rfl rfl (rd_checkMethods7 (n := n) (f := f) (tx := tx) (cN := cN) (A := A) (N := N) (mj := mj) (E := E) (pM := pM) (f0 := 0) (cf := (by2 f p1)) (si := s1) (sc := s2) (B := (mbs f n (by2 f pM) (pM + 2))) (E1 := (fun i => mE f n ((mbs f n (by2 f pM) (pM + 2)).getD i 0))) hR80 hi86 hi87 hi88 hi104 hi91 hi93 hi101 hi102 hF_106 hY_107 hP_108 hK_109 (hEP) (hN) (hmj) (hMM) (by omega) (hcf) (⟨hs1.1, hs1.2.trans lt_eq.2.1⟩) (⟨hs2.1, hs2.2.trans lt_eq.2.2.1⟩)) (fun v112 M113 q114 => ?_)
              rcases q114 with q114 | q114
              · skip
                obtain ⟨I115, R116, q69_s, rfl, hR117, hI118, hX119, hi120, hN9_121, hQ_122⟩ := q114
                have hi123 := (hI118 51 (by decide)).trans hi86
                have hi124 := (hI118 52 (by decide)).trans hi87
                have hi125 := (hI118 53 (by decide)).trans hi88
                have hi126 := (hI118 54 (by decide)).trans hi89
                have hi127 := (hI118 55 (by decide)).trans hi90
                have hi128 := (hI118 56 (by decide)).trans hi91
                have hi129 := (hI118 57 (by decide)).trans hi92
                have hi130 := (hI118 71 (by decide)).trans hi94
                have hi131 := (hI118 66 (by decide)).trans hi95
                have hi132 := (hI118 65 (by decide)).trans hi96
                have hi133 := (hI118 68 (by decide)).trans hi97
                have hi134 := (hI118 69 (by decide)).trans hi98
                have hi135 := (hI118 70 (by decide)).trans hi99
                have hi136 := (hI118 72 (by decide)).trans hi100
                have hi137 := (hI118 9 (by decide)).trans hi101
                have hi138 := (hI118 10 (by decide)).trans hi102
                have hi139 := (hI118 11 (by decide)).trans hi103
                have hi140 := (hI118 58 (by decide)).trans hi104
                have hi141 := (hI118 61 (by decide)).trans hi105
                have hi142 := (hI118 25 (by decide)).trans hi83
                have hF_143 := hF_106.mono (cIx hI118 (by decide)) (cRx hX119 (by decide))
                have hY_144 := hY_107.mono (cIx hI118 (by decide)) (cRx hX119 (by decide))
                have hP_145 := hP_108.mono (cIx hI118 (by decide)) (cRx hX119 (by decide))
                have hK_146 := hK_109.mono (cIx hI118 (by decide)) (cRx hX119 (by decide))
                have hN1_147 := hN9_84.mono (cIx hI118 (by decide)) (cRx hX119 (by decide))
                have hQ1_148 := hQ_85.mono (cIx hI118 (by decide)) (cRx hX119 (by decide))
                have hEI149 := hEI110.tr hI118 (by decide)
                have hER150 := hER111.tr hX119 (by decide)
                show pl _ _ _ (72, [(0, .ref m0)], [.int 1], M113) _
                refine ps_if (S1 := (77, [(0, .ref m0)], [], M113)) (S2 := (75, [], [], M113)) rfl rfl rfl (fun c_72 => ?_) (fun c_72 => ?_)
                rotate_left
                · exact absurd (by decide) (of_decide_eq_false c_72)
                refine ps_st (S' := (78, [(0, .ref m0)], [.ref m0], M113)) rfl rfl rfl ?_
                refine ps_st (S' := (79, [(0, .ref m0)], [.ref m0, .ref m0], M113)) rfl rfl rfl ?_
                refine pr_int (j := 57) (S' := (82, [(0, .ref m0)], [.int (nI pA), .ref m0], M113)) rfl hR117 rfl hi129 rfl ?_
                refine ps_st (S' := (83, [(0, .ref m0)], [.int 4, .int (nI pA), .ref m0], M113)) rfl rfl rfl ?_
                refine ps_st (S' := (84, [(0, .ref m0)], [.int 0, .int 4, .int (nI pA), .ref m0], M113)) rfl rfl rfl ?_
                refine pl_call (a := [.ref m0, .int (nI pA), .int 4, .int 0]) (rest := []) rfl rfl rfl (rd_checkAttributes4 (n := n) (f := f) (tx := tx) (cN := cN) (A := A) (N := N) (mj := mj) (E := E) (p1 := pA) (e := n) (x := 0) (fl := (by2 f p1)) hR117 hi123 hi124 hi125 hi140 hi130 hi131 hi132 hi133 hi134 hi135 hi136 hF_143 hY_144 hP_145 hK_146 (hEP) (hN) (hmj) (⟨hat.1, hat.2.1⟩) (hat.2.2) (hcf)) (fun v151 M152 q153 => ?_)
                rcases q153 with q153 | q153
                · skip
                  obtain ⟨e9154, I155, R156, q84_s, rfl, hR157, hI158, hX159, hi160, hi161⟩ := q153
                  have hi162 := (hI158 51 (by decide)).trans hi123
                  have hi163 := (hI158 52 (by decide)).trans hi124
                  have hi164 := (hI158 53 (by decide)).trans hi125
                  have hi165 := (hI158 54 (by decide)).trans hi126
                  have hi166 := (hI158 55 (by decide)).trans hi127
                  have hi167 := (hI158 56 (by decide)).trans hi128
                  have hi168 := (hI158 57 (by decide)).trans hi129
                  have hi169 := (hI158 9 (by decide)).trans hi137
                  have hi170 := (hI158 10 (by decide)).trans hi138
                  have hi171 := (hI158 11 (by decide)).trans hi139
                  have hi172 := (hI158 58 (by decide)).trans hi140
                  have hi173 := (hI158 61 (by decide)).trans hi141
                  have hi174 := (hI158 25 (by decide)).trans hi142
                  have hi175 := (hI158 26 (by decide)).trans hi120
                  have hF_176 := hF_143.mono (cIx hI158 (by decide)) (cRx hX159 (by decide))
                  have hY_177 := hY_144.mono (cIx hI158 (by decide)) (cRx hX159 (by decide))
                  have hP_178 := hP_145.mono (cIx hI158 (by decide)) (cRx hX159 (by decide))
                  have hK_179 := hK_146.mono (cIx hI158 (by decide)) (cRx hX159 (by decide))
                  have hN1_180 := hN1_147.mono (cIx hI158 (by decide)) (cRx hX159 (by decide))
                  have hQ1_181 := hQ1_148.mono (cIx hI158 (by decide)) (cRx hX159 (by decide))
                  have hN2_182 := hN9_121.mono (cIx hI158 (by decide)) (cRx hX159 (by decide))
                  have hQ2_183 := hQ_122.mono (cIx hI158 (by decide)) (cRx hX159 (by decide))
                  have hEI184 := hEI149.tr hI158 (by decide)
                  have hER185 := hER150.tr hX159 (by decide)
                  show pl _ _ _ (87, [(0, .ref m0)], [.int (-1)], M152) _
                  refine ps_if (S1 := (92, [(0, .ref m0)], [], M152)) (S2 := (90, [(0, .ref m0)], [], M152)) rfl rfl rfl (fun c_87 => ?_) (fun c_87 => ?_)
                  · exact absurd (of_decide_eq_true c_87) (by decide)
                  refine ps_st (S' := (91, [(0, .ref m0)], [.int 0], M152)) rfl rfl rfl ?_
                  exact ps_ret rfl rfl (Or.inr ⟨e9154, I155, R156, by
                      refine s_read_2 hwh ?_
                      rw [← hN8, ← hm6]
                      unfold s_chk
                      rw [q48_s]
                      dsimp only
                      obtain ⟨hh9, hh8⟩ := cc_none q55_s
                      rw [hh9]
                      dsimp only
                      rw [hh8]
                      dsimp only
                      rw [q62_s]
                      dsimp only
                      rw [q69_s]
                      dsimp only
                      rw [q84_s], rfl, hR157, hEI184, hER185, hi160, hi161⟩)
                · skip
                  obtain ⟨bc186, K187, I188, R189, q84_s, q84_U, rfl, hR190, hI191, hX192, hi193, hi194, hi195, hi196, hi197, hi198, hi199⟩ := q153
                  have hi200 := (hI191 51 (by decide)).trans hi123
                  have hi201 := (hI191 52 (by decide)).trans hi124
                  have hi202 := (hI191 53 (by decide)).trans hi125
                  have hi203 := (hI191 54 (by decide)).trans hi126
                  have hi204 := (hI191 55 (by decide)).trans hi127
                  have hi205 := (hI191 56 (by decide)).trans hi128
                  have hi206 := (hI191 57 (by decide)).trans hi129
                  have hi207 := (hI191 9 (by decide)).trans hi137
                  have hi208 := (hI191 10 (by decide)).trans hi138
                  have hi209 := (hI191 11 (by decide)).trans hi139
                  have hi210 := (hI191 58 (by decide)).trans hi140
                  have hi211 := (hI191 61 (by decide)).trans hi141
                  have hi212 := (hI191 25 (by decide)).trans hi142
                  have hi213 := (hI191 26 (by decide)).trans hi120
                  have hF_214 := hF_143.mono (cIx hI191 (by decide)) (cRx hX192 (by decide))
                  have hY_215 := hY_144.mono (cIx hI191 (by decide)) (cRx hX192 (by decide))
                  have hP_216 := hP_145.mono (cIx hI191 (by decide)) (cRx hX192 (by decide))
                  have hK_217 := hK_146.mono (cIx hI191 (by decide)) (cRx hX192 (by decide))
                  have hN1_218 := hN1_147.mono (cIx hI191 (by decide)) (cRx hX192 (by decide))
                  have hQ1_219 := hQ1_148.mono (cIx hI191 (by decide)) (cRx hX192 (by decide))
                  have hN2_220 := hN9_121.mono (cIx hI191 (by decide)) (cRx hX192 (by decide))
                  have hQ2_221 := hQ_122.mono (cIx hI191 (by decide)) (cRx hX192 (by decide))
                  have hEI222 := hEI149.tr hI191 (by decide)
                  have hER223 := hER150.tr hX192 (by decide)
                  show pl _ _ _ (87, [(0, .ref m0)], [.int (nI n)], M152) _
                  refine ps_if (S1 := (92, [(0, .ref m0)], [], M152)) (S2 := (90, [(0, .ref m0)], [], M152)) rfl rfl rfl (fun c_87 => ?_) (fun c_87 => ?_)
                  rotate_left
                  · exact absurd ((le_nI (p := 0) (n := n) (by decide) (by omega)).mpr (by omega)) (of_decide_eq_false c_87)
                  refine ps_st (S' := (93, [(0, .ref m0)], [.int 1], M152)) rfl rfl rfl ?_
                  refine ps_st (S' := (94, [(0, .ref m0), (1, .int 1)], [], M152)) rfl rfl rfl ?_
                  exact ih.2 (N) (mj) (bc186) (1) (p1) (pF) (pM) (pA) (K187) (E) (tx) (cN) (A) M152 I188 R189 hR190 hEI222 hER223 hi200 hi201 hi202 hi193 hi212 hi213 hi203 hi210 hi211 hi194 hi195 hi196 hi197 hi198 hi199 hF_214 hY_215 hP_216 hN1_218 hN2_220 hQ1_219 hQ2_221 (hEP) (hN) (hmj) (clS_bc q84_s) (⟨Nat.le_refl _, hN1⟩) (by
                      refine s_read_2 hwh ?_
                      rw [← hN8, ← hm6]
                      unfold s_chk
                      rw [q48_s]
                      dsimp only
                      obtain ⟨hh9, hh8⟩ := cc_none q55_s
                      rw [hh9]
                      dsimp only
                      rw [hh8]
                      dsimp only
                      rw [q62_s]
                      dsimp only
                      rw [q69_s]
                      dsimp only
                      rw [q84_s]) (rfl) (hN8) (hm6) (hwh) (hc) (hf) (hm) (ha) (q84_s) (q84_U)
              · skip
                obtain ⟨e9224, I225, R226, q69_s, rfl, hR227, hI228, hX229, hi230, hi231⟩ := q114
                have hi232 := (hI228 51 (by decide)).trans hi86
                have hi233 := (hI228 52 (by decide)).trans hi87
                have hi234 := (hI228 53 (by decide)).trans hi88
                have hi235 := (hI228 54 (by decide)).trans hi89
                have hi236 := (hI228 55 (by decide)).trans hi90
                have hi237 := (hI228 56 (by decide)).trans hi91
                have hi238 := (hI228 57 (by decide)).trans hi92
                have hi239 := (hI228 71 (by decide)).trans hi94
                have hi240 := (hI228 66 (by decide)).trans hi95
                have hi241 := (hI228 65 (by decide)).trans hi96
                have hi242 := (hI228 68 (by decide)).trans hi97
                have hi243 := (hI228 69 (by decide)).trans hi98
                have hi244 := (hI228 70 (by decide)).trans hi99
                have hi245 := (hI228 72 (by decide)).trans hi100
                have hi246 := (hI228 9 (by decide)).trans hi101
                have hi247 := (hI228 10 (by decide)).trans hi102
                have hi248 := (hI228 11 (by decide)).trans hi103
                have hi249 := (hI228 58 (by decide)).trans hi104
                have hi250 := (hI228 61 (by decide)).trans hi105
                have hi251 := (hI228 25 (by decide)).trans hi83
                have hF_252 := hF_106.mono (cIx hI228 (by decide)) (cRx hX229 (by decide))
                have hY_253 := hY_107.mono (cIx hI228 (by decide)) (cRx hX229 (by decide))
                have hP_254 := hP_108.mono (cIx hI228 (by decide)) (cRx hX229 (by decide))
                have hK_255 := hK_109.mono (cIx hI228 (by decide)) (cRx hX229 (by decide))
                have hN1_256 := hN9_84.mono (cIx hI228 (by decide)) (cRx hX229 (by decide))
                have hQ1_257 := hQ_85.mono (cIx hI228 (by decide)) (cRx hX229 (by decide))
                have hEI258 := hEI110.tr hI228 (by decide)
                have hER259 := hER111.tr hX229 (by decide)
                show pl _ _ _ (72, [(0, .ref m0)], [.int 0], M113) _
                refine ps_if (S1 := (77, [(0, .ref m0)], [], M113)) (S2 := (75, [], [], M113)) rfl rfl rfl (fun c_72 => ?_) (fun c_72 => ?_)
                · exact absurd (of_decide_eq_true c_72) (by decide)
                refine ps_st (S' := (76, [], [.int 0], M113)) rfl rfl rfl ?_
                exact ps_ret rfl rfl (Or.inr ⟨e9224, I225, R226, by
                    refine s_read_2 hwh ?_
                    rw [← hN8, ← hm6]
                    unfold s_chk
                    rw [q48_s]
                    dsimp only
                    obtain ⟨hh9, hh8⟩ := cc_none q55_s
                    rw [hh9]
                    dsimp only
                    rw [hh8]
                    dsimp only
                    rw [q62_s]
                    dsimp only
                    rw [q69_s], rfl, hR227, hEI258, hER259, hi230, hi231⟩)
            · skip
              obtain ⟨e9260, I261, R262, q62_s, rfl, hR263, hI264, hX265, hi266, hi267⟩ := q77
              have hi268 := (hI264 51 (by decide)).trans hi50
              have hi269 := (hI264 52 (by decide)).trans hi51
              have hi270 := (hI264 53 (by decide)).trans hi52
              have hi271 := (hI264 54 (by decide)).trans hi53
              have hi272 := (hI264 55 (by decide)).trans hi54
              have hi273 := (hI264 56 (by decide)).trans hi55
              have hi274 := (hI264 57 (by decide)).trans hi56
              have hi275 := (hI264 26 (by decide)).trans hi58
              have hi276 := (hI264 71 (by decide)).trans hi59
              have hi277 := (hI264 66 (by decide)).trans hi60
              have hi278 := (hI264 65 (by decide)).trans hi61
              have hi279 := (hI264 68 (by decide)).trans hi62
              have hi280 := (hI264 69 (by decide)).trans hi63
              have hi281 := (hI264 70 (by decide)).trans hi64
              have hi282 := (hI264 72 (by decide)).trans hi65
              have hi283 := (hI264 9 (by decide)).trans hi66
              have hi284 := (hI264 10 (by decide)).trans hi67
              have hi285 := (hI264 11 (by decide)).trans hi68
              have hi286 := (hI264 58 (by decide)).trans hi48
              have hi287 := (hI264 61 (by decide)).trans hi49
              have hF_288 := hF_69.mono (cIx hI264 (by decide)) (cRx hX265 (by decide))
              have hY_289 := hY_70.mono (cIx hI264 (by decide)) (cRx hX265 (by decide))
              have hP_290 := hP_71.mono (cIx hI264 (by decide)) (cRx hX265 (by decide))
              have hK_291 := hK_72.mono (cIx hI264 (by decide)) (cRx hX265 (by decide))
              have hEI292 := hEI73.tr hI264 (by decide)
              have hER293 := hER74.tr hX265 (by decide)
              show pl _ _ _ (65, [(0, .ref m0)], [.int 0], M76) _
              refine ps_if (S1 := (75, [], [], M76)) (S2 := (68, [(0, .ref m0)], [], M76)) rfl rfl rfl (fun c_65 => ?_) (fun c_65 => ?_)
              rotate_left
              · exact absurd (by decide) (of_decide_eq_false c_65)
              refine ps_st (S' := (76, [], [.int 0], M76)) rfl rfl rfl ?_
              exact ps_ret rfl rfl (Or.inr ⟨e9260, I261, R262, by
                  refine s_read_2 hwh ?_
                  rw [← hN8, ← hm6]
                  unfold s_chk
                  rw [q48_s]
                  dsimp only
                  obtain ⟨hh9, hh8⟩ := cc_none q55_s
                  rw [hh9]
                  dsimp only
                  rw [hh8]
                  dsimp only
                  rw [q62_s], rfl, hR263, hEI292, hER293, hi266, hi267⟩)
          · skip
            obtain ⟨e294, I295, R296, q55_s, rfl, hR297, hI298, hX299, hi300, hi301⟩ := q42
            have hi302 := (hI298 51 (by decide)).trans hi12
            have hi303 := (hI298 52 (by decide)).trans hi13
            have hi304 := (hI298 53 (by decide)).trans hi14
            have hi305 := (hI298 54 (by decide)).trans hi15
            have hi306 := (hI298 55 (by decide)).trans hi16
            have hi307 := (hI298 56 (by decide)).trans hi17
            have hi308 := (hI298 57 (by decide)).trans hi18
            have hi309 := (hI298 25 (by decide)).trans hi19
            have hi310 := (hI298 26 (by decide)).trans hi21
            have hi311 := (hI298 71 (by decide)).trans hi22
            have hi312 := (hI298 66 (by decide)).trans hi23
            have hi313 := (hI298 65 (by decide)).trans hi24
            have hi314 := (hI298 68 (by decide)).trans hi27
            have hi315 := (hI298 69 (by decide)).trans hi28
            have hi316 := (hI298 70 (by decide)).trans hi29
            have hi317 := (hI298 72 (by decide)).trans hi30
            have hi318 := (hI298 9 (by decide)).trans hi31
            have hi319 := (hI298 10 (by decide)).trans hi32
            have hi320 := (hI298 11 (by decide)).trans hi33
            have hF_321 := hF_34.mono (cIx hI298 (by decide)) (cRx hX299 (by decide))
            have hY_322 := hY_35.mono (cIx hI298 (by decide)) (cRx hX299 (by decide))
            have hP_323 := hP_36.mono (cIx hI298 (by decide)) (cRx hX299 (by decide))
            have hK_324 := hK_37.mono (cIx hI298 (by decide)) (cRx hX299 (by decide))
            have hEI325 := hEI38.tr hI298 (by decide)
            have hER326 := hER39.tr hX299 (by decide)
            show pl _ _ _ (58, [(0, .ref m0)], [.int 0], M41) _
            refine ps_if (S1 := (75, [], [], M41)) (S2 := (61, [(0, .ref m0)], [], M41)) rfl rfl rfl (fun c_58 => ?_) (fun c_58 => ?_)
            rotate_left
            · exact absurd (by decide) (of_decide_eq_false c_58)
            refine ps_st (S' := (76, [], [.int 0], M41)) rfl rfl rfl ?_
            exact ps_ret rfl rfl (Or.inr ⟨e294, I295, R296, by
                refine s_read_2 hwh ?_
                rw [← hN8, ← hm6]
                unfold s_chk
                rw [q48_s]
                dsimp only
                exact cc_some q55_s, rfl, hR297, hEI325, hER326, hi300, hi301⟩)
        · skip
          obtain ⟨e327, I328, R329, q48_s, rfl, hR330, hI331, hX332, hi333, hi334⟩ := q3
          have hi335 := (hI331 51 (by decide)).trans hl51
          have hi336 := (hI331 52 (by decide)).trans hl52
          have hi337 := (hI331 53 (by decide)).trans hl53
          have hi338 := (hI331 54 (by decide)).trans hl54
          have hi339 := (hI331 55 (by decide)).trans hl55
          have hi340 := (hI331 56 (by decide)).trans hl56
          have hi341 := (hI331 57 (by decide)).trans hl57
          have hi342 := (hI331 25 (by decide)).trans hl25
          have hi343 := (hI331 26 (by decide)).trans hl26
          have hi344 := (hI331 71 (by decide)).trans hl71
          have hi345 := (hI331 66 (by decide)).trans hl66
          have hi346 := (hI331 65 (by decide)).trans hl65
          have hi347 := (hI331 68 (by decide)).trans hl68
          have hi348 := (hI331 69 (by decide)).trans hl69
          have hi349 := (hI331 70 (by decide)).trans hl70
          have hi350 := (hI331 72 (by decide)).trans hl72
          have hi351 := (hI331 9 (by decide)).trans hl9
          have hi352 := (hI331 10 (by decide)).trans hl10
          have hi353 := (hI331 11 (by decide)).trans hl11
          have hF_354 := hF1.mono (cIx hI331 (by decide)) (cRx hX332 (by decide))
          have hY_355 := hY1.mono (cIx hI331 (by decide)) (cRx hX332 (by decide))
          have hP_356 := hP1.mono (cIx hI331 (by decide)) (cRx hX332 (by decide))
          have hK_357 := hK1.mono (cIx hI331 (by decide)) (cRx hX332 (by decide))
          have hEI358 := hEI1.tr hI331 (by decide)
          have hER359 := hER1.tr hX332 (by decide)
          show pl _ _ _ (51, [(0, .ref m0)], [.int 0], M2) _
          refine ps_if (S1 := (75, [], [], M2)) (S2 := (54, [(0, .ref m0)], [], M2)) rfl rfl rfl (fun c_51 => ?_) (fun c_51 => ?_)
          rotate_left
          · exact absurd (by decide) (of_decide_eq_false c_51)
          refine ps_st (S' := (76, [], [.int 0], M2)) rfl rfl rfl ?_
          exact ps_ret rfl rfl (Or.inr ⟨e327, I328, R329, by
              refine s_read_2 hwh ?_
              rw [← hN8, ← hm6]
              unfold s_chk
              rw [q48_s], rfl, hR330, hEI358, hER359, hi333, hi334⟩)
      · skip
        intro N mj bc k p1 pF pM pA K E tx cN A M1 I1 R1 hR1 hEI1 hER1 hl51 hl52 hl53 hl71 hl25 hl26 hl54 hl58 hl61 hl66 hl65 hl68 hl69 hl70 hl72 hF1 hY1 hP1 hN11 hN21 hQ11 hQ21 hEP hN hmj hbc hk hr hs hN8 hm6 hwh hc hf hm ha hB hU
        have hn := hF1.1
        refine ps_st1 (S' := (95, [(0, .ref m0), (1, .int (nI k))], [.int (nI k)], M1)) rfl rfl rfl ?_
        refine ps_st (S' := (96, [(0, .ref m0), (1, .int (nI k))], [.ref m0, .int (nI k)], M1)) rfl rfl rfl ?_
        refine pr_int (j := 52) (S' := (99, [(0, .ref m0), (1, .int (nI k))], [.int (nI N), .int (nI k)], M1)) rfl hR1 rfl hl52 rfl ?_
        refine ps_if2 (S1 := (157, [(0, .ref m0), (1, .int (nI k))], [], M1)) (S2 := (102, [(0, .ref m0), (1, .int (nI k))], [], M1)) rfl rfl rfl (fun c_99 => ?_) (fun c_99 => ?_)
        · have c_99 : (nI N) ≤ (nI k) := of_decide_eq_true c_99
          have n_99 : N ≤ k := (le_nI (p := N) (n := k) (by omega) (by omega)).mp c_99
          refine ps_st (S' := (158, [(0, .ref m0), (1, .int (nI k))], [.int 1], M1)) rfl rfl rfl ?_
          exact ps_ret rfl rfl (Or.inl ⟨I1, R1, by
              rw [hr, ← hs, show N - k = 0 by omega]
              rfl, rfl, hR1, hEI1, hER1, ⟨tx, cN, A, E, N, mj, p1, pF, pM, pA, hF1, hY1, hP1, hl51, hl52, hl53, hwh, hN8, hm6, by rw [← Nat.zero_add (mbs f n (by2 f pF) (pF + 2)).length]; exact hl25, by rw [← Nat.zero_add (mbs f n (by2 f pM) (pM + 2)).length]; exact hl26, hN11, hN21, hf, hm, hc, ha, ⟨hl54, hl58, hl61, hQ11, hQ21⟩, bc, K, by rw [← hm6]; exact hB, by rw [← hm6]; exact hU, hl71, hl66, hl65, hl68, hl69, hl70, hl72⟩⟩)
        · have c_99 : ¬ ((nI N) ≤ (nI k)) := of_decide_eq_false c_99
          have n_99 : ¬ (N ≤ k) := fun h9 => c_99 ((le_nI (p := N) (n := k) (by omega) (by omega)).mpr h9)
          refine ps_st (S' := (103, [(0, .ref m0), (1, .int (nI k))], [.ref m0], M1)) rfl rfl rfl ?_
          refine ps_st (S' := (104, [(0, .ref m0), (1, .int (nI k))], [.int (nI k), .ref m0], M1)) rfl rfl rfl ?_
          refine pl_call (a := [.ref m0, .int (nI k)]) (rest := []) rfl rfl rfl (rd_tag (n := n) (f := f) (tx := tx) (cN := cN) (A := A) (N := N) (mj := mj) (E := E) (k := k) hR1 hl51 hl52 hl53 hF1 hY1 hP1 (hEP) (hN) (hmj) (by omega)) (fun v360 M361 q362 => ?_)
          obtain ⟨rfl, rfl⟩ := q362
          show pl _ _ _ (107, [(0, .ref m0), (1, .int (nI k))], [.int (nI (tg f E k))], M1) _
          have htg_104 := tg_lt f E k
          refine ps_st (S' := (108, [(2, .int (nI (tg f E k))), (0, .ref m0), (1, .int (nI k))], [], M1)) rfl rfl rfl ?_
          refine ps_st (S' := (109, [(2, .int (nI (tg f E k))), (0, .ref m0), (1, .int (nI k))], [.int (nI (tg f E k))], M1)) rfl rfl rfl ?_
          refine ps_st (S' := (111, [(2, .int (nI (tg f E k))), (0, .ref m0), (1, .int (nI k))], [.int 17, .int (nI (tg f E k))], M1)) rfl rfl rfl ?_
          refine ps_if2 (S1 := (120, [(0, .ref m0), (1, .int (nI k))], [], M1)) (S2 := (114, [(2, .int (nI (tg f E k))), (0, .ref m0), (1, .int (nI k))], [], M1)) rfl rfl rfl (fun c_111 => ?_) (fun c_111 => ?_)
          · have c_111 : (nI (tg f E k)) = 17 := of_decide_eq_true c_111
            have n_111 : tg f E k = 17 := (eq_nI (p := tg f E k) (n := 17) (Nat.lt_trans (tg_lt _ _ _) (by decide)) (by decide)).mp c_111
            refine ps_st (S' := (121, [(0, .ref m0), (1, .int (nI k))], [.ref m0], M1)) rfl rfl rfl ?_
            refine ps_st (S' := (122, [(0, .ref m0), (1, .int (nI k))], [.int (nI k), .ref m0], M1)) rfl rfl rfl ?_
            refine ps_st (S' := (123, [(0, .ref m0), (1, .int (nI k))], [.int 1, .int (nI k), .ref m0], M1)) rfl rfl rfl ?_
            refine pl_call (a := [.ref m0, .int (nI k), .int 1]) (rest := []) rfl rfl rfl (rd_idx1 (n := n) (f := f) (tx := tx) (cN := cN) (A := A) (N := N) (mj := mj) (E := E) (k := k) hR1 hl51 hl52 hl53 hF1 hY1 hP1 (hEP) (hN) (hmj) (by omega)) (fun v363 M364 q365 => ?_)
            obtain ⟨rfl, rfl⟩ := q365
            show pl _ _ _ (126, [(0, .ref m0), (1, .int (nI k))], [.int (nI (fi f E k))], M1) _
            have hix_123 := fi_lt f E k
            refine ps_st (S' := (127, [(0, .ref m0), (1, .int (nI k))], [.ref m0, .int (nI (fi f E k))], M1)) rfl rfl rfl ?_
            refine pr_int (j := 71) (S' := (130, [(0, .ref m0), (1, .int (nI k))], [.int (nI bc), .int (nI (fi f E k))], M1)) rfl hR1 rfl hl71 rfl ?_
            refine ps_if2 (S1 := (151, [(0, .ref m0), (1, .int (nI k))], [], M1)) (S2 := (133, [(0, .ref m0), (1, .int (nI k))], [], M1)) rfl rfl rfl (fun c_130 => ?_) (fun c_130 => ?_)
            · have c_130 : (nI (fi f E k)) < (nI bc) := of_decide_eq_true c_130
              have n_130 : fi f E k < bc := (lt_nI (p := fi f E k) (n := bc) (Nat.lt_trans (fi_lt _ _ _) (by decide)) (by omega)).mp c_130
              refine ps_st (S' := (154, [(1, .int ((nI k) + 1)), (0, .ref m0)], [], M1)) rfl rfl rfl ?_
              rw [nI_add1 (p := k) (k := 1) (x := 1) rfl (by omega)]
              show pl _ _ _ (_, [(1, .int (nI (k + 1))), (0, .ref m0)], [], M1) _
              refine ps_st (S' := (94, [(0, .ref m0), (1, .int (nI (k + 1)))], [], M1)) rfl rfl rfl ?_
              exact ih.2 (N) (mj) (bc) (k + 1) (p1) (pF) (pM) (pA) (K) (E) (tx) (cN) (A) M1 I1 R1 hR1 hEI1 hER1 hl51 hl52 hl53 hl71 hl25 hl26 hl54 hl58 hl61 hl66 hl65 hl68 hl69 hl70 hl72 hF1 hY1 hP1 hN11 hN21 hQ11 hQ21 (hEP) (hN) (hmj) (hbc) (by omega) (hr) (by
                  rw [← hs, chkB_st (k := k) (by omega), if_neg (by omega)]) (hN8) (hm6) (hwh) (hc) (hf) (hm) (ha) (hB) (hU)
            · have c_130 : ¬ ((nI (fi f E k)) < (nI bc)) := of_decide_eq_false c_130
              have n_130 : ¬ (fi f E k < bc) := fun h9 => c_130 ((lt_nI (p := fi f E k) (n := bc) (Nat.lt_trans (fi_lt _ _ _) (by decide)) (by omega)).mpr h9)
              obtain ⟨p, hk9, hb9⟩ := tg_lk (f := f) (E := E) (k := k) (by omega)
              have hep9 := hEP k p hk9
              refine ps_st (S' := (134, [(0, .ref m0), (1, .int (nI k))], [.ref m0], M1)) rfl rfl rfl ?_
              refine ps_st (S' := (136, [(0, .ref m0), (1, .int (nI k))], [.int 40, .ref m0], M1)) rfl rfl rfl ?_
              refine ps_st (S' := (137, [(0, .ref m0), (1, .int (nI k))], [.ref m0, .int 40, .ref m0], M1)) rfl rfl rfl ?_
              refine pr_ref (j := 21) (S' := (140, [(0, .ref m0), (1, .int (nI k))], [.ref (q 21), .int 40, .ref m0], M1)) rfl hR1 rfl rfl ?_
              refine ps_st (S' := (141, [(0, .ref m0), (1, .int (nI k))], [.ref m0, .ref (q 21), .int 40, .ref m0], M1)) rfl rfl rfl ?_
              refine pr_int (j := 51) (S' := (144, [(0, .ref m0), (1, .int (nI k))], [.int 0, .ref (q 21), .int 40, .ref m0], M1)) rfl hR1 rfl hl51 rfl ?_
              refine ps_st (S' := (145, [(0, .ref m0), (1, .int (nI k))], [.int (nI k), .int 0, .ref (q 21), .int 40, .ref m0], M1)) rfl rfl rfl ?_
              refine ps_st (S' := (146, [(0, .ref m0), (1, .int (nI k))], [.int (0 + (nI k)), .ref (q 21), .int 40, .ref m0], M1)) rfl rfl rfl ?_
              rw [show (0 : Int32) + (nI k) = (nI k) from Int32.zero_add _]
              show pl _ _ _ (_, [(0, .ref m0), (1, .int (nI k))], [.int (nI k), .ref (q 21), .int 40, .ref m0], M1) _
              refine pr_ld (a := 21) (j := k) (y := (nI p)) (S' := (147, [(0, .ref m0), (1, .int (nI k))], [.int (nI p), .int 40, .ref m0], M1)) rfl hR1 rfl (by omega) (fun _ => by rw [hP1.2.1 k (by omega), hk9]; rfl) rfl (fun i1_146 => ?_)
              refine pl_call (a := [.ref m0, .int 40, .int (nI p)]) (rest := []) rfl rfl rfl (rd_wrong (x1 := 40) (x2 := (nI p)) hR1) (fun v366 M367 q368 => ?_)
              obtain ⟨I369, R370, rfl, hR371, hI372, hX373, hi374, hi375⟩ := q368
              have hi376 := (hI372 51 (by decide)).trans hl51
              have hi377 := (hI372 52 (by decide)).trans hl52
              have hi378 := (hI372 53 (by decide)).trans hl53
              have hi379 := (hI372 71 (by decide)).trans hl71
              have hi380 := (hI372 25 (by decide)).trans hl25
              have hi381 := (hI372 26 (by decide)).trans hl26
              have hi382 := (hI372 54 (by decide)).trans hl54
              have hi383 := (hI372 58 (by decide)).trans hl58
              have hi384 := (hI372 61 (by decide)).trans hl61
              have hi385 := (hI372 66 (by decide)).trans hl66
              have hi386 := (hI372 65 (by decide)).trans hl65
              have hi387 := (hI372 68 (by decide)).trans hl68
              have hi388 := (hI372 69 (by decide)).trans hl69
              have hi389 := (hI372 70 (by decide)).trans hl70
              have hi390 := (hI372 72 (by decide)).trans hl72
              have hF_391 := hF1.mono (cIx hI372 (by decide)) (cRx hX373 (by decide))
              have hY_392 := hY1.mono (cIx hI372 (by decide)) (cRx hX373 (by decide))
              have hP_393 := hP1.mono (cIx hI372 (by decide)) (cRx hX373 (by decide))
              have hN1_394 := hN11.mono (cIx hI372 (by decide)) (cRx hX373 (by decide))
              have hN2_395 := hN21.mono (cIx hI372 (by decide)) (cRx hX373 (by decide))
              have hQ1_396 := hQ11.mono (cIx hI372 (by decide)) (cRx hX373 (by decide))
              have hQ2_397 := hQ21.mono (cIx hI372 (by decide)) (cRx hX373 (by decide))
              have hEI398 := hEI1.tr hI372 (by decide)
              have hER399 := hER1.tr hX373 (by decide)
              show pl _ _ _ (150, [(0, .ref m0), (1, .int (nI k))], [.int 0], M367) _
              exact ps_ret rfl rfl (Or.inr ⟨(40, p), I369, R370, by
                  rw [hr, ← hs, chkB_st (k := k) (by omega), if_pos (by omega), tp_is hk9], rfl, hR371, hEI398, hER399, hi374, hi375⟩)
          · have c_111 : ¬ ((nI (tg f E k)) = 17) := of_decide_eq_false c_111
            have n_111 : ¬ (tg f E k = 17) := fun h9 => c_111 ((eq_nI (p := tg f E k) (n := 17) (Nat.lt_trans (tg_lt _ _ _) (by decide)) (by decide)).mpr h9)
            refine ps_st (S' := (115, [(2, .int (nI (tg f E k))), (0, .ref m0), (1, .int (nI k))], [.int (nI (tg f E k))], M1)) rfl rfl rfl ?_
            refine ps_st (S' := (117, [(2, .int (nI (tg f E k))), (0, .ref m0), (1, .int (nI k))], [.int 18, .int (nI (tg f E k))], M1)) rfl rfl rfl ?_
            refine ps_if2 (S1 := (151, [(0, .ref m0), (1, .int (nI k))], [], M1)) (S2 := (120, [(0, .ref m0), (1, .int (nI k))], [], M1)) rfl rfl rfl (fun c_117 => ?_) (fun c_117 => ?_)
            · have c_117 : ¬ (nI (tg f E k)) = 18 := of_decide_eq_true c_117
              have n_117 : ¬ (tg f E k = 18) := fun h9 => c_117 ((eq_nI (p := tg f E k) (n := 18) (Nat.lt_trans (tg_lt _ _ _) (by decide)) (by decide)).mpr h9)
              refine ps_st (S' := (154, [(1, .int ((nI k) + 1)), (0, .ref m0)], [], M1)) rfl rfl rfl ?_
              rw [nI_add1 (p := k) (k := 1) (x := 1) rfl (by omega)]
              show pl _ _ _ (_, [(1, .int (nI (k + 1))), (0, .ref m0)], [], M1) _
              refine ps_st (S' := (94, [(0, .ref m0), (1, .int (nI (k + 1)))], [], M1)) rfl rfl rfl ?_
              exact ih.2 (N) (mj) (bc) (k + 1) (p1) (pF) (pM) (pA) (K) (E) (tx) (cN) (A) M1 I1 R1 hR1 hEI1 hER1 hl51 hl52 hl53 hl71 hl25 hl26 hl54 hl58 hl61 hl66 hl65 hl68 hl69 hl70 hl72 hF1 hY1 hP1 hN11 hN21 hQ11 hQ21 (hEP) (hN) (hmj) (hbc) (by omega) (hr) (by
                  rw [← hs, chkB_st (k := k) (by omega), if_neg (by omega)]) (hN8) (hm6) (hwh) (hc) (hf) (hm) (ha) (hB) (hU)
            · have c_117 : ¬ (¬ (nI (tg f E k)) = 18) := of_decide_eq_false c_117
              have n_117 : tg f E k = 18 := (eq_nI (p := tg f E k) (n := 18) (Nat.lt_trans (tg_lt _ _ _) (by decide)) (by decide)).mp (Decidable.not_not.mp c_117)
              refine ps_st (S' := (121, [(0, .ref m0), (1, .int (nI k))], [.ref m0], M1)) rfl rfl rfl ?_
              refine ps_st (S' := (122, [(0, .ref m0), (1, .int (nI k))], [.int (nI k), .ref m0], M1)) rfl rfl rfl ?_
              refine ps_st (S' := (123, [(0, .ref m0), (1, .int (nI k))], [.int 1, .int (nI k), .ref m0], M1)) rfl rfl rfl ?_
              refine pl_call (a := [.ref m0, .int (nI k), .int 1]) (rest := []) rfl rfl rfl (rd_idx1 (n := n) (f := f) (tx := tx) (cN := cN) (A := A) (N := N) (mj := mj) (E := E) (k := k) hR1 hl51 hl52 hl53 hF1 hY1 hP1 (hEP) (hN) (hmj) (by omega)) (fun v400 M401 q402 => ?_)
              obtain ⟨rfl, rfl⟩ := q402
              show pl _ _ _ (126, [(0, .ref m0), (1, .int (nI k))], [.int (nI (fi f E k))], M1) _
              have hix_123 := fi_lt f E k
              refine ps_st (S' := (127, [(0, .ref m0), (1, .int (nI k))], [.ref m0, .int (nI (fi f E k))], M1)) rfl rfl rfl ?_
              refine pr_int (j := 71) (S' := (130, [(0, .ref m0), (1, .int (nI k))], [.int (nI bc), .int (nI (fi f E k))], M1)) rfl hR1 rfl hl71 rfl ?_
              refine ps_if2 (S1 := (151, [(0, .ref m0), (1, .int (nI k))], [], M1)) (S2 := (133, [(0, .ref m0), (1, .int (nI k))], [], M1)) rfl rfl rfl (fun c_130 => ?_) (fun c_130 => ?_)
              · have c_130 : (nI (fi f E k)) < (nI bc) := of_decide_eq_true c_130
                have n_130 : fi f E k < bc := (lt_nI (p := fi f E k) (n := bc) (Nat.lt_trans (fi_lt _ _ _) (by decide)) (by omega)).mp c_130
                refine ps_st (S' := (154, [(1, .int ((nI k) + 1)), (0, .ref m0)], [], M1)) rfl rfl rfl ?_
                rw [nI_add1 (p := k) (k := 1) (x := 1) rfl (by omega)]
                show pl _ _ _ (_, [(1, .int (nI (k + 1))), (0, .ref m0)], [], M1) _
                refine ps_st (S' := (94, [(0, .ref m0), (1, .int (nI (k + 1)))], [], M1)) rfl rfl rfl ?_
                exact ih.2 (N) (mj) (bc) (k + 1) (p1) (pF) (pM) (pA) (K) (E) (tx) (cN) (A) M1 I1 R1 hR1 hEI1 hER1 hl51 hl52 hl53 hl71 hl25 hl26 hl54 hl58 hl61 hl66 hl65 hl68 hl69 hl70 hl72 hF1 hY1 hP1 hN11 hN21 hQ11 hQ21 (hEP) (hN) (hmj) (hbc) (by omega) (hr) (by
                    rw [← hs, chkB_st (k := k) (by omega), if_neg (by omega)]) (hN8) (hm6) (hwh) (hc) (hf) (hm) (ha) (hB) (hU)
              · have c_130 : ¬ ((nI (fi f E k)) < (nI bc)) := of_decide_eq_false c_130
                have n_130 : ¬ (fi f E k < bc) := fun h9 => c_130 ((lt_nI (p := fi f E k) (n := bc) (Nat.lt_trans (fi_lt _ _ _) (by decide)) (by omega)).mpr h9)
                obtain ⟨p, hk9, hb9⟩ := tg_lk (f := f) (E := E) (k := k) (by omega)
                have hep9 := hEP k p hk9
                refine ps_st (S' := (134, [(0, .ref m0), (1, .int (nI k))], [.ref m0], M1)) rfl rfl rfl ?_
                refine ps_st (S' := (136, [(0, .ref m0), (1, .int (nI k))], [.int 40, .ref m0], M1)) rfl rfl rfl ?_
                refine ps_st (S' := (137, [(0, .ref m0), (1, .int (nI k))], [.ref m0, .int 40, .ref m0], M1)) rfl rfl rfl ?_
                refine pr_ref (j := 21) (S' := (140, [(0, .ref m0), (1, .int (nI k))], [.ref (q 21), .int 40, .ref m0], M1)) rfl hR1 rfl rfl ?_
                refine ps_st (S' := (141, [(0, .ref m0), (1, .int (nI k))], [.ref m0, .ref (q 21), .int 40, .ref m0], M1)) rfl rfl rfl ?_
                refine pr_int (j := 51) (S' := (144, [(0, .ref m0), (1, .int (nI k))], [.int 0, .ref (q 21), .int 40, .ref m0], M1)) rfl hR1 rfl hl51 rfl ?_
                refine ps_st (S' := (145, [(0, .ref m0), (1, .int (nI k))], [.int (nI k), .int 0, .ref (q 21), .int 40, .ref m0], M1)) rfl rfl rfl ?_
                refine ps_st (S' := (146, [(0, .ref m0), (1, .int (nI k))], [.int (0 + (nI k)), .ref (q 21), .int 40, .ref m0], M1)) rfl rfl rfl ?_
                rw [show (0 : Int32) + (nI k) = (nI k) from Int32.zero_add _]
                show pl _ _ _ (_, [(0, .ref m0), (1, .int (nI k))], [.int (nI k), .ref (q 21), .int 40, .ref m0], M1) _
                refine pr_ld (a := 21) (j := k) (y := (nI p)) (S' := (147, [(0, .ref m0), (1, .int (nI k))], [.int (nI p), .int 40, .ref m0], M1)) rfl hR1 rfl (by omega) (fun _ => by rw [hP1.2.1 k (by omega), hk9]; rfl) rfl (fun i1_146 => ?_)
                refine pl_call (a := [.ref m0, .int 40, .int (nI p)]) (rest := []) rfl rfl rfl (rd_wrong (x1 := 40) (x2 := (nI p)) hR1) (fun v403 M404 q405 => ?_)
                obtain ⟨I406, R407, rfl, hR408, hI409, hX410, hi411, hi412⟩ := q405
                have hi413 := (hI409 51 (by decide)).trans hl51
                have hi414 := (hI409 52 (by decide)).trans hl52
                have hi415 := (hI409 53 (by decide)).trans hl53
                have hi416 := (hI409 71 (by decide)).trans hl71
                have hi417 := (hI409 25 (by decide)).trans hl25
                have hi418 := (hI409 26 (by decide)).trans hl26
                have hi419 := (hI409 54 (by decide)).trans hl54
                have hi420 := (hI409 58 (by decide)).trans hl58
                have hi421 := (hI409 61 (by decide)).trans hl61
                have hi422 := (hI409 66 (by decide)).trans hl66
                have hi423 := (hI409 65 (by decide)).trans hl65
                have hi424 := (hI409 68 (by decide)).trans hl68
                have hi425 := (hI409 69 (by decide)).trans hl69
                have hi426 := (hI409 70 (by decide)).trans hl70
                have hi427 := (hI409 72 (by decide)).trans hl72
                have hF_428 := hF1.mono (cIx hI409 (by decide)) (cRx hX410 (by decide))
                have hY_429 := hY1.mono (cIx hI409 (by decide)) (cRx hX410 (by decide))
                have hP_430 := hP1.mono (cIx hI409 (by decide)) (cRx hX410 (by decide))
                have hN1_431 := hN11.mono (cIx hI409 (by decide)) (cRx hX410 (by decide))
                have hN2_432 := hN21.mono (cIx hI409 (by decide)) (cRx hX410 (by decide))
                have hQ1_433 := hQ11.mono (cIx hI409 (by decide)) (cRx hX410 (by decide))
                have hQ2_434 := hQ21.mono (cIx hI409 (by decide)) (cRx hX410 (by decide))
                have hEI435 := hEI1.tr hI409 (by decide)
                have hER436 := hER1.tr hX410 (by decide)
                show pl _ _ _ (150, [(0, .ref m0), (1, .int (nI k))], [.int 0], M404) _
                exact ps_ret rfl rfl (Or.inr ⟨(40, p), I406, R407, by
                    rw [hr, ← hs, chkB_st (k := k) (by omega), if_pos (by omega), tp_is hk9], rfl, hR408, hEI435, hER436, hi411, hi412⟩)
  refine ps_st (S' := (1, [(0, .ref m0)], [.ref m0], M)) rfl rfl rfl ?_
  refine ps_st (S' := (2, [(0, .ref m0)], [.int (-1), .ref m0], M)) rfl rfl rfl ?_
  refine pr_put (j := 67) rfl hR rfl (fun M437 I438 hR439 hi440 hI441 => ?_)
  have hi442 := (hI441 20 (by decide)).trans hi20
  have hi443 := (hI441 25 (by decide)).trans hi25
  have hi444 := (hI441 26 (by decide)).trans hi26
  have hi445 := (hI441 9 (by decide)).trans hi9
  have hi446 := (hI441 10 (by decide)).trans hi10
  have hi447 := (hI441 11 (by decide)).trans hi11
  have hF_448 := hF.mono (pIx hI441 (by decide)) (fun _ _ => rfl)
  have hY_449 := hY.mono (pIx hI441 (by decide)) (fun _ _ => rfl)
  have hK_450 := hK.mono (pIx hI441 (by decide)) (fun _ _ => rfl)
  have hEI451 := hEI.put hI441 (by decide)
  show pl _ _ _ (5, [(0, .ref m0)], [], M437) _
  refine ps_st (S' := (6, [(0, .ref m0)], [.ref m0], M437)) rfl rfl rfl ?_
  refine ps_st (S' := (7, [(0, .ref m0)], [.int 0, .ref m0], M437)) rfl rfl rfl ?_
  refine pr_put (j := 68) rfl hR439 rfl (fun M452 I453 hR454 hi455 hI456 => ?_)
  have hi457 := (hI456 20 (by decide)).trans hi442
  have hi458 := (hI456 25 (by decide)).trans hi443
  have hi459 := (hI456 26 (by decide)).trans hi444
  have hi460 := (hI456 9 (by decide)).trans hi445
  have hi461 := (hI456 10 (by decide)).trans hi446
  have hi462 := (hI456 11 (by decide)).trans hi447
  have hi463 := (hI456 67 (by decide)).trans hi440
  have hF_464 := hF_448.mono (pIx hI456 (by decide)) (fun _ _ => rfl)
  have hY_465 := hY_449.mono (pIx hI456 (by decide)) (fun _ _ => rfl)
  have hK_466 := hK_450.mono (pIx hI456 (by decide)) (fun _ _ => rfl)
  have hEI467 := hEI451.put hI456 (by decide)
  show pl _ _ _ (10, [(0, .ref m0)], [], M452) _
  refine ps_st (S' := (11, [(0, .ref m0)], [.ref m0], M452)) rfl rfl rfl ?_
  refine ps_st (S' := (12, [(0, .ref m0)], [.int 0, .ref m0], M452)) rfl rfl rfl ?_
  refine pr_put (j := 69) rfl hR454 rfl (fun M468 I469 hR470 hi471 hI472 => ?_)
  have hi473 := (hI472 20 (by decide)).trans hi457
  have hi474 := (hI472 25 (by decide)).trans hi458
  have hi475 := (hI472 26 (by decide)).trans hi459
  have hi476 := (hI472 9 (by decide)).trans hi460
  have hi477 := (hI472 10 (by decide)).trans hi461
  have hi478 := (hI472 11 (by decide)).trans hi462
  have hi479 := (hI472 67 (by decide)).trans hi463
  have hi480 := (hI472 68 (by decide)).trans hi455
  have hF_481 := hF_464.mono (pIx hI472 (by decide)) (fun _ _ => rfl)
  have hY_482 := hY_465.mono (pIx hI472 (by decide)) (fun _ _ => rfl)
  have hK_483 := hK_466.mono (pIx hI472 (by decide)) (fun _ _ => rfl)
  have hEI484 := hEI467.put hI472 (by decide)
  show pl _ _ _ (15, [(0, .ref m0)], [], M468) _
  refine ps_st (S' := (16, [(0, .ref m0)], [.ref m0], M468)) rfl rfl rfl ?_
  refine ps_st (S' := (17, [(0, .ref m0)], [.int 0, .ref m0], M468)) rfl rfl rfl ?_
  refine pr_put (j := 65) rfl hR470 rfl (fun M485 I486 hR487 hi488 hI489 => ?_)
  have hi490 := (hI489 20 (by decide)).trans hi473
  have hi491 := (hI489 25 (by decide)).trans hi474
  have hi492 := (hI489 26 (by decide)).trans hi475
  have hi493 := (hI489 9 (by decide)).trans hi476
  have hi494 := (hI489 10 (by decide)).trans hi477
  have hi495 := (hI489 11 (by decide)).trans hi478
  have hi496 := (hI489 67 (by decide)).trans hi479
  have hi497 := (hI489 68 (by decide)).trans hi480
  have hi498 := (hI489 69 (by decide)).trans hi471
  have hF_499 := hF_481.mono (pIx hI489 (by decide)) (fun _ _ => rfl)
  have hY_500 := hY_482.mono (pIx hI489 (by decide)) (fun _ _ => rfl)
  have hK_501 := hK_483.mono (pIx hI489 (by decide)) (fun _ _ => rfl)
  have hEI502 := hEI484.put hI489 (by decide)
  show pl _ _ _ (20, [(0, .ref m0)], [], M485) _
  refine ps_st (S' := (21, [(0, .ref m0)], [.ref m0], M485)) rfl rfl rfl ?_
  refine ps_st (S' := (22, [(0, .ref m0)], [.int 0, .ref m0], M485)) rfl rfl rfl ?_
  refine pr_put (j := 66) rfl hR487 rfl (fun M503 I504 hR505 hi506 hI507 => ?_)
  have hi508 := (hI507 20 (by decide)).trans hi490
  have hi509 := (hI507 25 (by decide)).trans hi491
  have hi510 := (hI507 26 (by decide)).trans hi492
  have hi511 := (hI507 9 (by decide)).trans hi493
  have hi512 := (hI507 10 (by decide)).trans hi494
  have hi513 := (hI507 11 (by decide)).trans hi495
  have hi514 := (hI507 67 (by decide)).trans hi496
  have hi515 := (hI507 68 (by decide)).trans hi497
  have hi516 := (hI507 69 (by decide)).trans hi498
  have hi517 := (hI507 65 (by decide)).trans hi488
  have hF_518 := hF_499.mono (pIx hI507 (by decide)) (fun _ _ => rfl)
  have hY_519 := hY_500.mono (pIx hI507 (by decide)) (fun _ _ => rfl)
  have hK_520 := hK_501.mono (pIx hI507 (by decide)) (fun _ _ => rfl)
  have hEI521 := hEI502.put hI507 (by decide)
  show pl _ _ _ (25, [(0, .ref m0)], [], M503) _
  refine ps_st (S' := (26, [(0, .ref m0)], [.ref m0], M503)) rfl rfl rfl ?_
  refine ps_st (S' := (27, [(0, .ref m0)], [.int (-1), .ref m0], M503)) rfl rfl rfl ?_
  refine pr_put (j := 70) rfl hR505 rfl (fun M522 I523 hR524 hi525 hI526 => ?_)
  have hi527 := (hI526 20 (by decide)).trans hi508
  have hi528 := (hI526 25 (by decide)).trans hi509
  have hi529 := (hI526 26 (by decide)).trans hi510
  have hi530 := (hI526 9 (by decide)).trans hi511
  have hi531 := (hI526 10 (by decide)).trans hi512
  have hi532 := (hI526 11 (by decide)).trans hi513
  have hi533 := (hI526 67 (by decide)).trans hi514
  have hi534 := (hI526 68 (by decide)).trans hi515
  have hi535 := (hI526 69 (by decide)).trans hi516
  have hi536 := (hI526 65 (by decide)).trans hi517
  have hi537 := (hI526 66 (by decide)).trans hi506
  have hF_538 := hF_518.mono (pIx hI526 (by decide)) (fun _ _ => rfl)
  have hY_539 := hY_519.mono (pIx hI526 (by decide)) (fun _ _ => rfl)
  have hK_540 := hK_520.mono (pIx hI526 (by decide)) (fun _ _ => rfl)
  have hEI541 := hEI521.put hI526 (by decide)
  show pl _ _ _ (30, [(0, .ref m0)], [], M522) _
  refine ps_st (S' := (31, [(0, .ref m0)], [.ref m0], M522)) rfl rfl rfl ?_
  refine ps_st (S' := (32, [(0, .ref m0)], [.int 0, .ref m0], M522)) rfl rfl rfl ?_
  refine pr_put (j := 71) rfl hR524 rfl (fun M542 I543 hR544 hi545 hI546 => ?_)
  have hi547 := (hI546 20 (by decide)).trans hi527
  have hi548 := (hI546 25 (by decide)).trans hi528
  have hi549 := (hI546 26 (by decide)).trans hi529
  have hi550 := (hI546 9 (by decide)).trans hi530
  have hi551 := (hI546 10 (by decide)).trans hi531
  have hi552 := (hI546 11 (by decide)).trans hi532
  have hi553 := (hI546 67 (by decide)).trans hi533
  have hi554 := (hI546 68 (by decide)).trans hi534
  have hi555 := (hI546 69 (by decide)).trans hi535
  have hi556 := (hI546 65 (by decide)).trans hi536
  have hi557 := (hI546 66 (by decide)).trans hi537
  have hi558 := (hI546 70 (by decide)).trans hi525
  have hF_559 := hF_538.mono (pIx hI546 (by decide)) (fun _ _ => rfl)
  have hY_560 := hY_539.mono (pIx hI546 (by decide)) (fun _ _ => rfl)
  have hK_561 := hK_540.mono (pIx hI546 (by decide)) (fun _ _ => rfl)
  have hEI562 := hEI541.put hI546 (by decide)
  show pl _ _ _ (35, [(0, .ref m0)], [], M542) _
  refine ps_st (S' := (36, [(0, .ref m0)], [.ref m0], M542)) rfl rfl rfl ?_
  refine ps_st (S' := (37, [(0, .ref m0)], [.int (-1), .ref m0], M542)) rfl rfl rfl ?_
  refine pr_put (j := 72) rfl hR544 rfl (fun M563 I564 hR565 hi566 hI567 => ?_)
  have hi568 := (hI567 20 (by decide)).trans hi547
  have hi569 := (hI567 25 (by decide)).trans hi548
  have hi570 := (hI567 26 (by decide)).trans hi549
  have hi571 := (hI567 9 (by decide)).trans hi550
  have hi572 := (hI567 10 (by decide)).trans hi551
  have hi573 := (hI567 11 (by decide)).trans hi552
  have hi574 := (hI567 67 (by decide)).trans hi553
  have hi575 := (hI567 68 (by decide)).trans hi554
  have hi576 := (hI567 69 (by decide)).trans hi555
  have hi577 := (hI567 65 (by decide)).trans hi556
  have hi578 := (hI567 66 (by decide)).trans hi557
  have hi579 := (hI567 70 (by decide)).trans hi558
  have hi580 := (hI567 71 (by decide)).trans hi545
  have hF_581 := hF_559.mono (pIx hI567 (by decide)) (fun _ _ => rfl)
  have hY_582 := hY_560.mono (pIx hI567 (by decide)) (fun _ _ => rfl)
  have hK_583 := hK_561.mono (pIx hI567 (by decide)) (fun _ _ => rfl)
  have hEI584 := hEI562.put hI567 (by decide)
  show pl _ _ _ (40, [(0, .ref m0)], [], M563) _
  refine ps_st (S' := (41, [(0, .ref m0)], [.ref m0], M563)) rfl rfl rfl ?_
  refine pl_call (a := [.ref m0]) (rest := []) rfl rfl rfl (rd_readFile (n := n) (f := f) (tx := tx) (cN := cN) (A := A) hR565 hi568 hF_581 hY_582) (fun v585 M586 q587 => ?_)
  rcases q587 with q587 | q587
  · skip
    obtain ⟨E588, p1589, pF590, pM591, pA592, tx1593, cN1594, A1595, I596, R597, q41_s, q41_k, q41_c, q41_f, q41_m, q41_a, rfl, hR598, hI599, hX600, hi601, hi602, hi603, hi604, hi605, hi606, hi607, hY_608, hP_609⟩ := q587
    have hi610 := (hI599 25 (by decide)).trans hi569
    have hi611 := (hI599 26 (by decide)).trans hi570
    have hi612 := (hI599 9 (by decide)).trans hi571
    have hi613 := (hI599 10 (by decide)).trans hi572
    have hi614 := (hI599 11 (by decide)).trans hi573
    have hi615 := (hI599 67 (by decide)).trans hi574
    have hi616 := (hI599 68 (by decide)).trans hi575
    have hi617 := (hI599 69 (by decide)).trans hi576
    have hi618 := (hI599 65 (by decide)).trans hi577
    have hi619 := (hI599 66 (by decide)).trans hi578
    have hi620 := (hI599 70 (by decide)).trans hi579
    have hi621 := (hI599 71 (by decide)).trans hi580
    have hi622 := (hI599 72 (by decide)).trans hi566
    have hF_623 := hF_581.mono (cIx hI599 (by decide)) (cRx hX600 (by decide))
    have hK_624 := hK_583.mono (cIx hI599 (by decide)) (cRx hX600 (by decide))
    have hEI625 := hEI584.tr hI599 (by decide)
    have hER626 := hER.tr hX600 (by decide)
    show pl _ _ _ (44, [(0, .ref m0)], [.int 1], M586) _
    refine ps_if (S1 := (75, [], [], M586)) (S2 := (47, [(0, .ref m0)], [], M586)) rfl rfl rfl (fun c_44 => ?_) (fun c_44 => ?_)
    · exact absurd (of_decide_eq_true c_44) (by decide)
    exact (LL kf).1 (by2 f 8) (by2 f 6) (p1589) (pF590) (pM591) (pA592) (E588) (tx1593) (cN1594) (A1595) M586 I596 R597 hR598 hEI625 hER626 hi601 hi602 hi603 hi604 hi605 hi606 hi607 hi610 hi611 hi621 hi619 hi618 hi616 hi617 hi620 hi622 hi612 hi613 hi614 hF_623 hY_608 hP_609 hK_624 (rfl) (rfl) (q41_s) (⟨Nat.lt_of_lt_of_le hs1.1 q41_k.1, (q41_k.2 _ hs1.1).trans hs1.2⟩) (⟨Nat.lt_of_lt_of_le hs2.1 q41_k.1, (q41_k.2 _ hs2.1).trans hs2.2⟩) (⟨Nat.lt_of_lt_of_le hs3.1 q41_k.1, (q41_k.2 _ hs3.1).trans hs3.2⟩) (q41_c) (q41_f) (q41_m) (q41_a)
  · skip
    obtain ⟨e627, I628, R629, q41_s, rfl, hR630, hI631, hX632, hi633, hi634⟩ := q587
    have hi635 := (hI631 25 (by decide)).trans hi569
    have hi636 := (hI631 26 (by decide)).trans hi570
    have hi637 := (hI631 9 (by decide)).trans hi571
    have hi638 := (hI631 10 (by decide)).trans hi572
    have hi639 := (hI631 11 (by decide)).trans hi573
    have hi640 := (hI631 67 (by decide)).trans hi574
    have hi641 := (hI631 68 (by decide)).trans hi575
    have hi642 := (hI631 69 (by decide)).trans hi576
    have hi643 := (hI631 65 (by decide)).trans hi577
    have hi644 := (hI631 66 (by decide)).trans hi578
    have hi645 := (hI631 70 (by decide)).trans hi579
    have hi646 := (hI631 71 (by decide)).trans hi580
    have hi647 := (hI631 72 (by decide)).trans hi566
    have hF_648 := hF_581.mono (cIx hI631 (by decide)) (cRx hX632 (by decide))
    have hK_649 := hK_583.mono (cIx hI631 (by decide)) (cRx hX632 (by decide))
    have hEI650 := hEI584.tr hI631 (by decide)
    have hER651 := hER.tr hX632 (by decide)
    show pl _ _ _ (44, [(0, .ref m0)], [.int 0], M586) _
    refine ps_if (S1 := (75, [], [], M586)) (S2 := (47, [(0, .ref m0)], [], M586)) rfl rfl rfl (fun c_44 => ?_) (fun c_44 => ?_)
    rotate_left
    · exact absurd (by decide) (of_decide_eq_false c_44)
    refine ps_st (S' := (76, [], [.int 0], M586)) rfl rfl rfl ?_
    exact ps_ret rfl rfl (Or.inr ⟨e627, I628, R629, by
        exact s_read_1 q41_s, rfl, hR630, hEI650, hER651, hi633, hi634⟩)
set_option maxHeartbeats 4000000 in
theorem rd_parse13b {g : xe_G} {m0 : Nat} {q : Nat → Nat} {z : Nat × Nat} {I : rI} {R : rR} {M : mi_H} {n : Nat} {f : Nat → Int32} (hR : RS g m0 q z I R M) (hi49 : I 49 = some 0) (hB : BX 13 n f I R) (hK : KX I R) (hn : n ≤ 65540) : pt (mT g) 230 [.ref m0, .ref (q 13), .int (nI n)] M (fun v M' => (∃  (I' : rI) (R' : rR), (s_read f n = none) ∧ v = some (.int 1) ∧ RS g m0 q z I' R' M' ∧ eqI [3, 8, 9, 10, 11, 16, 20, 25, 26, 47, 48, 50, 51, 52, 53, 54, 55, 56, 57, 58, 59, 60, 61, 65, 66, 67, 68, 69, 70, 71, 72] I I' ∧ eqR [1, 2, 4, 5, 6, 7, 12, 21, 22, 27, 28, 29, 30, 31, 32, 33, 34, 35, 36, 37, 38, 39, 40, 41, 42, 43, 44, 45, 46] R R' ∧ XKV f n I' R') ∨ (∃ (e9 : Nat × Nat) (I' : rI) (R' : rR), (s_read f n = some e9) ∧ v = some (.int 0) ∧ RS g m0 q z I' R' M' ∧ eqI [3, 8, 9, 10, 11, 16, 20, 25, 26, 47, 48, 50, 51, 52, 53, 54, 55, 56, 57, 58, 59, 60, 61, 65, 66, 67, 68, 69, 70, 71, 72] I I' ∧ eqR [1, 2, 4, 5, 6, 7, 12, 21, 22, 27, 28, 29, 30, 31, 32, 33, 34, 35, 36, 37, 38, 39, 40, 41, 42, 43, 44, 45, 46] R R' ∧ I' 47 = some (nI e9.1) ∧ I' 48 = some (nI e9.2))) := by
  refine pt_in (b := mb_230 g) rfl (fun kf => ?_)
  show pl (mT g) kf (mb_230 g).2 (0, [(0, .ref m0), (1, .ref (q 13)), (2, .int (nI n))], [], M) _
  have hEI : eqI [3, 8, 9, 10, 11, 16, 20, 25, 26, 47, 48, 50, 51, 52, 53, 54, 55, 56, 57, 58, 59, 60, 61, 65, 66, 67, 68, 69, 70, 71, 72] I I := eqI.rf
  have hER : eqR [1, 2, 4, 5, 6, 7, 12, 21, 22, 27, 28, 29, 30, 31, 32, 33, 34, 35, 36, 37, 38, 39, 40, 41, 42, 43, 44, 45, 46] R R := eqR.rf
  have LL : ∀ (kf : Nat), (∀ (i : Nat) (tx : List (List Nat)) (cN : Nat) (A : Nat → Nat) (s1 s2 s3 : Nat) (M1 : mi_H) (I1 : rI) (R1 : rR), (RS g m0 q z I1 R1 M1) → (eqI [3, 8, 9, 10, 11, 16, 20, 25, 26, 47, 48, 50, 51, 52, 53, 54, 55, 56, 57, 58, 59, 60, 61, 65, 66, 67, 68, 69, 70, 71, 72] I I1) → (eqR [1, 2, 4, 5, 6, 7, 12, 21, 22, 27, 28, 29, 30, 31, 32, 33, 34, 35, 36, 37, 38, 39, 40, 41, 42, 43, 44, 45, 46] R R1) → (I1 49 = some 0) → (I1 16 = some (nI n)) → (I1 20 = some 0) → (I1 25 = some 0) → (I1 26 = some 0) → (I1 9 = some (nI s1)) → (I1 10 = some (nI s2)) → (I1 11 = some (nI s3)) → (BX 13 n f I1 R1) → (KX I1 R1) → (SYT tx cN A I1 R1) → (BX 12 i f I1 R1) → (i ≤ n) → (s1 < tx.length ∧ tx.getD s1 [] = ltx 25) → (s2 < tx.length ∧ tx.getD s2 [] = ltx 26) → (s3 < tx.length ∧ tx.getD s3 [] = ltx 27) →  pl (mT g) kf (mb_230 g).2 (11, [(0, .ref m0), (1, .ref (q 13)), (2, .int (nI n)), (3, .int (nI i))], [], M1) (fun v M' => (∃  (I' : rI) (R' : rR), (s_read f n = none) ∧ v = some (.int 1) ∧ RS g m0 q z I' R' M' ∧ eqI [3, 8, 9, 10, 11, 16, 20, 25, 26, 47, 48, 50, 51, 52, 53, 54, 55, 56, 57, 58, 59, 60, 61, 65, 66, 67, 68, 69, 70, 71, 72] I I' ∧ eqR [1, 2, 4, 5, 6, 7, 12, 21, 22, 27, 28, 29, 30, 31, 32, 33, 34, 35, 36, 37, 38, 39, 40, 41, 42, 43, 44, 45, 46] R R' ∧ XKV f n I' R') ∨ (∃ (e9 : Nat × Nat) (I' : rI) (R' : rR), (s_read f n = some e9) ∧ v = some (.int 0) ∧ RS g m0 q z I' R' M' ∧ eqI [3, 8, 9, 10, 11, 16, 20, 25, 26, 47, 48, 50, 51, 52, 53, 54, 55, 56, 57, 58, 59, 60, 61, 65, 66, 67, 68, 69, 70, 71, 72] I I' ∧ eqR [1, 2, 4, 5, 6, 7, 12, 21, 22, 27, 28, 29, 30, 31, 32, 33, 34, 35, 36, 37, 38, 39, 40, 41, 42, 43, 44, 45, 46] R R' ∧ I' 47 = some (nI e9.1) ∧ I' 48 = some (nI e9.2)))) := by
    intro kf
    induction kf with
    | zero => exact (by intros; exact pl_0)
    | succ kf ih =>
      intro i tx cN A s1 s2 s3 M1 I1 R1 hR1 hEI1 hER1 hl49 hl16 hl20 hl25 hl26 hl9 hl10 hl11 hB1 hK1 hY1 hC1 hi hs1 hs2 hs3
      refine ps_st1 (S' := (12, [(0, .ref m0), (1, .ref (q 13)), (2, .int (nI n)), (3, .int (nI i))], [.int (nI i)], M1)) rfl rfl rfl ?_
      refine ps_st (S' := (13, [(0, .ref m0), (1, .ref (q 13)), (2, .int (nI n)), (3, .int (nI i))], [.int (nI n), .int (nI i)], M1)) rfl rfl rfl ?_
      refine ps_if2 (S1 := (31, [(0, .ref m0), (1, .ref (q 13)), (2, .int (nI n)), (3, .int (nI i))], [], M1)) (S2 := (16, [(0, .ref m0), (1, .ref (q 13)), (2, .int (nI n)), (3, .int (nI i))], [], M1)) rfl rfl rfl (fun c_13 => ?_) (fun c_13 => ?_)
      · have c_13 : (nI n) ≤ (nI i) := of_decide_eq_true c_13
        have n_13 : n ≤ i := (le_nI (p := n) (n := i) (by omega) (by omega)).mp c_13
        refine ps_st (S' := (32, [(0, .ref m0), (1, .ref (q 13)), (2, .int (nI n)), (3, .int (nI i))], [.ref m0], M1)) rfl rfl rfl ?_
        have hF9 : FK n f I1 R1 := ⟨hn, hl49, hl16, fun i9 h9 => (hC1 i9 (by omega)).1⟩
        refine pl_call (a := [.ref m0]) (rest := []) rfl rfl rfl (rd_checkFile2 (n := n) (f := f) (tx := tx) (cN := cN) (A := A) (s1 := s1) (s2 := s2) (s3 := s3) hR1 hl20 hl25 hl26 hl9 hl10 hl11 hF9 hY1 hK1 (hs1) (hs2) (hs3)) (fun v1 M2 q3 => ?_)
        rcases q3 with q3 | q3
        · skip
          obtain ⟨I4, R5, q32_s, rfl, hR6, hI7, hX8, hX_9⟩ := q3
          have hi10 := (hI7 49 (by decide)).trans hl49
          have hi11 := (hI7 16 (by decide)).trans hl16
          have hi12 := (hI7 9 (by decide)).trans hl9
          have hi13 := (hI7 10 (by decide)).trans hl10
          have hi14 := (hI7 11 (by decide)).trans hl11
          have hB_15 := hB1.mono (cIx hI7 (by decide)) (cRx hX8 (by decide))
          have hK_16 := hK1.mono (cIx hI7 (by decide)) (cRx hX8 (by decide))
          have hC_17 := hC1.mono (cIx hI7 (by decide)) (cRx hX8 (by decide))
          have hF_18 := hF9.mono (cIx hI7 (by decide)) (cRx hX8 (by decide))
          have hEI19 := hEI1.tr hI7 (by decide)
          have hER20 := hER1.tr hX8 (by decide)
          show pl _ _ _ (35, [(0, .ref m0), (1, .ref (q 13)), (2, .int (nI n)), (3, .int (nI i))], [.int 1], M2) _
          exact ps_ret rfl rfl (Or.inl ⟨I4, R5, q32_s, rfl, hR6, hEI19, hER20, hX_9⟩)
        · skip
          obtain ⟨e921, I22, R23, q32_s, rfl, hR24, hI25, hX26, hi27, hi28⟩ := q3
          have hi29 := (hI25 49 (by decide)).trans hl49
          have hi30 := (hI25 16 (by decide)).trans hl16
          have hi31 := (hI25 9 (by decide)).trans hl9
          have hi32 := (hI25 10 (by decide)).trans hl10
          have hi33 := (hI25 11 (by decide)).trans hl11
          have hB_34 := hB1.mono (cIx hI25 (by decide)) (cRx hX26 (by decide))
          have hK_35 := hK1.mono (cIx hI25 (by decide)) (cRx hX26 (by decide))
          have hC_36 := hC1.mono (cIx hI25 (by decide)) (cRx hX26 (by decide))
          have hF_37 := hF9.mono (cIx hI25 (by decide)) (cRx hX26 (by decide))
          have hEI38 := hEI1.tr hI25 (by decide)
          have hER39 := hER1.tr hX26 (by decide)
          show pl _ _ _ (35, [(0, .ref m0), (1, .ref (q 13)), (2, .int (nI n)), (3, .int (nI i))], [.int 0], M2) _
          exact ps_ret rfl rfl (Or.inr ⟨e921, I22, R23, q32_s, rfl, hR24, hEI38, hER39, hi27, hi28⟩)
      · have c_13 : ¬ ((nI n) ≤ (nI i)) := of_decide_eq_false c_13
        have n_13 : ¬ (n ≤ i) := fun h9 => c_13 ((le_nI (p := n) (n := i) (by omega) (by omega)).mpr h9)
        refine ps_st (S' := (17, [(0, .ref m0), (1, .ref (q 13)), (2, .int (nI n)), (3, .int (nI i))], [.ref m0], M1)) rfl rfl rfl ?_
        refine pr_ref (j := 12) (S' := (20, [(0, .ref m0), (1, .ref (q 13)), (2, .int (nI n)), (3, .int (nI i))], [.ref (q 12)], M1)) rfl hR1 rfl rfl ?_
        refine ps_st (S' := (21, [(0, .ref m0), (1, .ref (q 13)), (2, .int (nI n)), (3, .int (nI i))], [.int (nI i), .ref (q 12)], M1)) rfl rfl rfl ?_
        refine ps_st (S' := (22, [(0, .ref m0), (1, .ref (q 13)), (2, .int (nI n)), (3, .int (nI i))], [.ref (q 13), .int (nI i), .ref (q 12)], M1)) rfl rfl rfl ?_
        refine ps_st (S' := (23, [(0, .ref m0), (1, .ref (q 13)), (2, .int (nI n)), (3, .int (nI i))], [.int (nI i), .ref (q 13), .int (nI i), .ref (q 12)], M1)) rfl rfl rfl ?_
        refine pr_ld (a := 13) (j := i) (y := (f i)) (S' := (24, [(0, .ref m0), (1, .ref (q 13)), (2, .int (nI n)), (3, .int (nI i))], [.int (f i), .int (nI i), .ref (q 12)], M1)) rfl hR1 rfl (by omega) (fun _ => (hB1 i (by omega)).1) rfl (fun i1_23 => ?_)
        refine pr_st (a := 12) (j := i) rfl hR1 rfl (by omega) (fun M40 R41 i1_24 hR42 hS43 => ?_)
        have hB_44 := hB1.mono (fun _ _ => rfl) (rRx hS43 (by decide))
        have hK_45 := hK1.mono (fun _ _ => rfl) (rRx hS43 (by decide))
        have hY_46 := hY1.mono (fun _ _ => rfl) (rRx hS43 (by decide))
        have hER47 := hER1.st hS43 (by decide)
        show pl _ _ _ (25, [(0, .ref m0), (1, .ref (q 13)), (2, .int (nI n)), (3, .int (nI i))], [], M40) _
        have hC_48 : BX 12 (i + 1) f I1 R41 := BX.st hC1 hS43 (hB1 i (by omega)).2 rfl
        refine ps_st (S' := (28, [(3, .int ((nI i) + 1)), (0, .ref m0), (1, .ref (q 13)), (2, .int (nI n))], [], M40)) rfl rfl rfl ?_
        rw [nI_add1 (p := i) (k := 1) (x := 1) rfl (by omega)]
        show pl _ _ _ (_, [(3, .int (nI (i + 1))), (0, .ref m0), (1, .ref (q 13)), (2, .int (nI n))], [], M40) _
        refine ps_st (S' := (11, [(0, .ref m0), (1, .ref (q 13)), (2, .int (nI n)), (3, .int (nI (i + 1)))], [], M40)) rfl rfl rfl ?_
        exact ih (i + 1) (tx) (cN) (A) (s1) (s2) (s3) M40 I1 R41 hR42 hEI1 hER47 hl49 hl16 hl20 hl25 hl26 hl9 hl10 hl11 hB_44 hK_45 hY_46 hC_48 (by omega) (hs1) (hs2) (hs3)
  refine ps_st (S' := (1, [(0, .ref m0), (1, .ref (q 13)), (2, .int (nI n))], [.ref m0], M)) rfl rfl rfl ?_
  refine pl_call (a := [.ref m0]) (rest := []) rfl rfl rfl (rd_clear hR) (fun v49 M50 q51 => ?_)
  obtain ⟨tx52, cN53, A54, s155, s256, s357, I58, R59, q1_s, rfl, hR60, hI61, hX62, hi63, hi64, hi65, hi66, hi67, hi68, hY_69⟩ := q51
  have hi70 := (hI61 49 (by decide)).trans hi49
  have hB_71 := hB.mono (cIx hI61 (by decide)) (cRx hX62 (by decide))
  have hK_72 := hK.mono (cIx hI61 (by decide)) (cRx hX62 (by decide))
  have hEI73 := hEI.tr hI61 (by decide)
  have hER74 := hER.tr hX62 (by decide)
  show pl _ _ _ (4, [(0, .ref m0), (1, .ref (q 13)), (2, .int (nI n))], [], M50) _
  refine ps_st (S' := (5, [(0, .ref m0), (1, .ref (q 13)), (2, .int (nI n))], [.ref m0], M50)) rfl rfl rfl ?_
  refine ps_st (S' := (6, [(0, .ref m0), (1, .ref (q 13)), (2, .int (nI n))], [.int (nI n), .ref m0], M50)) rfl rfl rfl ?_
  refine pr_put (j := 16) rfl hR60 rfl (fun M75 I76 hR77 hi78 hI79 => ?_)
  have hi80 := (hI79 49 (by decide)).trans hi70
  have hi81 := (hI79 9 (by decide)).trans hi63
  have hi82 := (hI79 10 (by decide)).trans hi64
  have hi83 := (hI79 11 (by decide)).trans hi65
  have hi84 := (hI79 20 (by decide)).trans hi66
  have hi85 := (hI79 25 (by decide)).trans hi67
  have hi86 := (hI79 26 (by decide)).trans hi68
  have hB_87 := hB_71.mono (pIx hI79 (by decide)) (fun _ _ => rfl)
  have hK_88 := hK_72.mono (pIx hI79 (by decide)) (fun _ _ => rfl)
  have hY_89 := hY_69.mono (pIx hI79 (by decide)) (fun _ _ => rfl)
  have hEI90 := hEI73.put hI79 (by decide)
  show pl _ _ _ (9, [(0, .ref m0), (1, .ref (q 13)), (2, .int (nI n))], [], M75) _
  refine ps_st (S' := (10, [(0, .ref m0), (1, .ref (q 13)), (2, .int (nI n))], [.int 0], M75)) rfl rfl rfl ?_
  refine ps_st (S' := (11, [(0, .ref m0), (1, .ref (q 13)), (2, .int (nI n)), (3, .int 0)], [], M75)) rfl rfl rfl ?_
  have hC0 : BX 12 0 f I76 R59 := fun i9 h9 => absurd h9 (Nat.not_lt_zero _)
  exact (LL kf) (0) (tx52) (cN53) (A54) (s155) (s256) (s357) M75 I76 R59 hR77 hEI90 hER74 hi80 hi78 hi84 hi85 hi86 hi81 hi82 hi83 hB_87 hK_88 hY_89 hC0 (by omega) (⟨q1_s.1, q1_s.2.1⟩) (⟨q1_s.2.2.1, q1_s.2.2.2.1⟩) (⟨q1_s.2.2.2.2.1, q1_s.2.2.2.2.2⟩)
set_option maxHeartbeats 4000000 in
theorem rd_parse14b {g : xe_G} {m0 : Nat} {q : Nat → Nat} {z : Nat × Nat} {I : rI} {R : rR} {M : mi_H} {n : Nat} {f : Nat → Int32} (hR : RS g m0 q z I R M) (hi49 : I 49 = some 0) (hB : BX 14 n f I R) (hK : KX I R) (hn : n ≤ 65540) : pt (mT g) 230 [.ref m0, .ref (q 14), .int (nI n)] M (fun v M' => (∃  (I' : rI) (R' : rR), (s_read f n = none) ∧ v = some (.int 1) ∧ RS g m0 q z I' R' M' ∧ eqI [3, 8, 9, 10, 11, 16, 20, 25, 26, 47, 48, 50, 51, 52, 53, 54, 55, 56, 57, 58, 59, 60, 61, 65, 66, 67, 68, 69, 70, 71, 72] I I' ∧ eqR [1, 2, 4, 5, 6, 7, 12, 21, 22, 27, 28, 29, 30, 31, 32, 33, 34, 35, 36, 37, 38, 39, 40, 41, 42, 43, 44, 45, 46] R R' ∧ XKV f n I' R') ∨ (∃ (e9 : Nat × Nat) (I' : rI) (R' : rR), (s_read f n = some e9) ∧ v = some (.int 0) ∧ RS g m0 q z I' R' M' ∧ eqI [3, 8, 9, 10, 11, 16, 20, 25, 26, 47, 48, 50, 51, 52, 53, 54, 55, 56, 57, 58, 59, 60, 61, 65, 66, 67, 68, 69, 70, 71, 72] I I' ∧ eqR [1, 2, 4, 5, 6, 7, 12, 21, 22, 27, 28, 29, 30, 31, 32, 33, 34, 35, 36, 37, 38, 39, 40, 41, 42, 43, 44, 45, 46] R R' ∧ I' 47 = some (nI e9.1) ∧ I' 48 = some (nI e9.2))) := by
  refine pt_in (b := mb_230 g) rfl (fun kf => ?_)
  show pl (mT g) kf (mb_230 g).2 (0, [(0, .ref m0), (1, .ref (q 14)), (2, .int (nI n))], [], M) _
  have hEI : eqI [3, 8, 9, 10, 11, 16, 20, 25, 26, 47, 48, 50, 51, 52, 53, 54, 55, 56, 57, 58, 59, 60, 61, 65, 66, 67, 68, 69, 70, 71, 72] I I := eqI.rf
  have hER : eqR [1, 2, 4, 5, 6, 7, 12, 21, 22, 27, 28, 29, 30, 31, 32, 33, 34, 35, 36, 37, 38, 39, 40, 41, 42, 43, 44, 45, 46] R R := eqR.rf
  have LL : ∀ (kf : Nat), (∀ (i : Nat) (tx : List (List Nat)) (cN : Nat) (A : Nat → Nat) (s1 s2 s3 : Nat) (M1 : mi_H) (I1 : rI) (R1 : rR), (RS g m0 q z I1 R1 M1) → (eqI [3, 8, 9, 10, 11, 16, 20, 25, 26, 47, 48, 50, 51, 52, 53, 54, 55, 56, 57, 58, 59, 60, 61, 65, 66, 67, 68, 69, 70, 71, 72] I I1) → (eqR [1, 2, 4, 5, 6, 7, 12, 21, 22, 27, 28, 29, 30, 31, 32, 33, 34, 35, 36, 37, 38, 39, 40, 41, 42, 43, 44, 45, 46] R R1) → (I1 49 = some 0) → (I1 16 = some (nI n)) → (I1 20 = some 0) → (I1 25 = some 0) → (I1 26 = some 0) → (I1 9 = some (nI s1)) → (I1 10 = some (nI s2)) → (I1 11 = some (nI s3)) → (BX 14 n f I1 R1) → (KX I1 R1) → (SYT tx cN A I1 R1) → (BX 12 i f I1 R1) → (i ≤ n) → (s1 < tx.length ∧ tx.getD s1 [] = ltx 25) → (s2 < tx.length ∧ tx.getD s2 [] = ltx 26) → (s3 < tx.length ∧ tx.getD s3 [] = ltx 27) →  pl (mT g) kf (mb_230 g).2 (11, [(0, .ref m0), (1, .ref (q 14)), (2, .int (nI n)), (3, .int (nI i))], [], M1) (fun v M' => (∃  (I' : rI) (R' : rR), (s_read f n = none) ∧ v = some (.int 1) ∧ RS g m0 q z I' R' M' ∧ eqI [3, 8, 9, 10, 11, 16, 20, 25, 26, 47, 48, 50, 51, 52, 53, 54, 55, 56, 57, 58, 59, 60, 61, 65, 66, 67, 68, 69, 70, 71, 72] I I' ∧ eqR [1, 2, 4, 5, 6, 7, 12, 21, 22, 27, 28, 29, 30, 31, 32, 33, 34, 35, 36, 37, 38, 39, 40, 41, 42, 43, 44, 45, 46] R R' ∧ XKV f n I' R') ∨ (∃ (e9 : Nat × Nat) (I' : rI) (R' : rR), (s_read f n = some e9) ∧ v = some (.int 0) ∧ RS g m0 q z I' R' M' ∧ eqI [3, 8, 9, 10, 11, 16, 20, 25, 26, 47, 48, 50, 51, 52, 53, 54, 55, 56, 57, 58, 59, 60, 61, 65, 66, 67, 68, 69, 70, 71, 72] I I' ∧ eqR [1, 2, 4, 5, 6, 7, 12, 21, 22, 27, 28, 29, 30, 31, 32, 33, 34, 35, 36, 37, 38, 39, 40, 41, 42, 43, 44, 45, 46] R R' ∧ I' 47 = some (nI e9.1) ∧ I' 48 = some (nI e9.2)))) := by
    intro kf
    induction kf with
    | zero => exact (by intros; exact pl_0)
    | succ kf ih =>
      intro i tx cN A s1 s2 s3 M1 I1 R1 hR1 hEI1 hER1 hl49 hl16 hl20 hl25 hl26 hl9 hl10 hl11 hB1 hK1 hY1 hC1 hi hs1 hs2 hs3
      refine ps_st1 (S' := (12, [(0, .ref m0), (1, .ref (q 14)), (2, .int (nI n)), (3, .int (nI i))], [.int (nI i)], M1)) rfl rfl rfl ?_
      refine ps_st (S' := (13, [(0, .ref m0), (1, .ref (q 14)), (2, .int (nI n)), (3, .int (nI i))], [.int (nI n), .int (nI i)], M1)) rfl rfl rfl ?_
      refine ps_if2 (S1 := (31, [(0, .ref m0), (1, .ref (q 14)), (2, .int (nI n)), (3, .int (nI i))], [], M1)) (S2 := (16, [(0, .ref m0), (1, .ref (q 14)), (2, .int (nI n)), (3, .int (nI i))], [], M1)) rfl rfl rfl (fun c_13 => ?_) (fun c_13 => ?_)
      · have c_13 : (nI n) ≤ (nI i) := of_decide_eq_true c_13
        have n_13 : n ≤ i := (le_nI (p := n) (n := i) (by omega) (by omega)).mp c_13
        refine ps_st (S' := (32, [(0, .ref m0), (1, .ref (q 14)), (2, .int (nI n)), (3, .int (nI i))], [.ref m0], M1)) rfl rfl rfl ?_
        have hF9 : FK n f I1 R1 := ⟨hn, hl49, hl16, fun i9 h9 => (hC1 i9 (by omega)).1⟩
        refine pl_call (a := [.ref m0]) (rest := []) rfl rfl rfl (rd_checkFile2 (n := n) (f := f) (tx := tx) (cN := cN) (A := A) (s1 := s1) (s2 := s2) (s3 := s3) hR1 hl20 hl25 hl26 hl9 hl10 hl11 hF9 hY1 hK1 (hs1) (hs2) (hs3)) (fun v1 M2 q3 => ?_)
        rcases q3 with q3 | q3
        · skip
          obtain ⟨I4, R5, q32_s, rfl, hR6, hI7, hX8, hX_9⟩ := q3
          have hi10 := (hI7 49 (by decide)).trans hl49
          have hi11 := (hI7 16 (by decide)).trans hl16
          have hi12 := (hI7 9 (by decide)).trans hl9
          have hi13 := (hI7 10 (by decide)).trans hl10
          have hi14 := (hI7 11 (by decide)).trans hl11
          have hB_15 := hB1.mono (cIx hI7 (by decide)) (cRx hX8 (by decide))
          have hK_16 := hK1.mono (cIx hI7 (by decide)) (cRx hX8 (by decide))
          have hC_17 := hC1.mono (cIx hI7 (by decide)) (cRx hX8 (by decide))
          have hF_18 := hF9.mono (cIx hI7 (by decide)) (cRx hX8 (by decide))
          have hEI19 := hEI1.tr hI7 (by decide)
          have hER20 := hER1.tr hX8 (by decide)
          show pl _ _ _ (35, [(0, .ref m0), (1, .ref (q 14)), (2, .int (nI n)), (3, .int (nI i))], [.int 1], M2) _
          exact ps_ret rfl rfl (Or.inl ⟨I4, R5, q32_s, rfl, hR6, hEI19, hER20, hX_9⟩)
        · skip
          obtain ⟨e921, I22, R23, q32_s, rfl, hR24, hI25, hX26, hi27, hi28⟩ := q3
          have hi29 := (hI25 49 (by decide)).trans hl49
          have hi30 := (hI25 16 (by decide)).trans hl16
          have hi31 := (hI25 9 (by decide)).trans hl9
          have hi32 := (hI25 10 (by decide)).trans hl10
          have hi33 := (hI25 11 (by decide)).trans hl11
          have hB_34 := hB1.mono (cIx hI25 (by decide)) (cRx hX26 (by decide))
          have hK_35 := hK1.mono (cIx hI25 (by decide)) (cRx hX26 (by decide))
          have hC_36 := hC1.mono (cIx hI25 (by decide)) (cRx hX26 (by decide))
          have hF_37 := hF9.mono (cIx hI25 (by decide)) (cRx hX26 (by decide))
          have hEI38 := hEI1.tr hI25 (by decide)
          have hER39 := hER1.tr hX26 (by decide)
          show pl _ _ _ (35, [(0, .ref m0), (1, .ref (q 14)), (2, .int (nI n)), (3, .int (nI i))], [.int 0], M2) _
          exact ps_ret rfl rfl (Or.inr ⟨e921, I22, R23, q32_s, rfl, hR24, hEI38, hER39, hi27, hi28⟩)
      · have c_13 : ¬ ((nI n) ≤ (nI i)) := of_decide_eq_false c_13
        have n_13 : ¬ (n ≤ i) := fun h9 => c_13 ((le_nI (p := n) (n := i) (by omega) (by omega)).mpr h9)
        refine ps_st (S' := (17, [(0, .ref m0), (1, .ref (q 14)), (2, .int (nI n)), (3, .int (nI i))], [.ref m0], M1)) rfl rfl rfl ?_
        refine pr_ref (j := 12) (S' := (20, [(0, .ref m0), (1, .ref (q 14)), (2, .int (nI n)), (3, .int (nI i))], [.ref (q 12)], M1)) rfl hR1 rfl rfl ?_
        refine ps_st (S' := (21, [(0, .ref m0), (1, .ref (q 14)), (2, .int (nI n)), (3, .int (nI i))], [.int (nI i), .ref (q 12)], M1)) rfl rfl rfl ?_
        refine ps_st (S' := (22, [(0, .ref m0), (1, .ref (q 14)), (2, .int (nI n)), (3, .int (nI i))], [.ref (q 14), .int (nI i), .ref (q 12)], M1)) rfl rfl rfl ?_
        refine ps_st (S' := (23, [(0, .ref m0), (1, .ref (q 14)), (2, .int (nI n)), (3, .int (nI i))], [.int (nI i), .ref (q 14), .int (nI i), .ref (q 12)], M1)) rfl rfl rfl ?_
        refine pr_ld (a := 14) (j := i) (y := (f i)) (S' := (24, [(0, .ref m0), (1, .ref (q 14)), (2, .int (nI n)), (3, .int (nI i))], [.int (f i), .int (nI i), .ref (q 12)], M1)) rfl hR1 rfl (by omega) (fun _ => (hB1 i (by omega)).1) rfl (fun i1_23 => ?_)
        refine pr_st (a := 12) (j := i) rfl hR1 rfl (by omega) (fun M40 R41 i1_24 hR42 hS43 => ?_)
        have hB_44 := hB1.mono (fun _ _ => rfl) (rRx hS43 (by decide))
        have hK_45 := hK1.mono (fun _ _ => rfl) (rRx hS43 (by decide))
        have hY_46 := hY1.mono (fun _ _ => rfl) (rRx hS43 (by decide))
        have hER47 := hER1.st hS43 (by decide)
        show pl _ _ _ (25, [(0, .ref m0), (1, .ref (q 14)), (2, .int (nI n)), (3, .int (nI i))], [], M40) _
        have hC_48 : BX 12 (i + 1) f I1 R41 := BX.st hC1 hS43 (hB1 i (by omega)).2 rfl
        refine ps_st (S' := (28, [(3, .int ((nI i) + 1)), (0, .ref m0), (1, .ref (q 14)), (2, .int (nI n))], [], M40)) rfl rfl rfl ?_
        rw [nI_add1 (p := i) (k := 1) (x := 1) rfl (by omega)]
        show pl _ _ _ (_, [(3, .int (nI (i + 1))), (0, .ref m0), (1, .ref (q 14)), (2, .int (nI n))], [], M40) _
        refine ps_st (S' := (11, [(0, .ref m0), (1, .ref (q 14)), (2, .int (nI n)), (3, .int (nI (i + 1)))], [], M40)) rfl rfl rfl ?_
        exact ih (i + 1) (tx) (cN) (A) (s1) (s2) (s3) M40 I1 R41 hR42 hEI1 hER47 hl49 hl16 hl20 hl25 hl26 hl9 hl10 hl11 hB_44 hK_45 hY_46 hC_48 (by omega) (hs1) (hs2) (hs3)
  refine ps_st (S' := (1, [(0, .ref m0), (1, .ref (q 14)), (2, .int (nI n))], [.ref m0], M)) rfl rfl rfl ?_
  refine pl_call (a := [.ref m0]) (rest := []) rfl rfl rfl (rd_clear hR) (fun v49 M50 q51 => ?_)
  obtain ⟨tx52, cN53, A54, s155, s256, s357, I58, R59, q1_s, rfl, hR60, hI61, hX62, hi63, hi64, hi65, hi66, hi67, hi68, hY_69⟩ := q51
  have hi70 := (hI61 49 (by decide)).trans hi49
  have hB_71 := hB.mono (cIx hI61 (by decide)) (cRx hX62 (by decide))
  have hK_72 := hK.mono (cIx hI61 (by decide)) (cRx hX62 (by decide))
  have hEI73 := hEI.tr hI61 (by decide)
  have hER74 := hER.tr hX62 (by decide)
  show pl _ _ _ (4, [(0, .ref m0), (1, .ref (q 14)), (2, .int (nI n))], [], M50) _
  refine ps_st (S' := (5, [(0, .ref m0), (1, .ref (q 14)), (2, .int (nI n))], [.ref m0], M50)) rfl rfl rfl ?_
  refine ps_st (S' := (6, [(0, .ref m0), (1, .ref (q 14)), (2, .int (nI n))], [.int (nI n), .ref m0], M50)) rfl rfl rfl ?_
  refine pr_put (j := 16) rfl hR60 rfl (fun M75 I76 hR77 hi78 hI79 => ?_)
  have hi80 := (hI79 49 (by decide)).trans hi70
  have hi81 := (hI79 9 (by decide)).trans hi63
  have hi82 := (hI79 10 (by decide)).trans hi64
  have hi83 := (hI79 11 (by decide)).trans hi65
  have hi84 := (hI79 20 (by decide)).trans hi66
  have hi85 := (hI79 25 (by decide)).trans hi67
  have hi86 := (hI79 26 (by decide)).trans hi68
  have hB_87 := hB_71.mono (pIx hI79 (by decide)) (fun _ _ => rfl)
  have hK_88 := hK_72.mono (pIx hI79 (by decide)) (fun _ _ => rfl)
  have hY_89 := hY_69.mono (pIx hI79 (by decide)) (fun _ _ => rfl)
  have hEI90 := hEI73.put hI79 (by decide)
  show pl _ _ _ (9, [(0, .ref m0), (1, .ref (q 14)), (2, .int (nI n))], [], M75) _
  refine ps_st (S' := (10, [(0, .ref m0), (1, .ref (q 14)), (2, .int (nI n))], [.int 0], M75)) rfl rfl rfl ?_
  refine ps_st (S' := (11, [(0, .ref m0), (1, .ref (q 14)), (2, .int (nI n)), (3, .int 0)], [], M75)) rfl rfl rfl ?_
  have hC0 : BX 12 0 f I76 R59 := fun i9 h9 => absurd h9 (Nat.not_lt_zero _)
  exact (LL kf) (0) (tx52) (cN53) (A54) (s155) (s256) (s357) M75 I76 R59 hR77 hEI90 hER74 hi80 hi78 hi84 hi85 hi86 hi81 hi82 hi83 hB_87 hK_88 hY_89 hC0 (by omega) (⟨q1_s.1, q1_s.2.1⟩) (⟨q1_s.2.2.1, q1_s.2.2.2.1⟩) (⟨q1_s.2.2.2.2.1, q1_s.2.2.2.2.2⟩)
set_option maxHeartbeats 4000000 in
theorem rd_read2a {g : xe_G} {m0 : Nat} {q : Nat → Nat} {z : Nat × Nat} {I : rI} {R : rR} {M : mi_H} {n : Nat} {f : Nat → Int32} {kn : Int32} (hR : RS g m0 q z I R M) (hi49 : I 49 = some 0) (hi17 : I 17 = some (nI n)) (hi18 : I 18 = some kn) (hB : BX 13 n f I R) (hK : KX I R) (hn : n ≤ 65540) (hk : kn < 0) : pt (mT g) 236 [.ref m0] M (fun v M' => (∃  (I' : rI) (R' : rR), (s_read f n = none) ∧ v = some (.int 0) ∧ RS g m0 q z I' R' M' ∧ eqI [0, 3, 8, 9, 10, 11, 16, 17, 18, 20, 25, 26, 47, 48, 50, 51, 52, 53, 54, 55, 56, 57, 58, 59, 60, 61, 65, 66, 67, 68, 69, 70, 71, 72, 73, 74] I I' ∧ eqR [1, 2, 4, 5, 6, 7, 12, 14, 21, 22, 27, 28, 29, 30, 31, 32, 33, 34, 35, 36, 37, 38, 39, 40, 41, 42, 43, 44, 45, 46] R R' ∧ I' 73 = some (-1) ∧ I' 17 = some (nI 0) ∧ I' 18 = some (nI n) ∧ XKV f n I' R' ∧ BX 14 n f I' R') ∨ (∃ (e9 : Nat × Nat) (I' : rI) (R' : rR), (s_read f n = some e9) ∧ v = some (.int (nI e9.1)) ∧ RS g m0 q z I' R' M' ∧ eqI [0, 3, 8, 9, 10, 11, 16, 17, 18, 20, 25, 26, 47, 48, 50, 51, 52, 53, 54, 55, 56, 57, 58, 59, 60, 61, 65, 66, 67, 68, 69, 70, 71, 72, 73, 74] I I' ∧ eqR [1, 2, 4, 5, 6, 7, 12, 14, 21, 22, 27, 28, 29, 30, 31, 32, 33, 34, 35, 36, 37, 38, 39, 40, 41, 42, 43, 44, 45, 46] R R' ∧ I' 73 = some (nI e9.2) ∧ I' 17 = some (nI 0) ∧ I' 18 = some kn)) := by
  refine pt_in (b := mb_236 g) rfl (fun kf => ?_)
  show pl (mT g) kf (mb_236 g).2 (0, [(0, .ref m0)], [], M) _
  have hEI : eqI [0, 3, 8, 9, 10, 11, 16, 17, 18, 20, 25, 26, 47, 48, 50, 51, 52, 53, 54, 55, 56, 57, 58, 59, 60, 61, 65, 66, 67, 68, 69, 70, 71, 72, 73, 74] I I := eqI.rf
  have hER : eqR [1, 2, 4, 5, 6, 7, 12, 14, 21, 22, 27, 28, 29, 30, 31, 32, 33, 34, 35, 36, 37, 38, 39, 40, 41, 42, 43, 44, 45, 46] R R := eqR.rf
  have LL : ∀ (kf : Nat), (∀ (i : Nat) (M1 : mi_H) (I1 : rI) (R1 : rR), (RS g m0 q z I1 R1 M1) → (eqI [0, 3, 8, 9, 10, 11, 16, 17, 18, 20, 25, 26, 47, 48, 50, 51, 52, 53, 54, 55, 56, 57, 58, 59, 60, 61, 65, 66, 67, 68, 69, 70, 71, 72, 73, 74] I I1) → (eqR [1, 2, 4, 5, 6, 7, 12, 14, 21, 22, 27, 28, 29, 30, 31, 32, 33, 34, 35, 36, 37, 38, 39, 40, 41, 42, 43, 44, 45, 46] R R1) → (I1 17 = some (nI n)) → (I1 73 = some (-1)) → (BX 13 n f I1 R1) → (BX 14 i f I1 R1) → (XKV f n I1 R1) → (i ≤ n) → (s_read f n = none) →  pl (mT g) kf (mb_236 g).2 (53, [(0, .ref m0), (2, .int 0), (3, .int (nI i))], [], M1) (fun v M' => (∃  (I' : rI) (R' : rR), (s_read f n = none) ∧ v = some (.int 0) ∧ RS g m0 q z I' R' M' ∧ eqI [0, 3, 8, 9, 10, 11, 16, 17, 18, 20, 25, 26, 47, 48, 50, 51, 52, 53, 54, 55, 56, 57, 58, 59, 60, 61, 65, 66, 67, 68, 69, 70, 71, 72, 73, 74] I I' ∧ eqR [1, 2, 4, 5, 6, 7, 12, 14, 21, 22, 27, 28, 29, 30, 31, 32, 33, 34, 35, 36, 37, 38, 39, 40, 41, 42, 43, 44, 45, 46] R R' ∧ I' 73 = some (-1) ∧ I' 17 = some (nI 0) ∧ I' 18 = some (nI n) ∧ XKV f n I' R' ∧ BX 14 n f I' R') ∨ (∃ (e9 : Nat × Nat) (I' : rI) (R' : rR), (s_read f n = some e9) ∧ v = some (.int (nI e9.1)) ∧ RS g m0 q z I' R' M' ∧ eqI [0, 3, 8, 9, 10, 11, 16, 17, 18, 20, 25, 26, 47, 48, 50, 51, 52, 53, 54, 55, 56, 57, 58, 59, 60, 61, 65, 66, 67, 68, 69, 70, 71, 72, 73, 74] I I' ∧ eqR [1, 2, 4, 5, 6, 7, 12, 14, 21, 22, 27, 28, 29, 30, 31, 32, 33, 34, 35, 36, 37, 38, 39, 40, 41, 42, 43, 44, 45, 46] R R' ∧ I' 73 = some (nI e9.2) ∧ I' 17 = some (nI 0) ∧ I' 18 = some kn))) := by
    intro kf
    induction kf with
    | zero => exact (by intros; exact pl_0)
    | succ kf ih =>
      intro i M1 I1 R1 hR1 hEI1 hER1 hl17 hl73 hB1 hD1 hX1 hi hr
      refine ps_st1 (S' := (54, [(0, .ref m0), (2, .int 0), (3, .int (nI i))], [.int (nI i)], M1)) rfl rfl rfl ?_
      refine ps_st (S' := (55, [(0, .ref m0), (2, .int 0), (3, .int (nI i))], [.ref m0, .int (nI i)], M1)) rfl rfl rfl ?_
      refine pr_int (j := 17) (S' := (58, [(0, .ref m0), (2, .int 0), (3, .int (nI i))], [.int (nI n), .int (nI i)], M1)) rfl hR1 rfl hl17 rfl ?_
      refine ps_if2 (S1 := (79, [(0, .ref m0), (2, .int 0), (3, .int (nI i))], [], M1)) (S2 := (61, [(0, .ref m0), (2, .int 0), (3, .int (nI i))], [], M1)) rfl rfl rfl (fun c_58 => ?_) (fun c_58 => ?_)
      · have c_58 : (nI n) ≤ (nI i) := of_decide_eq_true c_58
        have n_58 : n ≤ i := (le_nI (p := n) (n := i) (by omega) (by omega)).mp c_58
        refine ps_st (S' := (80, [(0, .ref m0), (2, .int 0), (3, .int (nI i))], [.ref m0], M1)) rfl rfl rfl ?_
        refine ps_st (S' := (81, [(0, .ref m0), (2, .int 0), (3, .int (nI i))], [.ref m0, .ref m0], M1)) rfl rfl rfl ?_
        refine pr_int (j := 17) (S' := (84, [(0, .ref m0), (2, .int 0), (3, .int (nI i))], [.int (nI n), .ref m0], M1)) rfl hR1 rfl hl17 rfl ?_
        refine pr_put (j := 18) rfl hR1 rfl (fun M1 I2 hR3 hi4 hI5 => ?_)
        have hi6 := (hI5 17 (by decide)).trans hl17
        have hi7 := (hI5 73 (by decide)).trans hl73
        have hB_8 := hB1.mono (pIx hI5 (by decide)) (fun _ _ => rfl)
        have hD_9 := hD1.mono (pIx hI5 (by decide)) (fun _ _ => rfl)
        have hX_10 := hX1.mono (pIx hI5 (by decide)) (fun _ _ => rfl)
        have hEI11 := hEI1.put hI5 (by decide)
        show pl _ _ _ (87, [(0, .ref m0), (2, .int 0), (3, .int (nI i))], [], M1) _
        refine ps_st (S' := (110, [(0, .ref m0), (2, .int 0)], [], M1)) rfl rfl rfl ?_
        refine ps_st (S' := (111, [(0, .ref m0), (2, .int 0)], [.ref m0], M1)) rfl rfl rfl ?_
        refine ps_st (S' := (112, [(0, .ref m0), (2, .int 0)], [.int (-1), .ref m0], M1)) rfl rfl rfl ?_
        refine pr_put (j := 74) rfl hR3 rfl (fun M12 I13 hR14 hi15 hI16 => ?_)
        have hi19 := (hI16 17 (by decide)).trans hi6
        have hi20 := (hI16 73 (by decide)).trans hi7
        have hi21 := (hI16 18 (by decide)).trans hi4
        have hB_22 := hB_8.mono (pIx hI16 (by decide)) (fun _ _ => rfl)
        have hD_23 := hD_9.mono (pIx hI16 (by decide)) (fun _ _ => rfl)
        have hX_24 := hX_10.mono (pIx hI16 (by decide)) (fun _ _ => rfl)
        have hEI25 := hEI11.put hI16 (by decide)
        show pl _ _ _ (115, [(0, .ref m0), (2, .int 0)], [], M12) _
        refine ps_st (S' := (116, [(0, .ref m0), (2, .int 0)], [.ref m0], M12)) rfl rfl rfl ?_
        refine ps_st (S' := (117, [(0, .ref m0), (2, .int 0)], [.int 0, .ref m0], M12)) rfl rfl rfl ?_
        refine pr_put (j := 17) rfl hR14 rfl (fun M26 I27 hR28 hi29 hI30 => ?_)
        have hi31 := (hI30 73 (by decide)).trans hi20
        have hi32 := (hI30 18 (by decide)).trans hi21
        have hi33 := (hI30 74 (by decide)).trans hi15
        have hB_34 := hB_22.mono (pIx hI30 (by decide)) (fun _ _ => rfl)
        have hD_35 := hD_23.mono (pIx hI30 (by decide)) (fun _ _ => rfl)
        have hX_36 := hX_24.mono (pIx hI30 (by decide)) (fun _ _ => rfl)
        have hEI37 := hEI25.put hI30 (by decide)
        show pl _ _ _ (120, [(0, .ref m0), (2, .int 0)], [], M26) _
        refine ps_st (S' := (121, [(0, .ref m0), (2, .int 0)], [.int 0], M26)) rfl rfl rfl ?_
        exact ps_ret rfl rfl (Or.inl ⟨I27, R1, hr, rfl, hR28, hEI37, hER1, hi31, hi29, hi32, hX_36, BX.le hD_35 (by omega)⟩)
      · have c_58 : ¬ ((nI n) ≤ (nI i)) := of_decide_eq_false c_58
        have n_58 : ¬ (n ≤ i) := fun h9 => c_58 ((le_nI (p := n) (n := i) (by omega) (by omega)).mpr h9)
        refine ps_st (S' := (62, [(0, .ref m0), (2, .int 0), (3, .int (nI i))], [.ref m0], M1)) rfl rfl rfl ?_
        refine pr_ref (j := 14) (S' := (65, [(0, .ref m0), (2, .int 0), (3, .int (nI i))], [.ref (q 14)], M1)) rfl hR1 rfl rfl ?_
        refine ps_st (S' := (66, [(0, .ref m0), (2, .int 0), (3, .int (nI i))], [.int (nI i), .ref (q 14)], M1)) rfl rfl rfl ?_
        refine ps_st (S' := (67, [(0, .ref m0), (2, .int 0), (3, .int (nI i))], [.ref m0, .int (nI i), .ref (q 14)], M1)) rfl rfl rfl ?_
        refine pr_ref (j := 13) (S' := (70, [(0, .ref m0), (2, .int 0), (3, .int (nI i))], [.ref (q 13), .int (nI i), .ref (q 14)], M1)) rfl hR1 rfl rfl ?_
        refine ps_st (S' := (71, [(0, .ref m0), (2, .int 0), (3, .int (nI i))], [.int (nI i), .ref (q 13), .int (nI i), .ref (q 14)], M1)) rfl rfl rfl ?_
        refine pr_ld (a := 13) (j := i) (y := (f i)) (S' := (72, [(0, .ref m0), (2, .int 0), (3, .int (nI i))], [.int (f i), .int (nI i), .ref (q 14)], M1)) rfl hR1 rfl (by omega) (fun _ => (hB1 i (by omega)).1) rfl (fun i1_71 => ?_)
        refine pr_st (a := 14) (j := i) rfl hR1 rfl (by omega) (fun M38 R39 i1_72 hR40 hS41 => ?_)
        have hB_42 := hB1.mono (fun _ _ => rfl) (rRx hS41 (by decide))
        have hX_43 := hX1.mono (fun _ _ => rfl) (rRx hS41 (by decide))
        have hER44 := hER1.st hS41 (by decide)
        show pl _ _ _ (73, [(0, .ref m0), (2, .int 0), (3, .int (nI i))], [], M38) _
        have hD_45 : BX 14 (i + 1) f I1 R39 := BX.st hD1 hS41 (hB1 i (by omega)).2 rfl
        refine ps_st (S' := (76, [(3, .int ((nI i) + 1)), (0, .ref m0), (2, .int 0)], [], M38)) rfl rfl rfl ?_
        rw [nI_add1 (p := i) (k := 1) (x := 1) rfl (by omega)]
        show pl _ _ _ (_, [(3, .int (nI (i + 1))), (0, .ref m0), (2, .int 0)], [], M38) _
        refine ps_st (S' := (53, [(0, .ref m0), (2, .int 0), (3, .int (nI (i + 1)))], [], M38)) rfl rfl rfl ?_
        exact ih (i + 1) M38 I1 R39 hR40 hEI1 hER44 hl17 hl73 hB_42 hD_45 hX_43 (by omega) (hr)
  refine ps_st (S' := (1, [(0, .ref m0)], [.ref m0], M)) rfl rfl rfl ?_
  refine ps_st (S' := (2, [(0, .ref m0)], [.int 0, .ref m0], M)) rfl rfl rfl ?_
  refine pr_put (j := 0) rfl hR rfl (fun M46 I47 hR48 hi50 hI51 => ?_)
  have hi52 := (hI51 49 (by decide)).trans hi49
  have hi53 := (hI51 17 (by decide)).trans hi17
  have hi54 := (hI51 18 (by decide)).trans hi18
  have hB_55 := hB.mono (pIx hI51 (by decide)) (fun _ _ => rfl)
  have hK_56 := hK.mono (pIx hI51 (by decide)) (fun _ _ => rfl)
  have hEI57 := hEI.put hI51 (by decide)
  show pl _ _ _ (5, [(0, .ref m0)], [], M46) _
  refine ps_st (S' := (6, [(0, .ref m0)], [.ref m0], M46)) rfl rfl rfl ?_
  refine ps_st (S' := (7, [(0, .ref m0)], [.ref m0, .ref m0], M46)) rfl rfl rfl ?_
  refine pr_ref (j := 13) (S' := (10, [(0, .ref m0)], [.ref (q 13), .ref m0], M46)) rfl hR48 rfl rfl ?_
  refine ps_st (S' := (11, [(0, .ref m0)], [.ref m0, .ref (q 13), .ref m0], M46)) rfl rfl rfl ?_
  refine pr_int (j := 17) (S' := (14, [(0, .ref m0)], [.int (nI n), .ref (q 13), .ref m0], M46)) rfl hR48 rfl hi53 rfl ?_
  refine pl_call (a := [.ref m0, .ref (q 13), .int (nI n)]) (rest := []) rfl rfl rfl (rd_parse13b (n := n) (f := f) hR48 hi52 hB_55 hK_56 (hn)) (fun v58 M59 q60 => ?_)
  rcases q60 with q60 | q60
  · skip
    obtain ⟨I61, R62, q14_s, rfl, hR63, hI64, hX65, hX_66⟩ := q60
    have hi67 := (hI64 49 (by decide)).trans hi52
    have hi68 := (hI64 17 (by decide)).trans hi53
    have hi69 := (hI64 18 (by decide)).trans hi54
    have hi70 := (hI64 0 (by decide)).trans hi50
    have hB_71 := hB_55.mono (cIx hI64 (by decide)) (cRx hX65 (by decide))
    have hK_72 := hK_56.mono (cIx hI64 (by decide)) (cRx hX65 (by decide))
    have hEI73 := hEI57.tr hI64 (by decide)
    have hER74 := hER.tr hX65 (by decide)
    show pl _ _ _ (17, [(0, .ref m0)], [.int 1], M59) _
    refine ps_st (S' := (18, [(1, .int 1), (0, .ref m0)], [], M59)) rfl rfl rfl ?_
    refine ps_st (S' := (19, [(1, .int 1), (0, .ref m0)], [.ref m0], M59)) rfl rfl rfl ?_
    refine ps_st (S' := (20, [(1, .int 1), (0, .ref m0)], [.int 1, .ref m0], M59)) rfl rfl rfl ?_
    refine ps_if (S1 := (27, [(1, .int 1), (0, .ref m0)], [.ref m0], M59)) (S2 := (23, [(1, .int 1), (0, .ref m0)], [.ref m0], M59)) rfl rfl rfl (fun c_20 => ?_) (fun c_20 => ?_)
    · exact absurd (of_decide_eq_true c_20) (by decide)
    refine ps_st (S' := (24, [(1, .int 1), (0, .ref m0)], [.int (-1), .ref m0], M59)) rfl rfl rfl ?_
    refine ps_st (S' := (31, [(0, .ref m0), (1, .int 1)], [.int (-1), .ref m0], M59)) rfl rfl rfl ?_
    refine pr_put (j := 73) rfl hR63 rfl (fun M75 I76 hR77 hi78 hI79 => ?_)
    have hi80 := (hI79 49 (by decide)).trans hi67
    have hi81 := (hI79 17 (by decide)).trans hi68
    have hi82 := (hI79 18 (by decide)).trans hi69
    have hi83 := (hI79 0 (by decide)).trans hi70
    have hB_84 := hB_71.mono (pIx hI79 (by decide)) (fun _ _ => rfl)
    have hK_85 := hK_72.mono (pIx hI79 (by decide)) (fun _ _ => rfl)
    have hX_86 := hX_66.mono (pIx hI79 (by decide)) (fun _ _ => rfl)
    have hEI87 := hEI73.put hI79 (by decide)
    show pl _ _ _ (34, [(0, .ref m0), (1, .int 1)], [], M75) _
    refine ps_st (S' := (35, [(0, .ref m0), (1, .int 1)], [.int 1], M75)) rfl rfl rfl ?_
    refine ps_if (S1 := (42, [(0, .ref m0), (1, .int 1)], [], M75)) (S2 := (38, [(0, .ref m0), (1, .int 1)], [], M75)) rfl rfl rfl (fun c_35 => ?_) (fun c_35 => ?_)
    · exact absurd (of_decide_eq_true c_35) (by decide)
    refine ps_st (S' := (39, [(0, .ref m0), (1, .int 1)], [.int 0], M75)) rfl rfl rfl ?_
    refine ps_st (S' := (46, [(0, .ref m0), (1, .int 1)], [.int 0], M75)) rfl rfl rfl ?_
    refine ps_st (S' := (47, [(2, .int 0), (0, .ref m0), (1, .int 1)], [], M75)) rfl rfl rfl ?_
    refine ps_st (S' := (48, [(2, .int 0), (0, .ref m0), (1, .int 1)], [.int 1], M75)) rfl rfl rfl ?_
    refine ps_if (S1 := (90, [(2, .int 0), (0, .ref m0), (1, .int 1)], [], M75)) (S2 := (51, [(2, .int 0), (0, .ref m0), (1, .int 1)], [], M75)) rfl rfl rfl (fun c_48 => ?_) (fun c_48 => ?_)
    · exact absurd (of_decide_eq_true c_48) (by decide)
    refine ps_st (S' := (52, [(2, .int 0), (0, .ref m0), (1, .int 1)], [.int 0], M75)) rfl rfl rfl ?_
    refine ps_st (S' := (53, [(0, .ref m0), (2, .int 0), (3, .int 0)], [], M75)) rfl rfl rfl ?_
    have hD0 : BX 14 0 f I76 R62 := fun i9 h9 => absurd h9 (Nat.not_lt_zero _)
    exact (LL kf) (0) M75 I76 R62 hR77 hEI87 hER74 hi81 hi78 hB_84 hD0 hX_86 (by omega) (q14_s)
  · skip
    obtain ⟨e988, I89, R90, q14_s, rfl, hR91, hI92, hX93, hi94, hi95⟩ := q60
    have hi96 := (hI92 49 (by decide)).trans hi52
    have hi97 := (hI92 17 (by decide)).trans hi53
    have hi98 := (hI92 18 (by decide)).trans hi54
    have hi99 := (hI92 0 (by decide)).trans hi50
    have hB_100 := hB_55.mono (cIx hI92 (by decide)) (cRx hX93 (by decide))
    have hK_101 := hK_56.mono (cIx hI92 (by decide)) (cRx hX93 (by decide))
    have hEI102 := hEI57.tr hI92 (by decide)
    have hER103 := hER.tr hX93 (by decide)
    show pl _ _ _ (17, [(0, .ref m0)], [.int 0], M59) _
    refine ps_st (S' := (18, [(1, .int 0), (0, .ref m0)], [], M59)) rfl rfl rfl ?_
    refine ps_st (S' := (19, [(1, .int 0), (0, .ref m0)], [.ref m0], M59)) rfl rfl rfl ?_
    refine ps_st (S' := (20, [(1, .int 0), (0, .ref m0)], [.int 0, .ref m0], M59)) rfl rfl rfl ?_
    refine ps_if (S1 := (27, [(1, .int 0), (0, .ref m0)], [.ref m0], M59)) (S2 := (23, [(1, .int 0), (0, .ref m0)], [.ref m0], M59)) rfl rfl rfl (fun c_20 => ?_) (fun c_20 => ?_)
    rotate_left
    · exact absurd (by decide) (of_decide_eq_false c_20)
    refine ps_st (S' := (28, [(1, .int 0), (0, .ref m0)], [.ref m0, .ref m0], M59)) rfl rfl rfl ?_
    refine pr_int (j := 48) (S' := (31, [(0, .ref m0), (1, .int 0)], [.int (nI e988.2), .ref m0], M59)) rfl hR91 rfl hi95 rfl ?_
    refine pr_put (j := 73) rfl hR91 rfl (fun M104 I105 hR106 hi107 hI108 => ?_)
    have hi109 := (hI108 49 (by decide)).trans hi96
    have hi110 := (hI108 17 (by decide)).trans hi97
    have hi111 := (hI108 18 (by decide)).trans hi98
    have hi112 := (hI108 0 (by decide)).trans hi99
    have hi113 := (hI108 47 (by decide)).trans hi94
    have hi114 := (hI108 48 (by decide)).trans hi95
    have hB_115 := hB_100.mono (pIx hI108 (by decide)) (fun _ _ => rfl)
    have hK_116 := hK_101.mono (pIx hI108 (by decide)) (fun _ _ => rfl)
    have hEI117 := hEI102.put hI108 (by decide)
    show pl _ _ _ (34, [(0, .ref m0), (1, .int 0)], [], M104) _
    refine ps_st (S' := (35, [(0, .ref m0), (1, .int 0)], [.int 0], M104)) rfl rfl rfl ?_
    refine ps_if (S1 := (42, [(0, .ref m0), (1, .int 0)], [], M104)) (S2 := (38, [(0, .ref m0), (1, .int 0)], [], M104)) rfl rfl rfl (fun c_35 => ?_) (fun c_35 => ?_)
    rotate_left
    · exact absurd (by decide) (of_decide_eq_false c_35)
    refine ps_st (S' := (43, [(0, .ref m0), (1, .int 0)], [.ref m0], M104)) rfl rfl rfl ?_
    refine pr_int (j := 47) (S' := (46, [(0, .ref m0), (1, .int 0)], [.int (nI e988.1)], M104)) rfl hR106 rfl hi113 rfl ?_
    refine ps_st (S' := (47, [(2, .int (nI e988.1)), (0, .ref m0), (1, .int 0)], [], M104)) rfl rfl rfl ?_
    refine ps_st (S' := (48, [(2, .int (nI e988.1)), (0, .ref m0), (1, .int 0)], [.int 0], M104)) rfl rfl rfl ?_
    refine ps_if (S1 := (90, [(2, .int (nI e988.1)), (0, .ref m0), (1, .int 0)], [], M104)) (S2 := (51, [(2, .int (nI e988.1)), (0, .ref m0), (1, .int 0)], [], M104)) rfl rfl rfl (fun c_48 => ?_) (fun c_48 => ?_)
    rotate_left
    · exact absurd (by decide) (of_decide_eq_false c_48)
    refine ps_st (S' := (91, [(2, .int (nI e988.1)), (0, .ref m0), (1, .int 0)], [.ref m0], M104)) rfl rfl rfl ?_
    refine pr_int (j := 18) (S' := (94, [(2, .int (nI e988.1)), (0, .ref m0), (1, .int 0)], [.int kn], M104)) rfl hR106 rfl hi111 rfl ?_
    refine ps_if (S1 := (110, [(0, .ref m0), (2, .int (nI e988.1))], [], M104)) (S2 := (97, [(2, .int (nI e988.1)), (0, .ref m0), (1, .int 0)], [], M104)) rfl rfl rfl (fun c_94 => ?_) (fun c_94 => ?_)
    rotate_left
    · exact absurd (hk) (of_decide_eq_false c_94)
    refine ps_st (S' := (111, [(0, .ref m0), (2, .int (nI e988.1))], [.ref m0], M104)) rfl rfl rfl ?_
    refine ps_st (S' := (112, [(0, .ref m0), (2, .int (nI e988.1))], [.int (-1), .ref m0], M104)) rfl rfl rfl ?_
    refine pr_put (j := 74) rfl hR106 rfl (fun M118 I119 hR120 hi121 hI122 => ?_)
    have hi123 := (hI122 49 (by decide)).trans hi109
    have hi124 := (hI122 17 (by decide)).trans hi110
    have hi125 := (hI122 18 (by decide)).trans hi111
    have hi126 := (hI122 0 (by decide)).trans hi112
    have hi127 := (hI122 47 (by decide)).trans hi113
    have hi128 := (hI122 48 (by decide)).trans hi114
    have hi129 := (hI122 73 (by decide)).trans hi107
    have hB_130 := hB_115.mono (pIx hI122 (by decide)) (fun _ _ => rfl)
    have hK_131 := hK_116.mono (pIx hI122 (by decide)) (fun _ _ => rfl)
    have hEI132 := hEI117.put hI122 (by decide)
    show pl _ _ _ (115, [(0, .ref m0), (2, .int (nI e988.1))], [], M118) _
    refine ps_st (S' := (116, [(0, .ref m0), (2, .int (nI e988.1))], [.ref m0], M118)) rfl rfl rfl ?_
    refine ps_st (S' := (117, [(0, .ref m0), (2, .int (nI e988.1))], [.int 0, .ref m0], M118)) rfl rfl rfl ?_
    refine pr_put (j := 17) rfl hR120 rfl (fun M133 I134 hR135 hi136 hI137 => ?_)
    have hi138 := (hI137 49 (by decide)).trans hi123
    have hi139 := (hI137 18 (by decide)).trans hi125
    have hi140 := (hI137 0 (by decide)).trans hi126
    have hi141 := (hI137 47 (by decide)).trans hi127
    have hi142 := (hI137 48 (by decide)).trans hi128
    have hi143 := (hI137 73 (by decide)).trans hi129
    have hi144 := (hI137 74 (by decide)).trans hi121
    have hB_145 := hB_130.mono (pIx hI137 (by decide)) (fun _ _ => rfl)
    have hK_146 := hK_131.mono (pIx hI137 (by decide)) (fun _ _ => rfl)
    have hEI147 := hEI132.put hI137 (by decide)
    show pl _ _ _ (120, [(0, .ref m0), (2, .int (nI e988.1))], [], M133) _
    refine ps_st (S' := (121, [(0, .ref m0), (2, .int (nI e988.1))], [.int (nI e988.1)], M133)) rfl rfl rfl ?_
    exact ps_reti rfl (Or.inr ⟨e988, I134, R90, q14_s, rfl, hR135, hEI147, hER103, hi143, hi136, hi139⟩)
set_option maxHeartbeats 4000000 in
theorem rd_read2b {g : xe_G} {m0 : Nat} {q : Nat → Nat} {z : Nat × Nat} {I : rI} {R : rR} {M : mi_H} {n : Nat} {f : Nat → Int32} {n2 : Nat} {f2 : Nat → Int32} (hR : RS g m0 q z I R M) (hi49 : I 49 = some 0) (hi17 : I 17 = some (nI n)) (hi18 : I 18 = some (nI n2)) (hB : BX 13 n f I R) (hK : KX I R) (hQ : BX 14 n2 f2 I R) (hn : n ≤ 65540) (hk2 : n2 ≤ 65540) (hr2 : s_read f2 n2 = none) : pt (mT g) 236 [.ref m0] M (fun v M' => (∃  (I' : rI) (R' : rR), (s_read f n = none) ∧ v = some (.int 0) ∧ RS g m0 q z I' R' M' ∧ eqI [0, 3, 8, 9, 10, 11, 16, 17, 18, 20, 25, 26, 47, 48, 50, 51, 52, 53, 54, 55, 56, 57, 58, 59, 60, 61, 65, 66, 67, 68, 69, 70, 71, 72, 73, 74] I I' ∧ eqR [1, 2, 4, 5, 6, 7, 12, 14, 21, 22, 27, 28, 29, 30, 31, 32, 33, 34, 35, 36, 37, 38, 39, 40, 41, 42, 43, 44, 45, 46] R R' ∧ I' 73 = some (-1) ∧ I' 17 = some (nI 0) ∧ I' 18 = some (nI n) ∧ XKV f n I' R' ∧ BX 14 n f I' R') ∨ (∃ (e9 : Nat × Nat) (I' : rI) (R' : rR), (s_read f n = some e9) ∧ v = some (.int (nI e9.1)) ∧ RS g m0 q z I' R' M' ∧ eqI [0, 3, 8, 9, 10, 11, 16, 17, 18, 20, 25, 26, 47, 48, 50, 51, 52, 53, 54, 55, 56, 57, 58, 59, 60, 61, 65, 66, 67, 68, 69, 70, 71, 72, 73, 74] I I' ∧ eqR [1, 2, 4, 5, 6, 7, 12, 14, 21, 22, 27, 28, 29, 30, 31, 32, 33, 34, 35, 36, 37, 38, 39, 40, 41, 42, 43, 44, 45, 46] R R' ∧ I' 73 = some (nI e9.2) ∧ I' 17 = some (nI 0) ∧ I' 18 = some (nI n2) ∧ XKV f2 n2 I' R' ∧ BX 14 n2 f2 I' R')) := by
  refine pt_in (b := mb_236 g) rfl (fun kf => ?_)
  show pl (mT g) kf (mb_236 g).2 (0, [(0, .ref m0)], [], M) _
  have hEI : eqI [0, 3, 8, 9, 10, 11, 16, 17, 18, 20, 25, 26, 47, 48, 50, 51, 52, 53, 54, 55, 56, 57, 58, 59, 60, 61, 65, 66, 67, 68, 69, 70, 71, 72, 73, 74] I I := eqI.rf
  have hER : eqR [1, 2, 4, 5, 6, 7, 12, 14, 21, 22, 27, 28, 29, 30, 31, 32, 33, 34, 35, 36, 37, 38, 39, 40, 41, 42, 43, 44, 45, 46] R R := eqR.rf
  have LL : ∀ (kf : Nat), (∀ (i : Nat) (M1 : mi_H) (I1 : rI) (R1 : rR), (RS g m0 q z I1 R1 M1) → (eqI [0, 3, 8, 9, 10, 11, 16, 17, 18, 20, 25, 26, 47, 48, 50, 51, 52, 53, 54, 55, 56, 57, 58, 59, 60, 61, 65, 66, 67, 68, 69, 70, 71, 72, 73, 74] I I1) → (eqR [1, 2, 4, 5, 6, 7, 12, 14, 21, 22, 27, 28, 29, 30, 31, 32, 33, 34, 35, 36, 37, 38, 39, 40, 41, 42, 43, 44, 45, 46] R R1) → (I1 17 = some (nI n)) → (I1 73 = some (-1)) → (BX 13 n f I1 R1) → (BX 14 i f I1 R1) → (XKV f n I1 R1) → (i ≤ n) → (s_read f n = none) →  pl (mT g) kf (mb_236 g).2 (53, [(0, .ref m0), (2, .int 0), (3, .int (nI i))], [], M1) (fun v M' => (∃  (I' : rI) (R' : rR), (s_read f n = none) ∧ v = some (.int 0) ∧ RS g m0 q z I' R' M' ∧ eqI [0, 3, 8, 9, 10, 11, 16, 17, 18, 20, 25, 26, 47, 48, 50, 51, 52, 53, 54, 55, 56, 57, 58, 59, 60, 61, 65, 66, 67, 68, 69, 70, 71, 72, 73, 74] I I' ∧ eqR [1, 2, 4, 5, 6, 7, 12, 14, 21, 22, 27, 28, 29, 30, 31, 32, 33, 34, 35, 36, 37, 38, 39, 40, 41, 42, 43, 44, 45, 46] R R' ∧ I' 73 = some (-1) ∧ I' 17 = some (nI 0) ∧ I' 18 = some (nI n) ∧ XKV f n I' R' ∧ BX 14 n f I' R') ∨ (∃ (e9 : Nat × Nat) (I' : rI) (R' : rR), (s_read f n = some e9) ∧ v = some (.int (nI e9.1)) ∧ RS g m0 q z I' R' M' ∧ eqI [0, 3, 8, 9, 10, 11, 16, 17, 18, 20, 25, 26, 47, 48, 50, 51, 52, 53, 54, 55, 56, 57, 58, 59, 60, 61, 65, 66, 67, 68, 69, 70, 71, 72, 73, 74] I I' ∧ eqR [1, 2, 4, 5, 6, 7, 12, 14, 21, 22, 27, 28, 29, 30, 31, 32, 33, 34, 35, 36, 37, 38, 39, 40, 41, 42, 43, 44, 45, 46] R R' ∧ I' 73 = some (nI e9.2) ∧ I' 17 = some (nI 0) ∧ I' 18 = some (nI n2) ∧ XKV f2 n2 I' R' ∧ BX 14 n2 f2 I' R'))) := by
    intro kf
    induction kf with
    | zero => exact (by intros; exact pl_0)
    | succ kf ih =>
      intro i M1 I1 R1 hR1 hEI1 hER1 hl17 hl73 hB1 hD1 hX1 hi hr
      refine ps_st1 (S' := (54, [(0, .ref m0), (2, .int 0), (3, .int (nI i))], [.int (nI i)], M1)) rfl rfl rfl ?_
      refine ps_st (S' := (55, [(0, .ref m0), (2, .int 0), (3, .int (nI i))], [.ref m0, .int (nI i)], M1)) rfl rfl rfl ?_
      refine pr_int (j := 17) (S' := (58, [(0, .ref m0), (2, .int 0), (3, .int (nI i))], [.int (nI n), .int (nI i)], M1)) rfl hR1 rfl hl17 rfl ?_
      refine ps_if2 (S1 := (79, [(0, .ref m0), (2, .int 0), (3, .int (nI i))], [], M1)) (S2 := (61, [(0, .ref m0), (2, .int 0), (3, .int (nI i))], [], M1)) rfl rfl rfl (fun c_58 => ?_) (fun c_58 => ?_)
      · have c_58 : (nI n) ≤ (nI i) := of_decide_eq_true c_58
        have n_58 : n ≤ i := (le_nI (p := n) (n := i) (by omega) (by omega)).mp c_58
        refine ps_st (S' := (80, [(0, .ref m0), (2, .int 0), (3, .int (nI i))], [.ref m0], M1)) rfl rfl rfl ?_
        refine ps_st (S' := (81, [(0, .ref m0), (2, .int 0), (3, .int (nI i))], [.ref m0, .ref m0], M1)) rfl rfl rfl ?_
        refine pr_int (j := 17) (S' := (84, [(0, .ref m0), (2, .int 0), (3, .int (nI i))], [.int (nI n), .ref m0], M1)) rfl hR1 rfl hl17 rfl ?_
        refine pr_put (j := 18) rfl hR1 rfl (fun M1 I2 hR3 hi4 hI5 => ?_)
        have hi6 := (hI5 17 (by decide)).trans hl17
        have hi7 := (hI5 73 (by decide)).trans hl73
        have hB_8 := hB1.mono (pIx hI5 (by decide)) (fun _ _ => rfl)
        have hD_9 := hD1.mono (pIx hI5 (by decide)) (fun _ _ => rfl)
        have hX_10 := hX1.mono (pIx hI5 (by decide)) (fun _ _ => rfl)
        have hEI11 := hEI1.put hI5 (by decide)
        show pl _ _ _ (87, [(0, .ref m0), (2, .int 0), (3, .int (nI i))], [], M1) _
        refine ps_st (S' := (110, [(0, .ref m0), (2, .int 0)], [], M1)) rfl rfl rfl ?_
        refine ps_st (S' := (111, [(0, .ref m0), (2, .int 0)], [.ref m0], M1)) rfl rfl rfl ?_
        refine ps_st (S' := (112, [(0, .ref m0), (2, .int 0)], [.int (-1), .ref m0], M1)) rfl rfl rfl ?_
        refine pr_put (j := 74) rfl hR3 rfl (fun M12 I13 hR14 hi15 hI16 => ?_)
        have hi19 := (hI16 17 (by decide)).trans hi6
        have hi20 := (hI16 73 (by decide)).trans hi7
        have hi21 := (hI16 18 (by decide)).trans hi4
        have hB_22 := hB_8.mono (pIx hI16 (by decide)) (fun _ _ => rfl)
        have hD_23 := hD_9.mono (pIx hI16 (by decide)) (fun _ _ => rfl)
        have hX_24 := hX_10.mono (pIx hI16 (by decide)) (fun _ _ => rfl)
        have hEI25 := hEI11.put hI16 (by decide)
        show pl _ _ _ (115, [(0, .ref m0), (2, .int 0)], [], M12) _
        refine ps_st (S' := (116, [(0, .ref m0), (2, .int 0)], [.ref m0], M12)) rfl rfl rfl ?_
        refine ps_st (S' := (117, [(0, .ref m0), (2, .int 0)], [.int 0, .ref m0], M12)) rfl rfl rfl ?_
        refine pr_put (j := 17) rfl hR14 rfl (fun M26 I27 hR28 hi29 hI30 => ?_)
        have hi31 := (hI30 73 (by decide)).trans hi20
        have hi32 := (hI30 18 (by decide)).trans hi21
        have hi33 := (hI30 74 (by decide)).trans hi15
        have hB_34 := hB_22.mono (pIx hI30 (by decide)) (fun _ _ => rfl)
        have hD_35 := hD_23.mono (pIx hI30 (by decide)) (fun _ _ => rfl)
        have hX_36 := hX_24.mono (pIx hI30 (by decide)) (fun _ _ => rfl)
        have hEI37 := hEI25.put hI30 (by decide)
        show pl _ _ _ (120, [(0, .ref m0), (2, .int 0)], [], M26) _
        refine ps_st (S' := (121, [(0, .ref m0), (2, .int 0)], [.int 0], M26)) rfl rfl rfl ?_
        exact ps_ret rfl rfl (Or.inl ⟨I27, R1, hr, rfl, hR28, hEI37, hER1, hi31, hi29, hi32, hX_36, BX.le hD_35 (by omega)⟩)
      · have c_58 : ¬ ((nI n) ≤ (nI i)) := of_decide_eq_false c_58
        have n_58 : ¬ (n ≤ i) := fun h9 => c_58 ((le_nI (p := n) (n := i) (by omega) (by omega)).mpr h9)
        refine ps_st (S' := (62, [(0, .ref m0), (2, .int 0), (3, .int (nI i))], [.ref m0], M1)) rfl rfl rfl ?_
        refine pr_ref (j := 14) (S' := (65, [(0, .ref m0), (2, .int 0), (3, .int (nI i))], [.ref (q 14)], M1)) rfl hR1 rfl rfl ?_
        refine ps_st (S' := (66, [(0, .ref m0), (2, .int 0), (3, .int (nI i))], [.int (nI i), .ref (q 14)], M1)) rfl rfl rfl ?_
        refine ps_st (S' := (67, [(0, .ref m0), (2, .int 0), (3, .int (nI i))], [.ref m0, .int (nI i), .ref (q 14)], M1)) rfl rfl rfl ?_
        refine pr_ref (j := 13) (S' := (70, [(0, .ref m0), (2, .int 0), (3, .int (nI i))], [.ref (q 13), .int (nI i), .ref (q 14)], M1)) rfl hR1 rfl rfl ?_
        refine ps_st (S' := (71, [(0, .ref m0), (2, .int 0), (3, .int (nI i))], [.int (nI i), .ref (q 13), .int (nI i), .ref (q 14)], M1)) rfl rfl rfl ?_
        refine pr_ld (a := 13) (j := i) (y := (f i)) (S' := (72, [(0, .ref m0), (2, .int 0), (3, .int (nI i))], [.int (f i), .int (nI i), .ref (q 14)], M1)) rfl hR1 rfl (by omega) (fun _ => (hB1 i (by omega)).1) rfl (fun i1_71 => ?_)
        refine pr_st (a := 14) (j := i) rfl hR1 rfl (by omega) (fun M38 R39 i1_72 hR40 hS41 => ?_)
        have hB_42 := hB1.mono (fun _ _ => rfl) (rRx hS41 (by decide))
        have hX_43 := hX1.mono (fun _ _ => rfl) (rRx hS41 (by decide))
        have hER44 := hER1.st hS41 (by decide)
        show pl _ _ _ (73, [(0, .ref m0), (2, .int 0), (3, .int (nI i))], [], M38) _
        have hD_45 : BX 14 (i + 1) f I1 R39 := BX.st hD1 hS41 (hB1 i (by omega)).2 rfl
        refine ps_st (S' := (76, [(3, .int ((nI i) + 1)), (0, .ref m0), (2, .int 0)], [], M38)) rfl rfl rfl ?_
        rw [nI_add1 (p := i) (k := 1) (x := 1) rfl (by omega)]
        show pl _ _ _ (_, [(3, .int (nI (i + 1))), (0, .ref m0), (2, .int 0)], [], M38) _
        refine ps_st (S' := (53, [(0, .ref m0), (2, .int 0), (3, .int (nI (i + 1)))], [], M38)) rfl rfl rfl ?_
        exact ih (i + 1) M38 I1 R39 hR40 hEI1 hER44 hl17 hl73 hB_42 hD_45 hX_43 (by omega) (hr)
  refine ps_st (S' := (1, [(0, .ref m0)], [.ref m0], M)) rfl rfl rfl ?_
  refine ps_st (S' := (2, [(0, .ref m0)], [.int 0, .ref m0], M)) rfl rfl rfl ?_
  refine pr_put (j := 0) rfl hR rfl (fun M46 I47 hR48 hi50 hI51 => ?_)
  have hi52 := (hI51 49 (by decide)).trans hi49
  have hi53 := (hI51 17 (by decide)).trans hi17
  have hi54 := (hI51 18 (by decide)).trans hi18
  have hB_55 := hB.mono (pIx hI51 (by decide)) (fun _ _ => rfl)
  have hK_56 := hK.mono (pIx hI51 (by decide)) (fun _ _ => rfl)
  have hQ_57 := hQ.mono (pIx hI51 (by decide)) (fun _ _ => rfl)
  have hEI58 := hEI.put hI51 (by decide)
  show pl _ _ _ (5, [(0, .ref m0)], [], M46) _
  refine ps_st (S' := (6, [(0, .ref m0)], [.ref m0], M46)) rfl rfl rfl ?_
  refine ps_st (S' := (7, [(0, .ref m0)], [.ref m0, .ref m0], M46)) rfl rfl rfl ?_
  refine pr_ref (j := 13) (S' := (10, [(0, .ref m0)], [.ref (q 13), .ref m0], M46)) rfl hR48 rfl rfl ?_
  refine ps_st (S' := (11, [(0, .ref m0)], [.ref m0, .ref (q 13), .ref m0], M46)) rfl rfl rfl ?_
  refine pr_int (j := 17) (S' := (14, [(0, .ref m0)], [.int (nI n), .ref (q 13), .ref m0], M46)) rfl hR48 rfl hi53 rfl ?_
  refine pl_call (a := [.ref m0, .ref (q 13), .int (nI n)]) (rest := []) rfl rfl rfl (rd_parse13b (n := n) (f := f) hR48 hi52 hB_55 hK_56 (hn)) (fun v59 M60 q61 => ?_)
  rcases q61 with q61 | q61
  · skip
    obtain ⟨I62, R63, q14_s, rfl, hR64, hI65, hX66, hX_67⟩ := q61
    have hi68 := (hI65 49 (by decide)).trans hi52
    have hi69 := (hI65 17 (by decide)).trans hi53
    have hi70 := (hI65 18 (by decide)).trans hi54
    have hi71 := (hI65 0 (by decide)).trans hi50
    have hB_72 := hB_55.mono (cIx hI65 (by decide)) (cRx hX66 (by decide))
    have hK_73 := hK_56.mono (cIx hI65 (by decide)) (cRx hX66 (by decide))
    have hQ_74 := hQ_57.mono (cIx hI65 (by decide)) (cRx hX66 (by decide))
    have hEI75 := hEI58.tr hI65 (by decide)
    have hER76 := hER.tr hX66 (by decide)
    show pl _ _ _ (17, [(0, .ref m0)], [.int 1], M60) _
    refine ps_st (S' := (18, [(1, .int 1), (0, .ref m0)], [], M60)) rfl rfl rfl ?_
    refine ps_st (S' := (19, [(1, .int 1), (0, .ref m0)], [.ref m0], M60)) rfl rfl rfl ?_
    refine ps_st (S' := (20, [(1, .int 1), (0, .ref m0)], [.int 1, .ref m0], M60)) rfl rfl rfl ?_
    refine ps_if (S1 := (27, [(1, .int 1), (0, .ref m0)], [.ref m0], M60)) (S2 := (23, [(1, .int 1), (0, .ref m0)], [.ref m0], M60)) rfl rfl rfl (fun c_20 => ?_) (fun c_20 => ?_)
    · exact absurd (of_decide_eq_true c_20) (by decide)
    refine ps_st (S' := (24, [(1, .int 1), (0, .ref m0)], [.int (-1), .ref m0], M60)) rfl rfl rfl ?_
    refine ps_st (S' := (31, [(0, .ref m0), (1, .int 1)], [.int (-1), .ref m0], M60)) rfl rfl rfl ?_
    refine pr_put (j := 73) rfl hR64 rfl (fun M77 I78 hR79 hi80 hI81 => ?_)
    have hi82 := (hI81 49 (by decide)).trans hi68
    have hi83 := (hI81 17 (by decide)).trans hi69
    have hi84 := (hI81 18 (by decide)).trans hi70
    have hi85 := (hI81 0 (by decide)).trans hi71
    have hB_86 := hB_72.mono (pIx hI81 (by decide)) (fun _ _ => rfl)
    have hK_87 := hK_73.mono (pIx hI81 (by decide)) (fun _ _ => rfl)
    have hQ_88 := hQ_74.mono (pIx hI81 (by decide)) (fun _ _ => rfl)
    have hX_89 := hX_67.mono (pIx hI81 (by decide)) (fun _ _ => rfl)
    have hEI90 := hEI75.put hI81 (by decide)
    show pl _ _ _ (34, [(0, .ref m0), (1, .int 1)], [], M77) _
    refine ps_st (S' := (35, [(0, .ref m0), (1, .int 1)], [.int 1], M77)) rfl rfl rfl ?_
    refine ps_if (S1 := (42, [(0, .ref m0), (1, .int 1)], [], M77)) (S2 := (38, [(0, .ref m0), (1, .int 1)], [], M77)) rfl rfl rfl (fun c_35 => ?_) (fun c_35 => ?_)
    · exact absurd (of_decide_eq_true c_35) (by decide)
    refine ps_st (S' := (39, [(0, .ref m0), (1, .int 1)], [.int 0], M77)) rfl rfl rfl ?_
    refine ps_st (S' := (46, [(0, .ref m0), (1, .int 1)], [.int 0], M77)) rfl rfl rfl ?_
    refine ps_st (S' := (47, [(2, .int 0), (0, .ref m0), (1, .int 1)], [], M77)) rfl rfl rfl ?_
    refine ps_st (S' := (48, [(2, .int 0), (0, .ref m0), (1, .int 1)], [.int 1], M77)) rfl rfl rfl ?_
    refine ps_if (S1 := (90, [(2, .int 0), (0, .ref m0), (1, .int 1)], [], M77)) (S2 := (51, [(2, .int 0), (0, .ref m0), (1, .int 1)], [], M77)) rfl rfl rfl (fun c_48 => ?_) (fun c_48 => ?_)
    · exact absurd (of_decide_eq_true c_48) (by decide)
    refine ps_st (S' := (52, [(2, .int 0), (0, .ref m0), (1, .int 1)], [.int 0], M77)) rfl rfl rfl ?_
    refine ps_st (S' := (53, [(0, .ref m0), (2, .int 0), (3, .int 0)], [], M77)) rfl rfl rfl ?_
    have hD0 : BX 14 0 f I78 R63 := fun i9 h9 => absurd h9 (Nat.not_lt_zero _)
    exact (LL kf) (0) M77 I78 R63 hR79 hEI90 hER76 hi83 hi80 hB_86 hD0 hX_89 (by omega) (q14_s)
  · skip
    obtain ⟨e991, I92, R93, q14_s, rfl, hR94, hI95, hX96, hi97, hi98⟩ := q61
    have hi99 := (hI95 49 (by decide)).trans hi52
    have hi100 := (hI95 17 (by decide)).trans hi53
    have hi101 := (hI95 18 (by decide)).trans hi54
    have hi102 := (hI95 0 (by decide)).trans hi50
    have hB_103 := hB_55.mono (cIx hI95 (by decide)) (cRx hX96 (by decide))
    have hK_104 := hK_56.mono (cIx hI95 (by decide)) (cRx hX96 (by decide))
    have hQ_105 := hQ_57.mono (cIx hI95 (by decide)) (cRx hX96 (by decide))
    have hEI106 := hEI58.tr hI95 (by decide)
    have hER107 := hER.tr hX96 (by decide)
    show pl _ _ _ (17, [(0, .ref m0)], [.int 0], M60) _
    refine ps_st (S' := (18, [(1, .int 0), (0, .ref m0)], [], M60)) rfl rfl rfl ?_
    refine ps_st (S' := (19, [(1, .int 0), (0, .ref m0)], [.ref m0], M60)) rfl rfl rfl ?_
    refine ps_st (S' := (20, [(1, .int 0), (0, .ref m0)], [.int 0, .ref m0], M60)) rfl rfl rfl ?_
    refine ps_if (S1 := (27, [(1, .int 0), (0, .ref m0)], [.ref m0], M60)) (S2 := (23, [(1, .int 0), (0, .ref m0)], [.ref m0], M60)) rfl rfl rfl (fun c_20 => ?_) (fun c_20 => ?_)
    rotate_left
    · exact absurd (by decide) (of_decide_eq_false c_20)
    refine ps_st (S' := (28, [(1, .int 0), (0, .ref m0)], [.ref m0, .ref m0], M60)) rfl rfl rfl ?_
    refine pr_int (j := 48) (S' := (31, [(0, .ref m0), (1, .int 0)], [.int (nI e991.2), .ref m0], M60)) rfl hR94 rfl hi98 rfl ?_
    refine pr_put (j := 73) rfl hR94 rfl (fun M108 I109 hR110 hi111 hI112 => ?_)
    have hi113 := (hI112 49 (by decide)).trans hi99
    have hi114 := (hI112 17 (by decide)).trans hi100
    have hi115 := (hI112 18 (by decide)).trans hi101
    have hi116 := (hI112 0 (by decide)).trans hi102
    have hi117 := (hI112 47 (by decide)).trans hi97
    have hi118 := (hI112 48 (by decide)).trans hi98
    have hB_119 := hB_103.mono (pIx hI112 (by decide)) (fun _ _ => rfl)
    have hK_120 := hK_104.mono (pIx hI112 (by decide)) (fun _ _ => rfl)
    have hQ_121 := hQ_105.mono (pIx hI112 (by decide)) (fun _ _ => rfl)
    have hEI122 := hEI106.put hI112 (by decide)
    show pl _ _ _ (34, [(0, .ref m0), (1, .int 0)], [], M108) _
    refine ps_st (S' := (35, [(0, .ref m0), (1, .int 0)], [.int 0], M108)) rfl rfl rfl ?_
    refine ps_if (S1 := (42, [(0, .ref m0), (1, .int 0)], [], M108)) (S2 := (38, [(0, .ref m0), (1, .int 0)], [], M108)) rfl rfl rfl (fun c_35 => ?_) (fun c_35 => ?_)
    rotate_left
    · exact absurd (by decide) (of_decide_eq_false c_35)
    refine ps_st (S' := (43, [(0, .ref m0), (1, .int 0)], [.ref m0], M108)) rfl rfl rfl ?_
    refine pr_int (j := 47) (S' := (46, [(0, .ref m0), (1, .int 0)], [.int (nI e991.1)], M108)) rfl hR110 rfl hi117 rfl ?_
    refine ps_st (S' := (47, [(2, .int (nI e991.1)), (0, .ref m0), (1, .int 0)], [], M108)) rfl rfl rfl ?_
    refine ps_st (S' := (48, [(2, .int (nI e991.1)), (0, .ref m0), (1, .int 0)], [.int 0], M108)) rfl rfl rfl ?_
    refine ps_if (S1 := (90, [(2, .int (nI e991.1)), (0, .ref m0), (1, .int 0)], [], M108)) (S2 := (51, [(2, .int (nI e991.1)), (0, .ref m0), (1, .int 0)], [], M108)) rfl rfl rfl (fun c_48 => ?_) (fun c_48 => ?_)
    rotate_left
    · exact absurd (by decide) (of_decide_eq_false c_48)
    refine ps_st (S' := (91, [(2, .int (nI e991.1)), (0, .ref m0), (1, .int 0)], [.ref m0], M108)) rfl rfl rfl ?_
    refine pr_int (j := 18) (S' := (94, [(2, .int (nI e991.1)), (0, .ref m0), (1, .int 0)], [.int (nI n2)], M108)) rfl hR110 rfl hi115 rfl ?_
    refine ps_if (S1 := (110, [(0, .ref m0), (2, .int (nI e991.1))], [], M108)) (S2 := (97, [(2, .int (nI e991.1)), (0, .ref m0), (1, .int 0)], [], M108)) rfl rfl rfl (fun c_94 => ?_) (fun c_94 => ?_)
    · exact absurd (of_decide_eq_true c_94) (show ¬ ((nI n2) < 0) from fun h9 => absurd ((lt_nI (p := n2) (n := 0) (by omega) (by decide)).mp h9) (by omega))
    refine ps_st (S' := (98, [(2, .int (nI e991.1)), (0, .ref m0), (1, .int 0)], [.ref m0], M108)) rfl rfl rfl ?_
    refine ps_st (S' := (99, [(2, .int (nI e991.1)), (0, .ref m0), (1, .int 0)], [.ref m0, .ref m0], M108)) rfl rfl rfl ?_
    refine pr_ref (j := 14) (S' := (102, [(2, .int (nI e991.1)), (0, .ref m0), (1, .int 0)], [.ref (q 14), .ref m0], M108)) rfl hR110 rfl rfl ?_
    refine ps_st (S' := (103, [(2, .int (nI e991.1)), (0, .ref m0), (1, .int 0)], [.ref m0, .ref (q 14), .ref m0], M108)) rfl rfl rfl ?_
    refine pr_int (j := 18) (S' := (106, [(2, .int (nI e991.1)), (0, .ref m0), (1, .int 0)], [.int (nI n2), .ref (q 14), .ref m0], M108)) rfl hR110 rfl hi115 rfl ?_
    refine pl_call (a := [.ref m0, .ref (q 14), .int (nI n2)]) (rest := []) rfl rfl rfl (rd_parse14b (n := n2) (f := f2) hR110 hi113 hQ_121 hK_120 (hk2)) (fun v123 M124 q125 => ?_)
    rcases q125 with q125 | q125
    · skip
      obtain ⟨I126, R127, q106_s, rfl, hR128, hI129, hX130, hX_131⟩ := q125
      have hi132 := (hI129 49 (by decide)).trans hi113
      have hi133 := (hI129 17 (by decide)).trans hi114
      have hi134 := (hI129 18 (by decide)).trans hi115
      have hi135 := (hI129 0 (by decide)).trans hi116
      have hi136 := (hI129 73 (by decide)).trans hi111
      have hB_137 := hB_119.mono (cIx hI129 (by decide)) (cRx hX130 (by decide))
      have hK_138 := hK_120.mono (cIx hI129 (by decide)) (cRx hX130 (by decide))
      have hQ_139 := hQ_121.mono (cIx hI129 (by decide)) (cRx hX130 (by decide))
      have hEI140 := hEI122.tr hI129 (by decide)
      have hER141 := hER107.tr hX130 (by decide)
      show pl _ _ _ (109, [(2, .int (nI e991.1)), (0, .ref m0), (1, .int 0)], [.int 1], M124) _
      refine ps_st (S' := (110, [(0, .ref m0), (2, .int (nI e991.1))], [], M124)) rfl rfl rfl ?_
      refine ps_st (S' := (111, [(0, .ref m0), (2, .int (nI e991.1))], [.ref m0], M124)) rfl rfl rfl ?_
      refine ps_st (S' := (112, [(0, .ref m0), (2, .int (nI e991.1))], [.int (-1), .ref m0], M124)) rfl rfl rfl ?_
      refine pr_put (j := 74) rfl hR128 rfl (fun M142 I143 hR144 hi145 hI146 => ?_)
      have hi147 := (hI146 49 (by decide)).trans hi132
      have hi148 := (hI146 17 (by decide)).trans hi133
      have hi149 := (hI146 18 (by decide)).trans hi134
      have hi150 := (hI146 0 (by decide)).trans hi135
      have hi151 := (hI146 73 (by decide)).trans hi136
      have hB_152 := hB_137.mono (pIx hI146 (by decide)) (fun _ _ => rfl)
      have hK_153 := hK_138.mono (pIx hI146 (by decide)) (fun _ _ => rfl)
      have hQ_154 := hQ_139.mono (pIx hI146 (by decide)) (fun _ _ => rfl)
      have hX_155 := hX_131.mono (pIx hI146 (by decide)) (fun _ _ => rfl)
      have hEI156 := hEI140.put hI146 (by decide)
      show pl _ _ _ (115, [(0, .ref m0), (2, .int (nI e991.1))], [], M142) _
      refine ps_st (S' := (116, [(0, .ref m0), (2, .int (nI e991.1))], [.ref m0], M142)) rfl rfl rfl ?_
      refine ps_st (S' := (117, [(0, .ref m0), (2, .int (nI e991.1))], [.int 0, .ref m0], M142)) rfl rfl rfl ?_
      refine pr_put (j := 17) rfl hR144 rfl (fun M157 I158 hR159 hi160 hI161 => ?_)
      have hi162 := (hI161 49 (by decide)).trans hi147
      have hi163 := (hI161 18 (by decide)).trans hi149
      have hi164 := (hI161 0 (by decide)).trans hi150
      have hi165 := (hI161 73 (by decide)).trans hi151
      have hi166 := (hI161 74 (by decide)).trans hi145
      have hB_167 := hB_152.mono (pIx hI161 (by decide)) (fun _ _ => rfl)
      have hK_168 := hK_153.mono (pIx hI161 (by decide)) (fun _ _ => rfl)
      have hQ_169 := hQ_154.mono (pIx hI161 (by decide)) (fun _ _ => rfl)
      have hX_170 := hX_155.mono (pIx hI161 (by decide)) (fun _ _ => rfl)
      have hEI171 := hEI156.put hI161 (by decide)
      show pl _ _ _ (120, [(0, .ref m0), (2, .int (nI e991.1))], [], M157) _
      refine ps_st (S' := (121, [(0, .ref m0), (2, .int (nI e991.1))], [.int (nI e991.1)], M157)) rfl rfl rfl ?_
      exact ps_reti rfl (Or.inr ⟨e991, I158, R127, q14_s, rfl, hR159, hEI171, hER141, hi165, hi160, hi163, hX_170, hQ_169⟩)
    · skip
      obtain ⟨e9172, I173, R174, q106_s, rfl, hR175, hI176, hX177, hi178, hi179⟩ := q125
      have hi180 := (hI176 49 (by decide)).trans hi113
      have hi181 := (hI176 17 (by decide)).trans hi114
      have hi182 := (hI176 18 (by decide)).trans hi115
      have hi183 := (hI176 0 (by decide)).trans hi116
      have hi184 := (hI176 73 (by decide)).trans hi111
      have hB_185 := hB_119.mono (cIx hI176 (by decide)) (cRx hX177 (by decide))
      have hK_186 := hK_120.mono (cIx hI176 (by decide)) (cRx hX177 (by decide))
      have hQ_187 := hQ_121.mono (cIx hI176 (by decide)) (cRx hX177 (by decide))
      have hEI188 := hEI122.tr hI176 (by decide)
      have hER189 := hER107.tr hX177 (by decide)
      show pl _ _ _ (109, [(2, .int (nI e991.1)), (0, .ref m0), (1, .int 0)], [.int 0], M124) _
      exact absurd (hr2.symm.trans q106_s) (fun h9 => by cases h9)
end
section
/-! an entry of the pool, as both sides tell it (my own text) -/
section ENA
variable {f : Nat → Int32} {n : Nat} {E : List (Nat × Nat)} {k mj : Nat}
/-- part 0 of entry j is its tag, 1 and 2 its indexes -/
def enN (f : Nat → Int32) (E : List (Nat × Nat)) (j p : Nat) : Nat := if p = 0 then tg f E j else if p = 1 then fi f E j else se f E j
def enI (f : Nat → Int32) (E : List (Nat × Nat)) (N : Nat) (k p : Int32) : Int32 := if k < 0 ∨ nI N ≤ k then -1 else nI (enN f E k.toNatClampNeg p.toNatClampNeg)
/-- what is kept tells it -/
def enK (ko : Option (Nat × (Nat → Int32))) (k p : Int32) : Int32 := match ko with
  | none => -1
  | some r => match s_whole r.2 r.1 with
    | .inl _ => -1
    | .inr y => enI r.2 y.1 (by2 r.2 8) k p
theorem enK_is {r : Nat × (Nat → Int32)} {k p : Int32} {y : Nat × Nat × Nat × Nat} (h : s_whole r.2 r.1 = .inr (E, y)) : enK (some r) k p = enI r.2 E (by2 r.2 8) k p := by
  show (match s_whole r.2 r.1 with | .inl _ => -1 | .inr y => enI r.2 y.1 (by2 r.2 8) k p) = _
  rw [h]
theorem i32_3 {p : Int32} (h0 : ¬ p < 0) (h1 : p ≤ 2) : p = 0 ∨ p = 1 ∨ p = 2 := by
  have a := Int32.le_iff_toInt_le.mp (Int32.not_lt.mp h0)
  have b := Int32.le_iff_toInt_le.mp h1
  have e0 : (0 : Int32).toInt = 0 := rfl
  have e1 : (1 : Int32).toInt = 1 := rfl
  have e2 : (2 : Int32).toInt = 2 := rfl
  rcases (show p.toInt = 0 ∨ p.toInt = 1 ∨ p.toInt = 2 by omega) with h | h | h
  · exact Or.inl (Int32.toInt_inj.mp (by omega))
  · exact Or.inr (Or.inl (Int32.toInt_inj.mp (by omega)))
  · exact Or.inr (Or.inr (Int32.toInt_inj.mp (by omega)))
/-- a number that isn't below 0 -/
theorem i32_nn {k : Int32} (h : ¬ k < 0) : k = nI k.toNatClampNeg := (mi_nI h).symm
theorem i32_in {N : Nat} {k : Int32} (hN : N < 65536) (h : ¬ (k < 0 ∨ nI N ≤ k)) : k = nI k.toNatClampNeg ∧ k.toNatClampNeg < N := by
  have h0 : ¬ k < 0 := fun q => h (Or.inl q)
  have e := i32_nn h0
  refine ⟨e, ?_⟩
  have h1 := Int32.lt_iff_toInt_lt.mp (Int32.not_le.mp (fun q => h (Or.inr q)))
  rw [nI_val (by omega)] at h1
  have h2 := Int32.le_iff_toInt_le.mp (Int32.not_lt.mp h0)
  have e0 : (0 : Int32).toInt = 0 := rfl
  show k.toInt.toNat < N
  omega
end ENA
set_option maxHeartbeats 1000000 in
theorem dk_entry0 {g : xe_G} {M : mi_H} {o ca fl : Nat} {cn wp k p : Int32} (h_o : M.1 o = some (ob 11 [.ref ca, .int cn, .ref fl, .null, .int wp])) (hp0 : ¬ p < 0) (hp1 : p ≤ 2) : pt (mT g) 8 [.ref o, .int k, .int p] M (fun v M' => (v = some (.int (-1)) ∧ M = M')) := by
  refine pt_in (b := mb_8 g) rfl (fun kf => ?_)
  show pl (mT g) kf (mb_8 g).2 (0, [(0, .ref o), (1, .int k), (2, .int p)], [], M) _
  refine ps_st (S' := (1, [(0, .ref o), (1, .int k), (2, .int p)], [.int p], M)) rfl rfl rfl ?_
  refine ps_if (S1 := (9, [(0, .ref o), (1, .int k), (2, .int p)], [], M)) (S2 := (4, [(0, .ref o), (1, .int k), (2, .int p)], [], M)) rfl rfl rfl (fun c_1 => ?_) (fun c_1 => ?_)
  · exact absurd (of_decide_eq_true c_1) (hp0)
  refine ps_st (S' := (5, [(0, .ref o), (1, .int k), (2, .int p)], [.int p], M)) rfl rfl rfl ?_
  refine ps_st (S' := (6, [(0, .ref o), (1, .int k), (2, .int p)], [.int 2, .int p], M)) rfl rfl rfl ?_
  refine ps_if2 (S1 := (19, [(0, .ref o), (1, .int k), (2, .int p)], [], M)) (S2 := (9, [(0, .ref o), (1, .int k), (2, .int p)], [], M)) rfl rfl rfl (fun c_6 => ?_) (fun c_6 => ?_)
  rotate_left
  · exact absurd (hp1) (of_decide_eq_false c_6)
  refine ps_st (S' := (20, [(0, .ref o), (1, .int k), (2, .int p)], [.ref o], M)) rfl rfl rfl ?_
  refine ps_get (S' := (23, [(0, .ref o), (1, .int k), (2, .int p)], [.null], M)) rfl h_o rfl rfl ?_
  refine ps_st (S' := (44, [], [], M)) rfl rfl rfl ?_
  refine ps_st (S' := (45, [], [.int (-1)], M)) rfl rfl rfl ?_
  exact ps_ret rfl rfl (⟨rfl, rfl⟩)
set_option maxHeartbeats 1000000 in
theorem dk_entryN {g : xe_G} {M : mi_H} {f : Nat → Int32} {n N q : Nat} {E : List (Nat × Nat)} {o ca fl c b : Nat} {cn wp : Int32} {w : List Value} {k p : Int32} (h_o : M.1 o = some (ob 11 [.ref ca, .int cn, .ref fl, .ref c, .int wp])) (h_c : M.1 c = some (ob 3 (.ref b :: .ref q :: w))) (hp0 : ¬ p < 0) (hp1 : p ≤ 2) (hV : PV g f n N E q M) (hk : k < 0 ∨ nI N ≤ k) : pt (mT g) 8 [.ref o, .int k, .int p] M (fun v M' => (v = some (.int (-1)) ∧ M = M')) := by
  refine pt_in (b := mb_8 g) rfl (fun kf => ?_)
  show pl (mT g) kf (mb_8 g).2 (0, [(0, .ref o), (1, .int k), (2, .int p)], [], M) _
  obtain ⟨hL9, H, m, qq, F, cc, hP9, -, -, hb9, -⟩ := id hV
  have h_q := hP9.1
  have hN9 := hb9.2.2.1
  refine ps_st (S' := (1, [(0, .ref o), (1, .int k), (2, .int p)], [.int p], M)) rfl rfl rfl ?_
  refine ps_if (S1 := (9, [(0, .ref o), (1, .int k), (2, .int p)], [], M)) (S2 := (4, [(0, .ref o), (1, .int k), (2, .int p)], [], M)) rfl rfl rfl (fun c_1 => ?_) (fun c_1 => ?_)
  · exact absurd (of_decide_eq_true c_1) (hp0)
  refine ps_st (S' := (5, [(0, .ref o), (1, .int k), (2, .int p)], [.int p], M)) rfl rfl rfl ?_
  refine ps_st (S' := (6, [(0, .ref o), (1, .int k), (2, .int p)], [.int 2, .int p], M)) rfl rfl rfl ?_
  refine ps_if2 (S1 := (19, [(0, .ref o), (1, .int k), (2, .int p)], [], M)) (S2 := (9, [(0, .ref o), (1, .int k), (2, .int p)], [], M)) rfl rfl rfl (fun c_6 => ?_) (fun c_6 => ?_)
  rotate_left
  · exact absurd (hp1) (of_decide_eq_false c_6)
  refine ps_st (S' := (20, [(0, .ref o), (1, .int k), (2, .int p)], [.ref o], M)) rfl rfl rfl ?_
  refine ps_get (S' := (23, [(0, .ref o), (1, .int k), (2, .int p)], [.ref c], M)) rfl h_o rfl rfl ?_
  refine ps_st (S' := (26, [(0, .ref o), (1, .int k), (2, .int p)], [], M)) rfl rfl rfl ?_
  refine ps_st (S' := (27, [(0, .ref o), (1, .int k), (2, .int p)], [.int k], M)) rfl rfl rfl ?_
  refine ps_if (S1 := (44, [], [], M)) (S2 := (30, [(0, .ref o), (1, .int k), (2, .int p)], [], M)) rfl rfl rfl (fun c_27 => ?_) (fun c_27 => ?_)
  · have c_27 : k < 0 := of_decide_eq_true c_27
    refine ps_st (S' := (45, [], [.int (-1)], M)) rfl rfl rfl ?_
    exact ps_ret rfl rfl (⟨rfl, rfl⟩)
  · have c_27 : ¬ (k < 0) := of_decide_eq_false c_27
    refine ps_st (S' := (31, [(0, .ref o), (1, .int k), (2, .int p)], [.int k], M)) rfl rfl rfl ?_
    refine ps_st (S' := (32, [(0, .ref o), (1, .int k), (2, .int p)], [.ref o, .int k], M)) rfl rfl rfl ?_
    refine ps_get (S' := (35, [(0, .ref o), (1, .int k), (2, .int p)], [.ref c, .int k], M)) rfl h_o rfl rfl ?_
    refine ps_get (S' := (38, [(0, .ref o), (1, .int k), (2, .int p)], [.ref q, .int k], M)) rfl h_c rfl rfl ?_
    refine ps_get (S' := (41, [(0, .ref o), (1, .int k), (2, .int p)], [.int (nI N), .int k], M)) rfl h_q rfl rfl ?_
    refine ps_if2 (S1 := (46, [(0, .ref o), (1, .int k), (2, .int p)], [], M)) (S2 := (44, [], [], M)) rfl rfl rfl (fun c_41 => ?_) (fun c_41 => ?_)
    · exact absurd (of_decide_eq_true c_41) (Int32.not_lt.mpr (hk.resolve_left c_27))
    refine ps_st (S' := (45, [], [.int (-1)], M)) rfl rfl rfl ?_
    exact ps_ret rfl rfl (⟨rfl, rfl⟩)
set_option maxHeartbeats 1000000 in
theorem dk_entry_0 {g : xe_G} {M : mi_H} {f : Nat → Int32} {n N q : Nat} {E : List (Nat × Nat)} {o ca fl c b : Nat} {cn wp : Int32} {w : List Value} {j : Nat} (h_o : M.1 o = some (ob 11 [.ref ca, .int cn, .ref fl, .ref c, .int wp])) (h_c : M.1 c = some (ob 3 (.ref b :: .ref q :: w))) (hV : PV g f n N E q M) (hj : j < N) : pt (mT g) 8 [.ref o, .int (nI j), .int 0] M (fun v M' => (v = some (.int (nI (tg f E j))) ∧ M = M')) := by
  refine pt_in (b := mb_8 g) rfl (fun kf => ?_)
  show pl (mT g) kf (mb_8 g).2 (0, [(0, .ref o), (1, .int (nI j)), (2, .int 0)], [], M) _
  obtain ⟨hL9, H, m, qq, F, cc, hP9, -, -, hb9, -⟩ := id hV
  have h_q := hP9.1
  have hN9 := hb9.2.2.1
  refine ps_st (S' := (1, [(0, .ref o), (1, .int (nI j)), (2, .int 0)], [.int 0], M)) rfl rfl rfl ?_
  refine ps_if (S1 := (9, [(0, .ref o), (1, .int (nI j)), (2, .int 0)], [], M)) (S2 := (4, [(0, .ref o), (1, .int (nI j)), (2, .int 0)], [], M)) rfl rfl rfl (fun c_1 => ?_) (fun c_1 => ?_)
  · exact absurd (of_decide_eq_true c_1) (by decide)
  refine ps_st (S' := (5, [(0, .ref o), (1, .int (nI j)), (2, .int 0)], [.int 0], M)) rfl rfl rfl ?_
  refine ps_st (S' := (6, [(0, .ref o), (1, .int (nI j)), (2, .int 0)], [.int 2, .int 0], M)) rfl rfl rfl ?_
  refine ps_if2 (S1 := (19, [(0, .ref o), (1, .int (nI j)), (2, .int 0)], [], M)) (S2 := (9, [(0, .ref o), (1, .int (nI j)), (2, .int 0)], [], M)) rfl rfl rfl (fun c_6 => ?_) (fun c_6 => ?_)
  rotate_left
  · exact absurd (by decide) (of_decide_eq_false c_6)
  refine ps_st (S' := (20, [(0, .ref o), (1, .int (nI j)), (2, .int 0)], [.ref o], M)) rfl rfl rfl ?_
  refine ps_get (S' := (23, [(0, .ref o), (1, .int (nI j)), (2, .int 0)], [.ref c], M)) rfl h_o rfl rfl ?_
  refine ps_st (S' := (26, [(0, .ref o), (1, .int (nI j)), (2, .int 0)], [], M)) rfl rfl rfl ?_
  refine ps_st (S' := (27, [(0, .ref o), (1, .int (nI j)), (2, .int 0)], [.int (nI j)], M)) rfl rfl rfl ?_
  refine ps_if (S1 := (44, [], [], M)) (S2 := (30, [(0, .ref o), (1, .int (nI j)), (2, .int 0)], [], M)) rfl rfl rfl (fun c_27 => ?_) (fun c_27 => ?_)
  · exact absurd (of_decide_eq_true c_27) (show ¬ ((nI j) < 0) from fun h9 => absurd ((lt_nI (p := j) (n := 0) (by omega) (by decide)).mp h9) (by omega))
  refine ps_st (S' := (31, [(0, .ref o), (1, .int (nI j)), (2, .int 0)], [.int (nI j)], M)) rfl rfl rfl ?_
  refine ps_st (S' := (32, [(0, .ref o), (1, .int (nI j)), (2, .int 0)], [.ref o, .int (nI j)], M)) rfl rfl rfl ?_
  refine ps_get (S' := (35, [(0, .ref o), (1, .int (nI j)), (2, .int 0)], [.ref c, .int (nI j)], M)) rfl h_o rfl rfl ?_
  refine ps_get (S' := (38, [(0, .ref o), (1, .int (nI j)), (2, .int 0)], [.ref q, .int (nI j)], M)) rfl h_c rfl rfl ?_
  refine ps_get (S' := (41, [(0, .ref o), (1, .int (nI j)), (2, .int 0)], [.int (nI N), .int (nI j)], M)) rfl h_q rfl rfl ?_
  refine ps_if2 (S1 := (46, [(0, .ref o), (1, .int (nI j)), (2, .int 0)], [], M)) (S2 := (44, [], [], M)) rfl rfl rfl (fun c_41 => ?_) (fun c_41 => ?_)
  rotate_left
  · exact absurd ((lt_nI (by omega) (by omega)).mpr hj) (of_decide_eq_false c_41)
  refine ps_st (S' := (47, [(0, .ref o), (1, .int (nI j)), (2, .int 0)], [.int 0], M)) rfl rfl rfl ?_
  refine ps_if (S1 := (62, [(0, .ref o), (1, .int (nI j)), (2, .int 0)], [], M)) (S2 := (50, [(0, .ref o), (1, .int (nI j)), (2, .int 0)], [], M)) rfl rfl rfl (fun c_47 => ?_) (fun c_47 => ?_)
  · exact absurd (of_decide_eq_true c_47) (by decide)
  refine ps_st (S' := (51, [(0, .ref o), (1, .int (nI j)), (2, .int 0)], [.ref o], M)) rfl rfl rfl ?_
  refine ps_get (S' := (54, [(0, .ref o), (1, .int (nI j)), (2, .int 0)], [.ref c], M)) rfl h_o rfl rfl ?_
  refine ps_get (S' := (57, [(0, .ref o), (1, .int (nI j)), (2, .int 0)], [.ref q], M)) rfl h_c rfl rfl ?_
  refine ps_st (S' := (58, [(0, .ref o), (1, .int (nI j)), (2, .int 0)], [.int (nI j), .ref q], M)) rfl rfl rfl ?_
  refine pl_call (a := [.ref q, .int (nI j)]) (rest := []) rfl rfl rfl (dy_tagOf (f := f) (n := n) (N := N) (q := q) (E := E) (j := j) (hV) (by omega)) (fun v1 M2 q3 => ?_)
  obtain ⟨rfl, rfl⟩ := q3
  show pl _ _ _ (61, [(0, .ref o), (1, .int (nI j)), (2, .int 0)], [.int (nI (tg f E j))], M) _
  exact ps_reti rfl (⟨rfl, rfl⟩)
set_option maxHeartbeats 1000000 in
theorem dk_entry_1 {g : xe_G} {M : mi_H} {f : Nat → Int32} {n N q : Nat} {E : List (Nat × Nat)} {o ca fl c b : Nat} {cn wp : Int32} {w : List Value} {j : Nat} (h_o : M.1 o = some (ob 11 [.ref ca, .int cn, .ref fl, .ref c, .int wp])) (h_c : M.1 c = some (ob 3 (.ref b :: .ref q :: w))) (hV : PV g f n N E q M) (hj : j < N) : pt (mT g) 8 [.ref o, .int (nI j), .int 1] M (fun v M' => (v = some (.int (nI (fi f E j))) ∧ M = M')) := by
  refine pt_in (b := mb_8 g) rfl (fun kf => ?_)
  show pl (mT g) kf (mb_8 g).2 (0, [(0, .ref o), (1, .int (nI j)), (2, .int 1)], [], M) _
  obtain ⟨hL9, H, m, qq, F, cc, hP9, -, -, hb9, -⟩ := id hV
  have h_q := hP9.1
  have hN9 := hb9.2.2.1
  refine ps_st (S' := (1, [(0, .ref o), (1, .int (nI j)), (2, .int 1)], [.int 1], M)) rfl rfl rfl ?_
  refine ps_if (S1 := (9, [(0, .ref o), (1, .int (nI j)), (2, .int 1)], [], M)) (S2 := (4, [(0, .ref o), (1, .int (nI j)), (2, .int 1)], [], M)) rfl rfl rfl (fun c_1 => ?_) (fun c_1 => ?_)
  · exact absurd (of_decide_eq_true c_1) (by decide)
  refine ps_st (S' := (5, [(0, .ref o), (1, .int (nI j)), (2, .int 1)], [.int 1], M)) rfl rfl rfl ?_
  refine ps_st (S' := (6, [(0, .ref o), (1, .int (nI j)), (2, .int 1)], [.int 2, .int 1], M)) rfl rfl rfl ?_
  refine ps_if2 (S1 := (19, [(0, .ref o), (1, .int (nI j)), (2, .int 1)], [], M)) (S2 := (9, [(0, .ref o), (1, .int (nI j)), (2, .int 1)], [], M)) rfl rfl rfl (fun c_6 => ?_) (fun c_6 => ?_)
  rotate_left
  · exact absurd (by decide) (of_decide_eq_false c_6)
  refine ps_st (S' := (20, [(0, .ref o), (1, .int (nI j)), (2, .int 1)], [.ref o], M)) rfl rfl rfl ?_
  refine ps_get (S' := (23, [(0, .ref o), (1, .int (nI j)), (2, .int 1)], [.ref c], M)) rfl h_o rfl rfl ?_
  refine ps_st (S' := (26, [(0, .ref o), (1, .int (nI j)), (2, .int 1)], [], M)) rfl rfl rfl ?_
  refine ps_st (S' := (27, [(0, .ref o), (1, .int (nI j)), (2, .int 1)], [.int (nI j)], M)) rfl rfl rfl ?_
  refine ps_if (S1 := (44, [], [], M)) (S2 := (30, [(0, .ref o), (1, .int (nI j)), (2, .int 1)], [], M)) rfl rfl rfl (fun c_27 => ?_) (fun c_27 => ?_)
  · exact absurd (of_decide_eq_true c_27) (show ¬ ((nI j) < 0) from fun h9 => absurd ((lt_nI (p := j) (n := 0) (by omega) (by decide)).mp h9) (by omega))
  refine ps_st (S' := (31, [(0, .ref o), (1, .int (nI j)), (2, .int 1)], [.int (nI j)], M)) rfl rfl rfl ?_
  refine ps_st (S' := (32, [(0, .ref o), (1, .int (nI j)), (2, .int 1)], [.ref o, .int (nI j)], M)) rfl rfl rfl ?_
  refine ps_get (S' := (35, [(0, .ref o), (1, .int (nI j)), (2, .int 1)], [.ref c, .int (nI j)], M)) rfl h_o rfl rfl ?_
  refine ps_get (S' := (38, [(0, .ref o), (1, .int (nI j)), (2, .int 1)], [.ref q, .int (nI j)], M)) rfl h_c rfl rfl ?_
  refine ps_get (S' := (41, [(0, .ref o), (1, .int (nI j)), (2, .int 1)], [.int (nI N), .int (nI j)], M)) rfl h_q rfl rfl ?_
  refine ps_if2 (S1 := (46, [(0, .ref o), (1, .int (nI j)), (2, .int 1)], [], M)) (S2 := (44, [], [], M)) rfl rfl rfl (fun c_41 => ?_) (fun c_41 => ?_)
  rotate_left
  · exact absurd ((lt_nI (by omega) (by omega)).mpr hj) (of_decide_eq_false c_41)
  refine ps_st (S' := (47, [(0, .ref o), (1, .int (nI j)), (2, .int 1)], [.int 1], M)) rfl rfl rfl ?_
  refine ps_if (S1 := (62, [(0, .ref o), (1, .int (nI j)), (2, .int 1)], [], M)) (S2 := (50, [(0, .ref o), (1, .int (nI j)), (2, .int 1)], [], M)) rfl rfl rfl (fun c_47 => ?_) (fun c_47 => ?_)
  rotate_left
  · exact absurd (by decide) (of_decide_eq_false c_47)
  refine ps_st (S' := (63, [(0, .ref o), (1, .int (nI j)), (2, .int 1)], [.int 1], M)) rfl rfl rfl ?_
  refine ps_st (S' := (64, [(0, .ref o), (1, .int (nI j)), (2, .int 1)], [.int 1, .int 1], M)) rfl rfl rfl ?_
  refine ps_if2 (S1 := (81, [(0, .ref o), (1, .int (nI j)), (2, .int 1)], [], M)) (S2 := (67, [(0, .ref o), (1, .int (nI j)), (2, .int 1)], [], M)) rfl rfl rfl (fun c_64 => ?_) (fun c_64 => ?_)
  · exact absurd (of_decide_eq_true c_64) (by decide)
  refine ps_st (S' := (68, [(0, .ref o), (1, .int (nI j)), (2, .int 1)], [.ref o], M)) rfl rfl rfl ?_
  refine ps_get (S' := (71, [(0, .ref o), (1, .int (nI j)), (2, .int 1)], [.ref c], M)) rfl h_o rfl rfl ?_
  refine ps_get (S' := (74, [(0, .ref o), (1, .int (nI j)), (2, .int 1)], [.ref q], M)) rfl h_c rfl rfl ?_
  refine ps_st (S' := (75, [(0, .ref o), (1, .int (nI j)), (2, .int 1)], [.int (nI j), .ref q], M)) rfl rfl rfl ?_
  refine pl_call (a := [.ref q, .int (nI j)]) (rest := []) rfl rfl rfl (dy_firstIndex (f := f) (n := n) (N := N) (q := q) (E := E) (j := j) (hV) (by omega)) (fun v1 M2 q3 => ?_)
  obtain ⟨rfl, rfl⟩ := q3
  show pl _ _ _ (78, [(0, .ref o), (1, .int (nI j)), (2, .int 1)], [.int (nI (fi f E j))], M) _
  refine ps_st (S' := (92, [], [.int (nI (fi f E j))], M)) rfl rfl rfl ?_
  exact ps_reti rfl (⟨rfl, rfl⟩)
set_option maxHeartbeats 1000000 in
theorem dk_entry_2 {g : xe_G} {M : mi_H} {f : Nat → Int32} {n N q : Nat} {E : List (Nat × Nat)} {o ca fl c b : Nat} {cn wp : Int32} {w : List Value} {j : Nat} (h_o : M.1 o = some (ob 11 [.ref ca, .int cn, .ref fl, .ref c, .int wp])) (h_c : M.1 c = some (ob 3 (.ref b :: .ref q :: w))) (hV : PV g f n N E q M) (hj : j < N) : pt (mT g) 8 [.ref o, .int (nI j), .int 2] M (fun v M' => (v = some (.int (nI (se f E j))) ∧ M = M')) := by
  refine pt_in (b := mb_8 g) rfl (fun kf => ?_)
  show pl (mT g) kf (mb_8 g).2 (0, [(0, .ref o), (1, .int (nI j)), (2, .int 2)], [], M) _
  obtain ⟨hL9, H, m, qq, F, cc, hP9, -, -, hb9, -⟩ := id hV
  have h_q := hP9.1
  have hN9 := hb9.2.2.1
  refine ps_st (S' := (1, [(0, .ref o), (1, .int (nI j)), (2, .int 2)], [.int 2], M)) rfl rfl rfl ?_
  refine ps_if (S1 := (9, [(0, .ref o), (1, .int (nI j)), (2, .int 2)], [], M)) (S2 := (4, [(0, .ref o), (1, .int (nI j)), (2, .int 2)], [], M)) rfl rfl rfl (fun c_1 => ?_) (fun c_1 => ?_)
  · exact absurd (of_decide_eq_true c_1) (by decide)
  refine ps_st (S' := (5, [(0, .ref o), (1, .int (nI j)), (2, .int 2)], [.int 2], M)) rfl rfl rfl ?_
  refine ps_st (S' := (6, [(0, .ref o), (1, .int (nI j)), (2, .int 2)], [.int 2, .int 2], M)) rfl rfl rfl ?_
  refine ps_if2 (S1 := (19, [(0, .ref o), (1, .int (nI j)), (2, .int 2)], [], M)) (S2 := (9, [(0, .ref o), (1, .int (nI j)), (2, .int 2)], [], M)) rfl rfl rfl (fun c_6 => ?_) (fun c_6 => ?_)
  rotate_left
  · exact absurd (by decide) (of_decide_eq_false c_6)
  refine ps_st (S' := (20, [(0, .ref o), (1, .int (nI j)), (2, .int 2)], [.ref o], M)) rfl rfl rfl ?_
  refine ps_get (S' := (23, [(0, .ref o), (1, .int (nI j)), (2, .int 2)], [.ref c], M)) rfl h_o rfl rfl ?_
  refine ps_st (S' := (26, [(0, .ref o), (1, .int (nI j)), (2, .int 2)], [], M)) rfl rfl rfl ?_
  refine ps_st (S' := (27, [(0, .ref o), (1, .int (nI j)), (2, .int 2)], [.int (nI j)], M)) rfl rfl rfl ?_
  refine ps_if (S1 := (44, [], [], M)) (S2 := (30, [(0, .ref o), (1, .int (nI j)), (2, .int 2)], [], M)) rfl rfl rfl (fun c_27 => ?_) (fun c_27 => ?_)
  · exact absurd (of_decide_eq_true c_27) (show ¬ ((nI j) < 0) from fun h9 => absurd ((lt_nI (p := j) (n := 0) (by omega) (by decide)).mp h9) (by omega))
  refine ps_st (S' := (31, [(0, .ref o), (1, .int (nI j)), (2, .int 2)], [.int (nI j)], M)) rfl rfl rfl ?_
  refine ps_st (S' := (32, [(0, .ref o), (1, .int (nI j)), (2, .int 2)], [.ref o, .int (nI j)], M)) rfl rfl rfl ?_
  refine ps_get (S' := (35, [(0, .ref o), (1, .int (nI j)), (2, .int 2)], [.ref c, .int (nI j)], M)) rfl h_o rfl rfl ?_
  refine ps_get (S' := (38, [(0, .ref o), (1, .int (nI j)), (2, .int 2)], [.ref q, .int (nI j)], M)) rfl h_c rfl rfl ?_
  refine ps_get (S' := (41, [(0, .ref o), (1, .int (nI j)), (2, .int 2)], [.int (nI N), .int (nI j)], M)) rfl h_q rfl rfl ?_
  refine ps_if2 (S1 := (46, [(0, .ref o), (1, .int (nI j)), (2, .int 2)], [], M)) (S2 := (44, [], [], M)) rfl rfl rfl (fun c_41 => ?_) (fun c_41 => ?_)
  rotate_left
  · exact absurd ((lt_nI (by omega) (by omega)).mpr hj) (of_decide_eq_false c_41)
  refine ps_st (S' := (47, [(0, .ref o), (1, .int (nI j)), (2, .int 2)], [.int 2], M)) rfl rfl rfl ?_
  refine ps_if (S1 := (62, [(0, .ref o), (1, .int (nI j)), (2, .int 2)], [], M)) (S2 := (50, [(0, .ref o), (1, .int (nI j)), (2, .int 2)], [], M)) rfl rfl rfl (fun c_47 => ?_) (fun c_47 => ?_)
  rotate_left
  · exact absurd (by decide) (of_decide_eq_false c_47)
  refine ps_st (S' := (63, [(0, .ref o), (1, .int (nI j)), (2, .int 2)], [.int 2], M)) rfl rfl rfl ?_
  refine ps_st (S' := (64, [(0, .ref o), (1, .int (nI j)), (2, .int 2)], [.int 1, .int 2], M)) rfl rfl rfl ?_
  refine ps_if2 (S1 := (81, [(0, .ref o), (1, .int (nI j)), (2, .int 2)], [], M)) (S2 := (67, [(0, .ref o), (1, .int (nI j)), (2, .int 2)], [], M)) rfl rfl rfl (fun c_64 => ?_) (fun c_64 => ?_)
  rotate_left
  · exact absurd (by decide) (of_decide_eq_false c_64)
  refine ps_st (S' := (82, [(0, .ref o), (1, .int (nI j)), (2, .int 2)], [.ref o], M)) rfl rfl rfl ?_
  refine ps_get (S' := (85, [(0, .ref o), (1, .int (nI j)), (2, .int 2)], [.ref c], M)) rfl h_o rfl rfl ?_
  refine ps_get (S' := (88, [(0, .ref o), (1, .int (nI j)), (2, .int 2)], [.ref q], M)) rfl h_c rfl rfl ?_
  refine ps_st (S' := (89, [(0, .ref o), (1, .int (nI j)), (2, .int 2)], [.int (nI j), .ref q], M)) rfl rfl rfl ?_
  refine pl_call (a := [.ref q, .int (nI j)]) (rest := []) rfl rfl rfl (dy_secondIndex (f := f) (n := n) (N := N) (q := q) (E := E) (j := j) (hV) (by omega)) (fun v1 M2 q3 => ?_)
  obtain ⟨rfl, rfl⟩ := q3
  show pl _ _ _ (92, [], [.int (nI (se f E j))], M) _
  exact ps_reti rfl (⟨rfl, rfl⟩)
theorem dk_entry {g : xe_G} {M : mi_H} {ko : Option (Nat × (Nat → Int32))} {kv : Value} {cm o fl : Nat} {cn wp k p : Int32} (hx : M.1 o = some (ob 11 [.ref cm, .int cn, .ref fl, kv, .int wp])) (hK : KPC g ko kv cm M) (hp0 : ¬ p < 0) (hp1 : p ≤ 2) : pt (mT g) 8 [.ref o, .int k, .int p] M (fun v M' => v = some (.int (enK ko k p)) ∧ M = M') := by
  cases ko with
  | none =>
    have e : kv = .null := hK
    subst e
    exact dk_entry0 hx hp0 hp1
  | some r =>
    obtain ⟨c, da, rfl, ⟨b, q, N, E, p1, pF, pM, pA, w, h1, h2, h3, h4, h5, rfl, -⟩, -, -⟩ := hK
    rw [enK_is h5]
    have hN := by2_lt r.2 8
    unfold enI
    by_cases hk : k < 0 ∨ nI (by2 r.2 8) ≤ k
    · rw [if_pos hk]
      exact dk_entryN hx h1 hp0 hp1 h4 hk
    · rw [if_neg hk]
      obtain ⟨e, hj⟩ := i32_in hN hk
      obtain ⟨j, ej⟩ : ∃ j, j = k.toNatClampNeg := ⟨_, rfl⟩
      rw [← ej] at e hj ⊢
      subst e
      rcases i32_3 hp0 hp1 with rfl | rfl | rfl
      · exact dk_entry_0 hx h1 h4 hj
      · exact dk_entry_1 hx h1 h4 hj
      · exact dk_entry_2 hx h1 h4 hj
end
section

end
section
/-! a character of a text, as both sides tell it (my own text) -/
section CHA
variable {f : Nat → Int32} {n H m N : Nat} {E : List (Nat × Nat)} {F : Nat → Nat → Int32}
def chI (f : Nat → Int32) (n : Nat) (E : List (Nat × Nat)) (k i : Int32) : Int32 := if tg f E k.toNatClampNeg = 1 ∧ ¬ i < 0 ∧ i.toNatClampNeg < (tX f n E k.toNatClampNeg).length then nI ((tX f n E k.toNatClampNeg).getD i.toNatClampNeg 0) else -1
def chK (ko : Option (Nat × (Nat → Int32))) (k i : Int32) : Int32 := match ko with
  | none => -1
  | some r => match s_whole r.2 r.1 with
    | .inl _ => -1
    | .inr y => chI r.2 r.1 y.1 k i
theorem chK_is {r : Nat × (Nat → Int32)} {k p : Int32} {y : Nat × Nat × Nat × Nat} (h : s_whole r.2 r.1 = .inr (E, y)) : chK (some r) k p = chI r.2 r.1 E k p := by
  show (match s_whole r.2 r.1 with | .inl _ => -1 | .inr y => chI r.2 r.1 y.1 k p) = _
  rw [h]
theorem i32_cl {k : Int32} (h : k < 0) : k.toNatClampNeg = 0 := by
  have h1 := Int32.lt_iff_toInt_lt.mp h
  have e0 : (0 : Int32).toInt = 0 := rfl
  show k.toInt.toNat = 0
  omega
theorem i32_to {k : Int32} (h : ¬ k < 0) : (k.toNatClampNeg : Int) = k.toInt := by
  have h1 := Int32.le_iff_toInt_le.mp (Int32.not_lt.mp h)
  have e0 : (0 : Int32).toInt = 0 := rfl
  show ((k.toInt.toNat : Nat) : Int) = _
  omega
theorem i32_ge {k : Int32} {N : Nat} (hN : N ≤ 65540) (h0 : ¬ k < 0) (h : ¬ k < nI N) : N ≤ k.toNatClampNeg := by
  have h1 := Int32.le_iff_toInt_le.mp (Int32.not_lt.mp h)
  rw [nI_val (by omega)] at h1
  have h2 := i32_to h0
  omega
theorem i32_lt {k : Int32} {N : Nat} (hN : N ≤ 65540) (h0 : ¬ k < 0) (h : k.toNatClampNeg < N) : k < nI N := by
  apply Int32.lt_iff_toInt_lt.mpr
  rw [nI_val (by omega)]
  have h2 := i32_to h0
  omega
theorem VF.tagR (h : VF f n E H m F) (hH : H ≤ 65536) (h0 : tg f E 0 = 0) (k : Int32) : sp_tagOf H m F k = nI (tg f E k.toNatClampNeg) := by
  unfold sp_tagOf
  by_cases h1 : k < 0
  · rw [if_pos h1, i32_cl h1, h0]
    rfl
  · rw [if_neg h1]
    by_cases h2 : k < nI H
    · rw [if_pos h2]
      exact h.1 _
    · rw [if_neg h2, h.2.1 _ (i32_ge (by omega) h1 h2)]
      rfl
theorem VF.charR (h : VF f n E H m F) (hH : H ≤ 65536) (hm : m ≤ 65540) (h0 : tg f E 0 = 0) (k i : Int32) : sp_characterAt H m F k i = chI f n E k i := by
  unfold sp_characterAt chI
  rw [h.tagR hH h0 k]
  obtain ⟨j, hj⟩ : ∃ j, j = k.toNatClampNeg := ⟨_, rfl⟩
  rw [← hj]
  by_cases h1 : tg f E j = 1
  · obtain ⟨c, a1, a2, a3, a4⟩ := h.2.2.2.2 j h1
    rw [if_neg (by rw [h1]; exact fun q => q rfl)]
    by_cases h2 : i < 0
    · rw [if_pos h2, if_neg (fun q => q.2.1 h2)]
    · rw [if_neg h2, a2, a1]
      have hl := tx_len f n E j
      by_cases h3 : i.toNatClampNeg < (tX f n E j).length
      · rw [if_pos (i32_lt (by omega) h2 h3), if_pos ⟨h1, h2, h3⟩]
        have e := i32_nn h2
        obtain ⟨t, ht⟩ : ∃ t, t = i.toNatClampNeg := ⟨_, rfl⟩
        rw [← ht] at h3 e ⊢
        rw [e, nI_add1 rfl (by omega), nI_toNat (by omega), a4 t h3]
      · rw [if_neg (fun q => h3 ?_), if_neg (fun q => h3 q.2.2)]
        have h4 := Int32.lt_iff_toInt_lt.mp q
        rw [nI_val (by omega)] at h4
        have h5 := i32_to h2
        omega
  · rw [if_pos (show ¬ nI (tg f E j) = 1 from fun q => h1 ((eq_nI (p := tg f E j) (n := 1) (Nat.lt_trans (tg_lt _ _ _) (by decide)) (by decide)).mp q)), if_neg (fun q => h1 q.1)]
theorem s_ents_1 {mj : Nat} : ∀ {r k p p' : Nat} {E0 E : List (Nat × Nat)}, 1 ≤ k → (∀ q ∈ E0, 1 ≤ q.1) → s_ents f n mj N r k p E0 = .inr (p', E) → ∀ q ∈ E, 1 ≤ q.1 := by
  intro r
  induction r with
  | zero => intro k p p' E0 E hk h0 h; cases h; exact h0
  | succ r ih =>
    intro k p p' E0 E hk h0 h
    unfold s_ents at h
    split at h
    · cases h; exact h0
    · cases he : s_entry f n mj N k p with
      | inl e => rw [he] at h; cases h
      | inr y =>
        obtain ⟨p2, x⟩ := y
        rw [he] at h
        refine ih (k := if by1 f p = 5 ∨ by1 f p = 6 then k + 2 else k + 1) ?_ ?_ h
        · split <;> omega
        · intro q hq
          rcases List.mem_append.mp hq with hq | hq
          · exact h0 q hq
          · have e : q = (k, p) := by simpa using hq
            rw [e]
            exact hk
/-- number 0 is no entry's -/
theorem tg_0 {mj p' : Nat} (h : s_pool f n mj = .inr (p', E)) : tg f E 0 = 0 := by
  unfold s_pool at h
  split at h
  · cases h
  · split at h
    · cases h
    · unfold tg
      cases hk : lk E 0 with
      | none => rfl
      | some p => exact absurd (s_ents_1 (by decide) (fun q hq => by cases hq) h _ (lk_in hk)) (show ¬ 1 ≤ 0 by decide)
end CHA
theorem dz_characterAt {g : xe_G} {M : mi_H} {f : Nat → Int32} {n N q : Nat} {E : List (Nat × Nat)} {k i : Int32}  (hV : PV g f n N E q M) (h0 : tg f E 0 = 0) : pt (mT g) 113 [.ref q, .int k, .int i] M (fun v M' => (v = some (.int (chI f n E k i)) ∧ M = M')) := by
  obtain ⟨hL9, H, m, qq, F, cc, hP9, hT9, -, hb9, hVF, -⟩ := id hV
  exact ((ct_characterAt hP9 hT9 (by omega) (d := 2) (Nat.le_refl _)).pt).mono (fun v M' h => ⟨by rw [h.1, hVF.charR hb9.1 hb9.2.1 h0], h.2.symm⟩)
set_option maxHeartbeats 1000000 in
theorem dk_character0 {g : xe_G} {M : mi_H} {o ca fl : Nat} {cn wp k i : Int32} (h_o : M.1 o = some (ob 11 [.ref ca, .int cn, .ref fl, .null, .int wp]))  : pt (mT g) 3 [.ref o, .int k, .int i] M (fun v M' => (v = some (.int (-1)) ∧ M = M')) := by
  refine pt_in (b := mb_3 g) rfl (fun kf => ?_)
  show pl (mT g) kf (mb_3 g).2 (0, [(0, .ref o), (1, .int k), (2, .int i)], [], M) _
  refine ps_st (S' := (1, [(0, .ref o), (1, .int k), (2, .int i)], [.ref o], M)) rfl rfl rfl ?_
  refine ps_get (S' := (4, [(0, .ref o), (1, .int k), (2, .int i)], [.null], M)) rfl h_o rfl rfl ?_
  refine ps_st (S' := (7, [(0, .ref o), (1, .int k), (2, .int i)], [], M)) rfl rfl rfl ?_
  refine ps_st (S' := (8, [(0, .ref o), (1, .int k), (2, .int i)], [.int (-1)], M)) rfl rfl rfl ?_
  refine ps_st (S' := (23, [], [.int (-1)], M)) rfl rfl rfl ?_
  exact ps_ret rfl rfl (⟨rfl, rfl⟩)
set_option maxHeartbeats 1000000 in
theorem dk_characterK {g : xe_G} {M : mi_H} {f : Nat → Int32} {n N q : Nat} {E : List (Nat × Nat)} {o ca fl c b : Nat} {cn wp : Int32} {w : List Value} {k i : Int32} (h_o : M.1 o = some (ob 11 [.ref ca, .int cn, .ref fl, .ref c, .int wp])) (h_c : M.1 c = some (ob 3 (.ref b :: .ref q :: w))) (hV : PV g f n N E q M) (h0 : tg f E 0 = 0) : pt (mT g) 3 [.ref o, .int k, .int i] M (fun v M' => (v = some (.int (chI f n E k i)) ∧ M = M')) := by
  refine pt_in (b := mb_3 g) rfl (fun kf => ?_)
  show pl (mT g) kf (mb_3 g).2 (0, [(0, .ref o), (1, .int k), (2, .int i)], [], M) _
  obtain ⟨hL9, H, m, qq, F, cc, hP9, -, -, hb9, -⟩ := id hV
  have h_q := hP9.1
  have hN9 := hb9.2.2.1
  refine ps_st (S' := (1, [(0, .ref o), (1, .int k), (2, .int i)], [.ref o], M)) rfl rfl rfl ?_
  refine ps_get (S' := (4, [(0, .ref o), (1, .int k), (2, .int i)], [.ref c], M)) rfl h_o rfl rfl ?_
  refine ps_st (S' := (11, [(0, .ref o), (1, .int k), (2, .int i)], [], M)) rfl rfl rfl ?_
  refine ps_st (S' := (12, [(0, .ref o), (1, .int k), (2, .int i)], [.ref o], M)) rfl rfl rfl ?_
  refine ps_get (S' := (15, [(0, .ref o), (1, .int k), (2, .int i)], [.ref c], M)) rfl h_o rfl rfl ?_
  refine ps_get (S' := (18, [(0, .ref o), (1, .int k), (2, .int i)], [.ref q], M)) rfl h_c rfl rfl ?_
  refine ps_st (S' := (19, [(0, .ref o), (1, .int k), (2, .int i)], [.int k, .ref q], M)) rfl rfl rfl ?_
  refine ps_st (S' := (20, [(0, .ref o), (1, .int k), (2, .int i)], [.int i, .int k, .ref q], M)) rfl rfl rfl ?_
  refine pl_call (a := [.ref q, .int k, .int i]) (rest := []) rfl rfl rfl (dz_characterAt (f := f) (n := n) (N := N) (q := q) (E := E) (k := k) (i := i) (hV) (h0)) (fun v1 M2 q3 => ?_)
  obtain ⟨rfl, rfl⟩ := q3
  show pl _ _ _ (23, [], [.int (chI f n E k i)], M) _
  exact ps_reti rfl (⟨rfl, rfl⟩)
theorem dk_character {g : xe_G} {M : mi_H} {ko : Option (Nat × (Nat → Int32))} {kv : Value} {cm o fl : Nat} {cn wp k i : Int32} (hx : M.1 o = some (ob 11 [.ref cm, .int cn, .ref fl, kv, .int wp])) (hK : KPC g ko kv cm M) : pt (mT g) 3 [.ref o, .int k, .int i] M (fun v M' => v = some (.int (chK ko k i)) ∧ M = M') := by
  cases ko with
  | none =>
    have e : kv = .null := hK
    subst e
    exact dk_character0 hx
  | some r =>
    obtain ⟨c, da, rfl, ⟨b, q, N, E, p1, pF, pM, pA, w, h1, h2, h3, h4, h5, rfl, -⟩, -, -⟩ := hK
    rw [chK_is h5]
    exact dk_characterK hx h1 h4 (tg_0 (whole_in h5))
end
section
set_option maxHeartbeats 1000000 in
theorem rd_tagO {g : xe_G} {m0 : Nat} {q : Nat → Nat} {z : Nat × Nat} {I : rI} {R : rR} {M : mi_H} {n : Nat} {f : Nat → Int32} {tx : List (List Nat)} {cN : Nat} {A : Nat → Nat} {N mj : Nat} {E : List (Nat × Nat)} {k : Int32} (hR : RS g m0 q z I R M) (hi51 : I 51 = some 0) (hi52 : I 52 = some (nI N)) (hi53 : I 53 = some (nI mj)) (hF : FK n f I R) (hY : SYT tx cN A I R) (hP : RPV f n E tx N I R) (hEP : EP f n E) (hN : N < 65536) (hk : k ≤ 0 ∨ nI N ≤ k) : pt (mT g) 247 [.ref m0, .int k] M (fun v M' => (v = some (.int 0) ∧ M = M')) := by
  refine pt_in (b := mb_247 g) rfl (fun kf => ?_)
  show pl (mT g) kf (mb_247 g).2 (0, [(0, .ref m0), (1, .int k)], [], M) _
  refine ps_st (S' := (1, [(0, .ref m0), (1, .int k)], [.int k], M)) rfl rfl rfl ?_
  refine ps_if (S1 := (26, [], [], M)) (S2 := (4, [(0, .ref m0), (1, .int k)], [], M)) rfl rfl rfl (fun c_1 => ?_) (fun c_1 => ?_)
  · have c_1 : k ≤ 0 := of_decide_eq_true c_1
    refine ps_st (S' := (27, [], [.int 0], M)) rfl rfl rfl ?_
    refine ps_st (S' := (45, [], [.int 0], M)) rfl rfl rfl ?_
    exact ps_ret rfl rfl (⟨rfl, rfl⟩)
  · have c_1 : ¬ (k ≤ 0) := of_decide_eq_false c_1
    refine ps_st (S' := (5, [(0, .ref m0), (1, .int k)], [.int k], M)) rfl rfl rfl ?_
    refine ps_st (S' := (6, [(0, .ref m0), (1, .int k)], [.ref m0, .int k], M)) rfl rfl rfl ?_
    refine pr_int (j := 52) (S' := (9, [(0, .ref m0), (1, .int k)], [.int (nI N), .int k], M)) rfl hR rfl hi52 rfl ?_
    refine ps_if2 (S1 := (26, [], [], M)) (S2 := (12, [(0, .ref m0), (1, .int k)], [], M)) rfl rfl rfl (fun c_9 => ?_) (fun c_9 => ?_)
    · have c_9 : (nI N) ≤ k := of_decide_eq_true c_9
      refine ps_st (S' := (27, [], [.int 0], M)) rfl rfl rfl ?_
      refine ps_st (S' := (45, [], [.int 0], M)) rfl rfl rfl ?_
      exact ps_ret rfl rfl (⟨rfl, rfl⟩)
    · have c_9 : ¬ ((nI N) ≤ k) := of_decide_eq_false c_9
      exfalso
      rcases hk with h9 | h9
      · exact absurd h9 (by assumption)
      · exact absurd h9 (by assumption)
theorem rd_tagR {g : xe_G} {m0 : Nat} {q : Nat → Nat} {z : Nat × Nat} {I : rI} {R : rR} {M : mi_H} {n : Nat} {f : Nat → Int32} {tx : List (List Nat)} {cN : Nat} {A : Nat → Nat} {N mj : Nat} {E : List (Nat × Nat)} {k : Int32} (hR : RS g m0 q z I R M) (hi51 : I 51 = some 0) (hi52 : I 52 = some (nI N)) (hi53 : I 53 = some (nI mj)) (hF : FK n f I R) (hY : SYT tx cN A I R) (hP : RPV f n E tx N I R) (hEP : EP f n E) (hN : N < 65536) (hmj : mj < 65536) (h0 : tg f E 0 = 0) : pt (mT g) 247 [.ref m0, .int k] M (fun v M' => (v = some (.int (nI (tg f E k.toNatClampNeg))) ∧ M = M')) := by
  by_cases hk : k ≤ 0 ∨ nI N ≤ k
  · have e : tg f E k.toNatClampNeg = 0 := by
      by_cases h1 : k < 0
      · rw [i32_cl h1]
        exact h0
      · rcases hk with h2 | h2
        · have h3 : k = 0 := Int32.le_antisymm h2 (Int32.not_lt.mp h1)
          rw [h3]
          exact h0
        · have h3 := i32_ge (N := N) (by omega) h1 (Int32.not_lt.mpr h2)
          unfold tg
          rw [lk_hi hP.1 (Or.inr h3)]
    rw [e]
    exact rd_tagO hR hi51 hi52 hi53 hF hY hP hEP hN hk
  · have h1 : ¬ k < 0 := fun h9 => hk (Or.inl (Int32.le_of_lt h9))
    obtain ⟨e, hj⟩ := i32_in hN (fun h9 => h9.elim h1 (fun h8 => hk (Or.inr h8)))
    obtain ⟨j, ej⟩ : ∃ j, j = k.toNatClampNeg := ⟨_, rfl⟩
    rw [← ej] at e hj ⊢
    subst e
    exact rd_tag hR hi51 hi52 hi53 hF hY hP hEP hN hmj (by omega)
set_option maxHeartbeats 1000000 in
theorem rd_character0 {g : xe_G} {m0 : Nat} {q : Nat → Nat} {z : Nat × Nat} {I : rI} {R : rR} {M : mi_H} {kn k i : Int32} (hR : RS g m0 q z I R M) (hi18 : I 18 = some kn)  (hk : kn < 0) : pt (mT g) 186 [.ref m0, .int k, .int i] M (fun v M' => (∃  (I' : rI) (R' : rR), v = some (.int (-1)) ∧ RS g m0 q z I' R' M' ∧ eqI [0] I I' ∧ eqR [] R R' ∧ I' 0 = some 0)) := by
  refine pt_in (b := mb_186 g) rfl (fun kf => ?_)
  show pl (mT g) kf (mb_186 g).2 (0, [(0, .ref m0), (1, .int k), (2, .int i)], [], M) _
  have hEI : eqI [0] I I := eqI.rf
  have hER : eqR [] R R := eqR.rf
  refine ps_st (S' := (1, [(0, .ref m0), (1, .int k), (2, .int i)], [.ref m0], M)) rfl rfl rfl ?_
  refine ps_st (S' := (2, [(0, .ref m0), (1, .int k), (2, .int i)], [.int 0, .ref m0], M)) rfl rfl rfl ?_
  refine pr_put (j := 0) rfl hR rfl (fun M1 I2 hR3 hi4 hI5 => ?_)
  have hi6 := (hI5 18 (by decide)).trans hi18
  have hEI7 := hEI.put hI5 (by decide)
  show pl _ _ _ (5, [(0, .ref m0), (1, .int k), (2, .int i)], [], M1) _
  refine ps_st (S' := (6, [(0, .ref m0), (1, .int k), (2, .int i)], [.ref m0], M1)) rfl rfl rfl ?_
  refine pr_int (j := 18) (S' := (9, [(0, .ref m0), (1, .int k), (2, .int i)], [.int kn], M1)) rfl hR3 rfl hi6 rfl ?_
  refine ps_if (S1 := (38, [], [], M1)) (S2 := (12, [(0, .ref m0), (1, .int k), (2, .int i)], [], M1)) rfl rfl rfl (fun c_9 => ?_) (fun c_9 => ?_)
  rotate_left
  · exact absurd (hk) (of_decide_eq_false c_9)
  refine ps_st (S' := (39, [], [.int (-1)], M1)) rfl rfl rfl ?_
  refine ps_st (S' := (52, [], [.int (-1)], M1)) rfl rfl rfl ?_
  exact ps_ret rfl rfl (⟨I2, R, rfl, hR3, hEI7, hER, hi4⟩)
set_option maxHeartbeats 1000000 in
theorem rd_characterT {g : xe_G} {m0 : Nat} {q : Nat → Nat} {z : Nat × Nat} {I : rI} {R : rR} {M : mi_H} {n : Nat} {f : Nat → Int32} {tx : List (List Nat)} {cN : Nat} {A : Nat → Nat} {N mj : Nat} {E : List (Nat × Nat)} {n2 : Nat} {k i : Int32} (hR : RS g m0 q z I R M) (hi18 : I 18 = some (nI n2)) (hi51 : I 51 = some 0) (hi52 : I 52 = some (nI N)) (hi53 : I 53 = some (nI mj)) (hF : FK n f I R) (hY : SYT tx cN A I R) (hP : RPV f n E tx N I R) (hEP : EP f n E) (hN : N < 65536) (hmj : mj < 65536) (hn2 : n2 ≤ 65540) (h0 : tg f E 0 = 0) (ht : ¬ tg f E k.toNatClampNeg = 1) : pt (mT g) 186 [.ref m0, .int k, .int i] M (fun v M' => (∃  (I' : rI) (R' : rR), v = some (.int (-1)) ∧ RS g m0 q z I' R' M' ∧ eqI [0] I I' ∧ eqR [] R R' ∧ I' 0 = some 0)) := by
  refine pt_in (b := mb_186 g) rfl (fun kf => ?_)
  show pl (mT g) kf (mb_186 g).2 (0, [(0, .ref m0), (1, .int k), (2, .int i)], [], M) _
  have hEI : eqI [0] I I := eqI.rf
  have hER : eqR [] R R := eqR.rf
  refine ps_st (S' := (1, [(0, .ref m0), (1, .int k), (2, .int i)], [.ref m0], M)) rfl rfl rfl ?_
  refine ps_st (S' := (2, [(0, .ref m0), (1, .int k), (2, .int i)], [.int 0, .ref m0], M)) rfl rfl rfl ?_
  refine pr_put (j := 0) rfl hR rfl (fun M1 I2 hR3 hi4 hI5 => ?_)
  have hi6 := (hI5 18 (by decide)).trans hi18
  have hi7 := (hI5 51 (by decide)).trans hi51
  have hi8 := (hI5 52 (by decide)).trans hi52
  have hi9 := (hI5 53 (by decide)).trans hi53
  have hF_10 := hF.mono (pIx hI5 (by decide)) (fun _ _ => rfl)
  have hY_11 := hY.mono (pIx hI5 (by decide)) (fun _ _ => rfl)
  have hP_12 := hP.mono (pIx hI5 (by decide)) (fun _ _ => rfl)
  have hEI13 := hEI.put hI5 (by decide)
  show pl _ _ _ (5, [(0, .ref m0), (1, .int k), (2, .int i)], [], M1) _
  refine ps_st (S' := (6, [(0, .ref m0), (1, .int k), (2, .int i)], [.ref m0], M1)) rfl rfl rfl ?_
  refine pr_int (j := 18) (S' := (9, [(0, .ref m0), (1, .int k), (2, .int i)], [.int (nI n2)], M1)) rfl hR3 rfl hi6 rfl ?_
  refine ps_if (S1 := (38, [], [], M1)) (S2 := (12, [(0, .ref m0), (1, .int k), (2, .int i)], [], M1)) rfl rfl rfl (fun c_9 => ?_) (fun c_9 => ?_)
  · exact absurd (of_decide_eq_true c_9) (show ¬ ((nI n2) < 0) from fun h9 => absurd ((lt_nI (p := n2) (n := 0) (by omega) (by decide)).mp h9) (by omega))
  refine ps_st (S' := (13, [(0, .ref m0), (1, .int k), (2, .int i)], [.ref m0], M1)) rfl rfl rfl ?_
  refine ps_st (S' := (14, [(0, .ref m0), (1, .int k), (2, .int i)], [.int k, .ref m0], M1)) rfl rfl rfl ?_
  refine pl_call (a := [.ref m0, .int k]) (rest := []) rfl rfl rfl (rd_tagR (n := n) (f := f) (tx := tx) (cN := cN) (A := A) (N := N) (mj := mj) (E := E) (k := k) hR3 hi7 hi8 hi9 hF_10 hY_11 hP_12 (hEP) (hN) (hmj) (h0)) (fun v14 M15 q16 => ?_)
  obtain ⟨rfl, rfl⟩ := q16
  show pl _ _ _ (17, [(0, .ref m0), (1, .int k), (2, .int i)], [.int (nI (tg f E k.toNatClampNeg))], M1) _
  have htg9 := tg_lt f E k.toNatClampNeg
  refine ps_st (S' := (18, [(0, .ref m0), (1, .int k), (2, .int i)], [.int 1, .int (nI (tg f E k.toNatClampNeg))], M1)) rfl rfl rfl ?_
  refine ps_if2 (S1 := (38, [], [], M1)) (S2 := (21, [(0, .ref m0), (1, .int k), (2, .int i)], [], M1)) rfl rfl rfl (fun c_18 => ?_) (fun c_18 => ?_)
  rotate_left
  · exact absurd (show ¬ (nI (tg f E k.toNatClampNeg)) = 1 from fun h9 => ht ((eq_nI (p := tg f E k.toNatClampNeg) (n := 1) (by omega) (by decide)).mp h9)) (of_decide_eq_false c_18)
  refine ps_st (S' := (39, [], [.int (-1)], M1)) rfl rfl rfl ?_
  refine ps_st (S' := (52, [], [.int (-1)], M1)) rfl rfl rfl ?_
  exact ps_ret rfl rfl (⟨I2, R, rfl, hR3, hEI13, hER, hi4⟩)
set_option maxHeartbeats 1000000 in
theorem rd_characterN {g : xe_G} {m0 : Nat} {q : Nat → Nat} {z : Nat × Nat} {I : rI} {R : rR} {M : mi_H} {n : Nat} {f : Nat → Int32} {tx : List (List Nat)} {cN : Nat} {A : Nat → Nat} {N mj : Nat} {E : List (Nat × Nat)} {n2 : Nat} {j : Nat} {i : Int32} (hR : RS g m0 q z I R M) (hi18 : I 18 = some (nI n2)) (hi51 : I 51 = some 0) (hi52 : I 52 = some (nI N)) (hi53 : I 53 = some (nI mj)) (hF : FK n f I R) (hY : SYT tx cN A I R) (hP : RPV f n E tx N I R) (hEP : EP f n E) (hN : N < 65536) (hmj : mj < 65536) (hn2 : n2 ≤ 65540) (hj : j < 65536) (h1t : tg f E j = 1) (hi : i < 0 ∨ ¬ i < nI (tX f n E j).length) : pt (mT g) 186 [.ref m0, .int (nI j), .int i] M (fun v M' => (∃  (I' : rI) (R' : rR), v = some (.int (-1)) ∧ RS g m0 q z I' R' M' ∧ eqI [0] I I' ∧ eqR [] R R' ∧ I' 0 = some 0)) := by
  refine pt_in (b := mb_186 g) rfl (fun kf => ?_)
  show pl (mT g) kf (mb_186 g).2 (0, [(0, .ref m0), (1, .int (nI j)), (2, .int i)], [], M) _
  have hEI : eqI [0] I I := eqI.rf
  have hER : eqR [] R R := eqR.rf
  have hn := hF.1
  have hlx := tx_len f n E j
  refine ps_st (S' := (1, [(0, .ref m0), (1, .int (nI j)), (2, .int i)], [.ref m0], M)) rfl rfl rfl ?_
  refine ps_st (S' := (2, [(0, .ref m0), (1, .int (nI j)), (2, .int i)], [.int 0, .ref m0], M)) rfl rfl rfl ?_
  refine pr_put (j := 0) rfl hR rfl (fun M1 I2 hR3 hi4 hI5 => ?_)
  have hi6 := (hI5 18 (by decide)).trans hi18
  have hi7 := (hI5 51 (by decide)).trans hi51
  have hi8 := (hI5 52 (by decide)).trans hi52
  have hi9 := (hI5 53 (by decide)).trans hi53
  have hF_10 := hF.mono (pIx hI5 (by decide)) (fun _ _ => rfl)
  have hY_11 := hY.mono (pIx hI5 (by decide)) (fun _ _ => rfl)
  have hP_12 := hP.mono (pIx hI5 (by decide)) (fun _ _ => rfl)
  have hEI13 := hEI.put hI5 (by decide)
  show pl _ _ _ (5, [(0, .ref m0), (1, .int (nI j)), (2, .int i)], [], M1) _
  refine ps_st (S' := (6, [(0, .ref m0), (1, .int (nI j)), (2, .int i)], [.ref m0], M1)) rfl rfl rfl ?_
  refine pr_int (j := 18) (S' := (9, [(0, .ref m0), (1, .int (nI j)), (2, .int i)], [.int (nI n2)], M1)) rfl hR3 rfl hi6 rfl ?_
  refine ps_if (S1 := (38, [], [], M1)) (S2 := (12, [(0, .ref m0), (1, .int (nI j)), (2, .int i)], [], M1)) rfl rfl rfl (fun c_9 => ?_) (fun c_9 => ?_)
  · exact absurd (of_decide_eq_true c_9) (show ¬ ((nI n2) < 0) from fun h9 => absurd ((lt_nI (p := n2) (n := 0) (by omega) (by decide)).mp h9) (by omega))
  refine ps_st (S' := (13, [(0, .ref m0), (1, .int (nI j)), (2, .int i)], [.ref m0], M1)) rfl rfl rfl ?_
  refine ps_st (S' := (14, [(0, .ref m0), (1, .int (nI j)), (2, .int i)], [.int (nI j), .ref m0], M1)) rfl rfl rfl ?_
  refine pl_call (a := [.ref m0, .int (nI j)]) (rest := []) rfl rfl rfl (rd_tag (n := n) (f := f) (tx := tx) (cN := cN) (A := A) (N := N) (mj := mj) (E := E) (k := j) hR3 hi7 hi8 hi9 hF_10 hY_11 hP_12 (hEP) (hN) (hmj) (by omega)) (fun v14 M15 q16 => ?_)
  obtain ⟨rfl, rfl⟩ := q16
  show pl _ _ _ (17, [(0, .ref m0), (1, .int (nI j)), (2, .int i)], [.int (nI (tg f E j))], M1) _
  have htg_14 := tg_lt f E j
  refine ps_st (S' := (18, [(0, .ref m0), (1, .int (nI j)), (2, .int i)], [.int 1, .int (nI (tg f E j))], M1)) rfl rfl rfl ?_
  refine ps_if2 (S1 := (38, [], [], M1)) (S2 := (21, [(0, .ref m0), (1, .int (nI j)), (2, .int i)], [], M1)) rfl rfl rfl (fun c_18 => ?_) (fun c_18 => ?_)
  · exact absurd (of_decide_eq_true c_18) (fun h9 => h9 (by rw [h1t]; rfl))
  refine ps_st (S' := (22, [(0, .ref m0), (1, .int (nI j)), (2, .int i)], [.int i], M1)) rfl rfl rfl ?_
  refine ps_if (S1 := (38, [], [], M1)) (S2 := (25, [(0, .ref m0), (1, .int (nI j)), (2, .int i)], [], M1)) rfl rfl rfl (fun c_22 => ?_) (fun c_22 => ?_)
  · have c_22 : i < 0 := of_decide_eq_true c_22
    refine ps_st (S' := (39, [], [.int (-1)], M1)) rfl rfl rfl ?_
    refine ps_st (S' := (52, [], [.int (-1)], M1)) rfl rfl rfl ?_
    exact ps_ret rfl rfl (⟨I2, R, rfl, hR3, hEI13, hER, hi4⟩)
  · have c_22 : ¬ (i < 0) := of_decide_eq_false c_22
    refine ps_st (S' := (26, [(0, .ref m0), (1, .int (nI j)), (2, .int i)], [.int i], M1)) rfl rfl rfl ?_
    refine ps_st (S' := (27, [(0, .ref m0), (1, .int (nI j)), (2, .int i)], [.ref m0, .int i], M1)) rfl rfl rfl ?_
    refine ps_st (S' := (28, [(0, .ref m0), (1, .int (nI j)), (2, .int i)], [.ref m0, .ref m0, .int i], M1)) rfl rfl rfl ?_
    refine ps_st (S' := (29, [(0, .ref m0), (1, .int (nI j)), (2, .int i)], [.int (nI j), .ref m0, .ref m0, .int i], M1)) rfl rfl rfl ?_
    refine pl_call (a := [.ref m0, .int (nI j)]) (rest := [.ref m0, .int i]) rfl rfl rfl (rd_symOf (n := n) (f := f) (tx := tx) (cN := cN) (A := A) (N := N) (mj := mj) (E := E) (k := j) hR3 hi7 hi8 hi9 hF_10 hY_11 hP_12 (hEP) (hN) (hmj) (by omega)) (fun v17 M18 q19 => ?_)
    obtain ⟨s20, q29_s, rfl, rfl⟩ := q19
    show pl _ _ _ (32, [(0, .ref m0), (1, .int (nI j)), (2, .int i)], [.int (nI s20), .ref m0, .int i], M1) _
    have hsl_29 := q29_s.1
    have htl_29 := hY_11.1.2.2.1
    refine pl_call (a := [.ref m0, .int (nI s20)]) (rest := [.int i]) rfl rfl rfl (rd_length (tx := tx) (cN := cN) (A := A) (s := s20) (l := (tX f n E j)) hR3 hY_11 (q29_s)) (fun v21 M22 q23 => ?_)
    obtain ⟨rfl, rfl⟩ := q23
    show pl _ _ _ (35, [(0, .ref m0), (1, .int (nI j)), (2, .int i)], [.int (nI ((tX f n E j).length)), .int i], M1) _
    refine ps_if2 (S1 := (42, [(0, .ref m0), (1, .int (nI j)), (2, .int i)], [], M1)) (S2 := (38, [], [], M1)) rfl rfl rfl (fun c_35 => ?_) (fun c_35 => ?_)
    · exact absurd (of_decide_eq_true c_35) (hi.resolve_left c_22)
    refine ps_st (S' := (39, [], [.int (-1)], M1)) rfl rfl rfl ?_
    refine ps_st (S' := (52, [], [.int (-1)], M1)) rfl rfl rfl ?_
    exact ps_ret rfl rfl (⟨I2, R, rfl, hR3, hEI13, hER, hi4⟩)
set_option maxHeartbeats 1000000 in
theorem rd_characterI {g : xe_G} {m0 : Nat} {q : Nat → Nat} {z : Nat × Nat} {I : rI} {R : rR} {M : mi_H} {n : Nat} {f : Nat → Int32} {tx : List (List Nat)} {cN : Nat} {A : Nat → Nat} {N mj : Nat} {E : List (Nat × Nat)} {n2 : Nat} {j t : Nat} (hR : RS g m0 q z I R M) (hi18 : I 18 = some (nI n2)) (hi51 : I 51 = some 0) (hi52 : I 52 = some (nI N)) (hi53 : I 53 = some (nI mj)) (hF : FK n f I R) (hY : SYT tx cN A I R) (hP : RPV f n E tx N I R) (hEP : EP f n E) (hN : N < 65536) (hmj : mj < 65536) (hn2 : n2 ≤ 65540) (hj : j < 65536) (h1t : tg f E j = 1) (ht : t < (tX f n E j).length) : pt (mT g) 186 [.ref m0, .int (nI j), .int (nI t)] M (fun v M' => (∃  (I' : rI) (R' : rR), v = some (.int (nI ((tX f n E j).getD t 0))) ∧ RS g m0 q z I' R' M' ∧ eqI [0] I I' ∧ eqR [] R R' ∧ I' 0 = some 0)) := by
  refine pt_in (b := mb_186 g) rfl (fun kf => ?_)
  show pl (mT g) kf (mb_186 g).2 (0, [(0, .ref m0), (1, .int (nI j)), (2, .int (nI t))], [], M) _
  have hEI : eqI [0] I I := eqI.rf
  have hER : eqR [] R R := eqR.rf
  have hn := hF.1
  have hlx := tx_len f n E j
  refine ps_st (S' := (1, [(0, .ref m0), (1, .int (nI j)), (2, .int (nI t))], [.ref m0], M)) rfl rfl rfl ?_
  refine ps_st (S' := (2, [(0, .ref m0), (1, .int (nI j)), (2, .int (nI t))], [.int 0, .ref m0], M)) rfl rfl rfl ?_
  refine pr_put (j := 0) rfl hR rfl (fun M1 I2 hR3 hi4 hI5 => ?_)
  have hi6 := (hI5 18 (by decide)).trans hi18
  have hi7 := (hI5 51 (by decide)).trans hi51
  have hi8 := (hI5 52 (by decide)).trans hi52
  have hi9 := (hI5 53 (by decide)).trans hi53
  have hF_10 := hF.mono (pIx hI5 (by decide)) (fun _ _ => rfl)
  have hY_11 := hY.mono (pIx hI5 (by decide)) (fun _ _ => rfl)
  have hP_12 := hP.mono (pIx hI5 (by decide)) (fun _ _ => rfl)
  have hEI13 := hEI.put hI5 (by decide)
  show pl _ _ _ (5, [(0, .ref m0), (1, .int (nI j)), (2, .int (nI t))], [], M1) _
  refine ps_st (S' := (6, [(0, .ref m0), (1, .int (nI j)), (2, .int (nI t))], [.ref m0], M1)) rfl rfl rfl ?_
  refine pr_int (j := 18) (S' := (9, [(0, .ref m0), (1, .int (nI j)), (2, .int (nI t))], [.int (nI n2)], M1)) rfl hR3 rfl hi6 rfl ?_
  refine ps_if (S1 := (38, [], [], M1)) (S2 := (12, [(0, .ref m0), (1, .int (nI j)), (2, .int (nI t))], [], M1)) rfl rfl rfl (fun c_9 => ?_) (fun c_9 => ?_)
  · exact absurd (of_decide_eq_true c_9) (show ¬ ((nI n2) < 0) from fun h9 => absurd ((lt_nI (p := n2) (n := 0) (by omega) (by decide)).mp h9) (by omega))
  refine ps_st (S' := (13, [(0, .ref m0), (1, .int (nI j)), (2, .int (nI t))], [.ref m0], M1)) rfl rfl rfl ?_
  refine ps_st (S' := (14, [(0, .ref m0), (1, .int (nI j)), (2, .int (nI t))], [.int (nI j), .ref m0], M1)) rfl rfl rfl ?_
  refine pl_call (a := [.ref m0, .int (nI j)]) (rest := []) rfl rfl rfl (rd_tag (n := n) (f := f) (tx := tx) (cN := cN) (A := A) (N := N) (mj := mj) (E := E) (k := j) hR3 hi7 hi8 hi9 hF_10 hY_11 hP_12 (hEP) (hN) (hmj) (by omega)) (fun v14 M15 q16 => ?_)
  obtain ⟨rfl, rfl⟩ := q16
  show pl _ _ _ (17, [(0, .ref m0), (1, .int (nI j)), (2, .int (nI t))], [.int (nI (tg f E j))], M1) _
  have htg_14 := tg_lt f E j
  refine ps_st (S' := (18, [(0, .ref m0), (1, .int (nI j)), (2, .int (nI t))], [.int 1, .int (nI (tg f E j))], M1)) rfl rfl rfl ?_
  refine ps_if2 (S1 := (38, [], [], M1)) (S2 := (21, [(0, .ref m0), (1, .int (nI j)), (2, .int (nI t))], [], M1)) rfl rfl rfl (fun c_18 => ?_) (fun c_18 => ?_)
  · exact absurd (of_decide_eq_true c_18) (fun h9 => h9 (by rw [h1t]; rfl))
  refine ps_st (S' := (22, [(0, .ref m0), (1, .int (nI j)), (2, .int (nI t))], [.int (nI t)], M1)) rfl rfl rfl ?_
  refine ps_if (S1 := (38, [], [], M1)) (S2 := (25, [(0, .ref m0), (1, .int (nI j)), (2, .int (nI t))], [], M1)) rfl rfl rfl (fun c_22 => ?_) (fun c_22 => ?_)
  · exact absurd (of_decide_eq_true c_22) (show ¬ ((nI t) < 0) from fun h9 => absurd ((lt_nI (p := t) (n := 0) (by omega) (by decide)).mp h9) (by omega))
  refine ps_st (S' := (26, [(0, .ref m0), (1, .int (nI j)), (2, .int (nI t))], [.int (nI t)], M1)) rfl rfl rfl ?_
  refine ps_st (S' := (27, [(0, .ref m0), (1, .int (nI j)), (2, .int (nI t))], [.ref m0, .int (nI t)], M1)) rfl rfl rfl ?_
  refine ps_st (S' := (28, [(0, .ref m0), (1, .int (nI j)), (2, .int (nI t))], [.ref m0, .ref m0, .int (nI t)], M1)) rfl rfl rfl ?_
  refine ps_st (S' := (29, [(0, .ref m0), (1, .int (nI j)), (2, .int (nI t))], [.int (nI j), .ref m0, .ref m0, .int (nI t)], M1)) rfl rfl rfl ?_
  refine pl_call (a := [.ref m0, .int (nI j)]) (rest := [.ref m0, .int (nI t)]) rfl rfl rfl (rd_symOf (n := n) (f := f) (tx := tx) (cN := cN) (A := A) (N := N) (mj := mj) (E := E) (k := j) hR3 hi7 hi8 hi9 hF_10 hY_11 hP_12 (hEP) (hN) (hmj) (by omega)) (fun v17 M18 q19 => ?_)
  obtain ⟨s20, q29_s, rfl, rfl⟩ := q19
  show pl _ _ _ (32, [(0, .ref m0), (1, .int (nI j)), (2, .int (nI t))], [.int (nI s20), .ref m0, .int (nI t)], M1) _
  have hsl_29 := q29_s.1
  have htl_29 := hY_11.1.2.2.1
  refine pl_call (a := [.ref m0, .int (nI s20)]) (rest := [.int (nI t)]) rfl rfl rfl (rd_length (tx := tx) (cN := cN) (A := A) (s := s20) (l := (tX f n E j)) hR3 hY_11 (q29_s)) (fun v21 M22 q23 => ?_)
  obtain ⟨rfl, rfl⟩ := q23
  show pl _ _ _ (35, [(0, .ref m0), (1, .int (nI j)), (2, .int (nI t))], [.int (nI ((tX f n E j).length)), .int (nI t)], M1) _
  refine ps_if2 (S1 := (42, [(0, .ref m0), (1, .int (nI j)), (2, .int (nI t))], [], M1)) (S2 := (38, [], [], M1)) rfl rfl rfl (fun c_35 => ?_) (fun c_35 => ?_)
  rotate_left
  · exact absurd ((lt_nI (by omega) (by omega)).mpr ht) (of_decide_eq_false c_35)
  refine ps_st (S' := (43, [(0, .ref m0), (1, .int (nI j)), (2, .int (nI t))], [.ref m0], M1)) rfl rfl rfl ?_
  refine ps_st (S' := (44, [(0, .ref m0), (1, .int (nI j)), (2, .int (nI t))], [.ref m0, .ref m0], M1)) rfl rfl rfl ?_
  refine ps_st (S' := (45, [(0, .ref m0), (1, .int (nI j)), (2, .int (nI t))], [.int (nI j), .ref m0, .ref m0], M1)) rfl rfl rfl ?_
  refine pl_call (a := [.ref m0, .int (nI j)]) (rest := [.ref m0]) rfl rfl rfl (rd_symOf (n := n) (f := f) (tx := tx) (cN := cN) (A := A) (N := N) (mj := mj) (E := E) (k := j) hR3 hi7 hi8 hi9 hF_10 hY_11 hP_12 (hEP) (hN) (hmj) (by omega)) (fun v24 M25 q26 => ?_)
  obtain ⟨s27, q45_s, rfl, rfl⟩ := q26
  show pl _ _ _ (48, [(0, .ref m0), (1, .int (nI j)), (2, .int (nI t))], [.int (nI s27), .ref m0], M1) _
  have hsl_45 := q45_s.1
  have htl_45 := hY_11.1.2.2.1
  refine ps_st (S' := (49, [(0, .ref m0), (1, .int (nI j)), (2, .int (nI t))], [.int (nI t), .int (nI s27), .ref m0], M1)) rfl rfl rfl ?_
  refine pl_call (a := [.ref m0, .int (nI s27), .int (nI t)]) (rest := []) rfl rfl rfl (rd_at (tx := tx) (cN := cN) (A := A) (s := s27) (l := (tX f n E j)) (k := t) hR3 hY_11 (q45_s) (ht)) (fun v28 M29 q30 => ?_)
  obtain ⟨rfl, rfl⟩ := q30
  show pl _ _ _ (52, [], [.int (nI ((tX f n E j).getD t 0))], M1) _
  exact ps_reti rfl (⟨I2, R, rfl, hR3, hEI13, hER, hi4⟩)
theorem rd_character {g : xe_G} {m0 : Nat} {q : Nat → Nat} {z : Nat × Nat} {I : rI} {R : rR} {M : mi_H} {ko : Option (Nat × (Nat → Int32))} {k i : Int32} (hR : RS g m0 q z I R M) (hK : KPR ko I R) : pt (mT g) 186 [.ref m0, .int k, .int i] M (fun v M' => ∃ (I' : rI) (R' : rR), v = some (.int (chK ko k i)) ∧ RS g m0 q z I' R' M' ∧ eqI [0] I I' ∧ eqR [] R R' ∧ I' 0 = some 0) := by
  cases ko with
  | none =>
    obtain ⟨kn, h1, h2⟩ := hK
    exact rd_character0 hR h1 h2
  | some r =>
    obtain ⟨h1, h2, -, -, tx, cN, A, E, N, mj, p1, pF, pM, pA, k1, k2, k3, k4, k5, k6, k7, rfl, rfl, -⟩ := hK
    rw [chK_is k7]
    have hN := by2_lt r.2 8
    have hpl := whole_in k7
    have hEP := (EP_of hpl).1
    have h0 := tg_0 hpl
    unfold chI
    by_cases ht : tg r.2 E k.toNatClampNeg = 1
    · have hk0 : ¬ k < 0 := fun h9 => by rw [i32_cl h9, h0] at ht; cases ht
      have e := i32_nn hk0
      obtain ⟨j, ej⟩ : ∃ j, j = k.toNatClampNeg := ⟨_, rfl⟩
      rw [← ej] at e ht ⊢
      have hj : j < 65536 := Nat.not_le.mp (fun h9 => by
        unfold tg at ht
        rw [lk_hi k3.1 (Or.inr (by omega))] at ht
        cases ht)
      subst e
      have hl := tx_len r.2 r.1 E j
      by_cases hi : i < 0 ∨ ¬ i < nI (tX r.2 r.1 E j).length
      · rw [if_neg (fun q => hi.elim q.2.1 (fun h9 => h9 (i32_lt (by omega) q.2.1 q.2.2)))]
        exact rd_characterN hR h1 k4 k5 k6 k1 k2 k3 hEP hN (by2_lt _ _) h2 hj ht hi
      · have hi0 : ¬ i < 0 := fun h9 => hi (Or.inl h9)
        have hi1 : i.toNatClampNeg < (tX r.2 r.1 E j).length := Nat.not_le.mp (fun h9 => hi (Or.inr (fun h8 => by
          have h7 := Int32.lt_iff_toInt_lt.mp h8
          rw [nI_val (by omega)] at h7
          have h6 := i32_to hi0
          omega)))
        rw [if_pos ⟨ht, hi0, hi1⟩]
        have e2 := i32_nn hi0
        obtain ⟨t, et⟩ : ∃ t, t = i.toNatClampNeg := ⟨_, rfl⟩
        rw [← et] at e2 hi1 ⊢
        subst e2
        exact rd_characterI hR h1 k4 k5 k6 k1 k2 k3 hEP hN (by2_lt _ _) h2 hj ht hi1
    · rw [if_neg (fun q => ht q.1)]
      exact rd_characterT hR h1 k4 k5 k6 k1 k2 k3 hEP hN (by2_lt _ _) h2 h0 ht
end
section
/-! the bits of a number, as both sides tell them (my own text) -/
section BIA
variable {f : Nat → Int32} {n : Nat} {E : List (Nat × Nat)} {j : Nat}
def bL4 (f : Nat → Int32) (p : Nat) : Int64 := Int32.toInt64 (nI (by4 f (p + 1)))
def bL8 (f : Nat → Int32) (p : Nat) : Int64 := (nL (by4 f (p + 1)) <<< (Int32.toInt64 32 &&& 63)) ||| nL (by4 f (p + 5))
def plc (E : List (Nat × Nat)) (j : Nat) : Nat := (lk E j).getD 0
def biI (f : Nat → Int32) (E : List (Nat × Nat)) (k : Int32) : Int64 := if tg f E k.toNatClampNeg = 3 ∨ tg f E k.toNatClampNeg = 4 then bL4 f (plc E k.toNatClampNeg) else if tg f E k.toNatClampNeg = 5 ∨ tg f E k.toNatClampNeg = 6 then bL8 f (plc E k.toNatClampNeg) else 0
/-- what is kept tells it -/
def biK (ko : Option (Nat × (Nat → Int32))) (k : Int32) : Int64 := match ko with
  | none => 0
  | some r => match s_whole r.2 r.1 with
    | .inl _ => 0
    | .inr y => biI r.2 y.1 k
theorem biK_is {r : Nat × (Nat → Int32)} {k : Int32} {y : Nat × Nat × Nat × Nat} (h : s_whole r.2 r.1 = .inr (E, y)) : biK (some r) k = biI r.2 E k := by
  show (match s_whole r.2 r.1 with | .inl _ => 0 | .inr y => biI r.2 y.1 k) = _
  rw [h]
theorem nL_bv {x : Nat} : (nL x).toBitVec = BitVec.ofNat 64 x := rfl
theorem l2i_all {p : Nat} : Int64.toInt32 (nL p) = nI p := by
  apply Int32.toBitVec_inj.mp
  rw [Int64.toBitVec_toInt32, nL_bv, nI_bv, BitVec.signExtend_eq_setWidth_of_le _ (by decide)]
  apply BitVec.eq_of_toNat_eq
  simp only [BitVec.toNat_setWidth, BitVec.toNat_ofNat]
  omega
theorem msk32 (i : Nat) (h : i < 64) : (4294967295 : Int64).toBitVec.getLsbD i = decide (i < 32) := by
  have e : (4294967295 : Int64).toBitVec = BitVec.ofNat 64 (2 ^ 32 - 1) := by decide
  rw [e, BitVec.getLsbD_ofNat, Nat.testBit_two_pow_sub_one]
  simp only [h, decide_true, Bool.true_and]
theorem bits8 {a b : Nat} (ha : a < 4294967296) (hb : b < 4294967296) : ((Int32.toInt64 (nI a)) <<< (Int32.toInt64 32 &&& 63)) ||| ((Int32.toInt64 (nI b)) &&& 4294967295) = (nL a <<< (Int32.toInt64 32 &&& 63)) ||| nL b := by
  apply Int64.toBitVec_inj.mp
  have e32 : (Int32.toInt64 32 &&& 63).toBitVec.smod 64 = 32#64 := by decide
  rw [Int64.toBitVec_or, Int64.toBitVec_or, Int64.toBitVec_and, Int64.toBitVec_shiftLeft, Int64.toBitVec_shiftLeft, Int32.toBitVec_toInt64, Int32.toBitVec_toInt64, nI_bv, nI_bv, nL_bv, nL_bv, e32]
  apply BitVec.eq_of_getLsbD_eq
  intro i hi
  have e3 : (32#64).toNat = 32 := by decide
  rw [BitVec.getLsbD_or, BitVec.getLsbD_or, BitVec.getLsbD_and, msk32 i hi, BitVec.shiftLeft_eq', BitVec.shiftLeft_eq', e3, BitVec.getLsbD_shiftLeft, BitVec.getLsbD_shiftLeft]
  by_cases h : i < 32
  · have h2 : (BitVec.signExtend 64 (BitVec.ofNat 32 b)).getLsbD i = (BitVec.ofNat 64 b).getLsbD i := by
      rw [BitVec.getLsbD_signExtend, BitVec.getLsbD_ofNat, BitVec.getLsbD_ofNat]
      simp only [h, hi, decide_true, Bool.true_and, if_true]
    rw [h2]
    simp only [h, decide_true, Bool.not_true, Bool.and_false, Bool.false_and, Bool.false_or, Bool.and_true]
  · have h3 : (BitVec.ofNat 64 b).getLsbD i = false := by
      rw [BitVec.getLsbD_ofNat, Nat.testBit_lt_two_pow (Nat.lt_of_lt_of_le hb (by
        have : 2 ^ 32 ≤ 2 ^ i := Nat.pow_le_pow_right (by decide) (by omega)
        omega))]
      exact Bool.and_false _
    have h4 : (BitVec.signExtend 64 (BitVec.ofNat 32 a)).getLsbD (i - 32) = (BitVec.ofNat 64 a).getLsbD (i - 32) := by
      have q1 : i - 32 < 32 := by omega
      have q2 : i - 32 < 64 := by omega
      rw [BitVec.getLsbD_signExtend, BitVec.getLsbD_ofNat, BitVec.getLsbD_ofNat]
      simp only [q1, q2, decide_true, Bool.true_and, if_true]
    rw [h3, h4]
    simp only [h, decide_false, Bool.and_false, Bool.or_false]
/-- numbers lie within the file -/
def nu1 (f : Nat → Int32) (n p : Nat) : Prop := (by1 f p = 3 ∨ by1 f p = 4 → p + 5 ≤ n) ∧ (by1 f p = 5 ∨ by1 f p = 6 → p + 9 ≤ n)
theorem nums_ok {mj N : Nat} : ∀ {r k p p' : Nat} {E0 E : List (Nat × Nat)}, (∀ q ∈ E0, nu1 f n q.2) → s_ents f n mj N r k p E0 = .inr (p', E) → ∀ q ∈ E, nu1 f n q.2 := by
  intro r
  induction r with
  | zero => intro k p p' E0 E h0 h; cases h; exact h0
  | succ r ih =>
    intro k p p' E0 E h0 h
    unfold s_ents at h
    split at h
    · cases h; exact h0
    · cases he : s_entry f n mj N k p with
      | inl e => rw [he] at h; cases h
      | inr y =>
        obtain ⟨p2, x⟩ := y
        rw [he] at h
        refine ih ?_ h
        intro q hq
        rcases List.mem_append.mp hq with hq | hq
        · exact h0 q hq
        · have e : q = (k, p) := by simpa using hq
          rw [e]
          refine ⟨fun h9 => ?_, fun h9 => ?_⟩
          · refine Nat.not_lt.mp (fun h8 => ?_)
            dsimp only at h9 h8
            unfold s_entry at he
            rw [if_neg (show ¬ ((by1 f p = 5 ∨ by1 f p = 6) ∧ N ≤ k + 1) by omega), if_neg (show ¬ by1 f p = 1 by omega), if_pos h9, if_pos h8] at he
            split at he
            · cases he
            · split at he <;> cases he
          · refine Nat.not_lt.mp (fun h8 => ?_)
            dsimp only at h9 h8
            unfold s_entry at he
            rw [if_neg (show ¬ by1 f p = 1 by omega), if_neg (show ¬ (by1 f p = 3 ∨ by1 f p = 4) by omega), if_pos h9] at he
            repeat' split at he
            all_goals first | cases he | omega
theorem nums_of {mj p' p : Nat} (h : s_pool f n mj = .inr (p', E)) (hp : lk E j = some p) : nu1 f n p := by
  unfold s_pool at h
  split at h
  · cases h
  · split at h
    · cases h
    · exact nums_ok (fun q hq => by cases hq) h _ (lk_in hp)
theorem plc_of {p : Nat} (h : lk E j = some p) : plc E j = p := by
  unfold plc
  rw [h]
  rfl
end BIA
theorem dz_tagOf {g : xe_G} {M : mi_H} {f : Nat → Int32} {n N q : Nat} {E : List (Nat × Nat)} {k : Int32}  (hV : PV g f n N E q M) (h0 : tg f E 0 = 0) : pt (mT g) 138 [.ref q, .int k] M (fun v M' => (v = some (.int (nI (tg f E k.toNatClampNeg))) ∧ M = M')) := by
  obtain ⟨hL9, H, m, qq, F, cc, hP9, hT9, -, hb9, hVF, -⟩ := id hV
  exact (ct_tagOf hP9 (d := 3) (by decide)).pt.mono (fun v M' h => ⟨by rw [h.1, hVF.tagR hb9.1 h0], h.2.symm⟩)
theorem dz_tagPlace {g : xe_G} {M : mi_H} {f : Nat → Int32} {n N q : Nat} {E : List (Nat × Nat)} {k : Int32}  (hV : PV g f n N E q M) : pt (mT g) 139 [.ref q, .int k] M (fun v M' => (∃ (x : Int32), v = some (.int x) ∧ M = M')) := by
  obtain ⟨hL9, H, m, qq, F, cc, hP9, hT9, -, hb9, hVF, -⟩ := id hV
  exact (ct_tagPlace hP9 (d := 3) (by decide)).pt.mono (fun v M' h => ⟨_, h.1, h.2.symm⟩)
set_option maxHeartbeats 1000000 in
theorem dk_bits0 {g : xe_G} {M : mi_H} {o ca fl : Nat} {cn wp k : Int32} (h_o : M.1 o = some (ob 11 [.ref ca, .int cn, .ref fl, .null, .int wp]))  : pt (mT g) 1 [.ref o, .int k] M (fun v M' => (v = some (.long 0) ∧ M = M')) := by
  refine pt_in (b := mb_1 g) rfl (fun kf => ?_)
  show pl (mT g) kf (mb_1 g).2 (0, [(0, .ref o), (1, .int k)], [], M) _
  refine ps_st (S' := (1, [(0, .ref o), (1, .int k)], [.ref o], M)) rfl rfl rfl ?_
  refine ps_get (S' := (4, [(0, .ref o), (1, .int k)], [.null], M)) rfl h_o rfl rfl ?_
  refine ps_st (S' := (7, [(0, .ref o), (1, .int k)], [], M)) rfl rfl rfl ?_
  refine ps_st (S' := (8, [(0, .ref o), (1, .int k)], [.long 0], M)) rfl rfl rfl ?_
  exact ps_ret rfl rfl (⟨rfl, rfl⟩)
set_option maxHeartbeats 1000000 in
theorem dk_bitsT {g : xe_G} {M : mi_H} {f : Nat → Int32} {n N q : Nat} {E : List (Nat × Nat)} {o ca fl c b : Nat} {cn wp : Int32} {w : List Value} {k : Int32} (h_o : M.1 o = some (ob 11 [.ref ca, .int cn, .ref fl, .ref c, .int wp])) (h_c : M.1 c = some (ob 3 (.ref b :: .ref q :: w))) (hV : PV g f n N E q M) (h0 : tg f E 0 = 0) (ht : ¬ (3 ≤ tg f E k.toNatClampNeg ∧ tg f E k.toNatClampNeg ≤ 6)) : pt (mT g) 1 [.ref o, .int k] M (fun v M' => (v = some (.long 0) ∧ M = M')) := by
  refine pt_in (b := mb_1 g) rfl (fun kf => ?_)
  show pl (mT g) kf (mb_1 g).2 (0, [(0, .ref o), (1, .int k)], [], M) _
  obtain ⟨hL9, H, m, qq, F, cc, hP9, -, -, hb9, -⟩ := id hV
  have h_q := hP9.1
  have hN9 := hb9.2.2.1
  have htl9 := tg_lt f E k.toNatClampNeg
  refine ps_st (S' := (1, [(0, .ref o), (1, .int k)], [.ref o], M)) rfl rfl rfl ?_
  refine ps_get (S' := (4, [(0, .ref o), (1, .int k)], [.ref c], M)) rfl h_o rfl rfl ?_
  refine ps_st (S' := (9, [(0, .ref o), (1, .int k)], [], M)) rfl rfl rfl ?_
  refine ps_st (S' := (10, [(0, .ref o), (1, .int k)], [.ref o], M)) rfl rfl rfl ?_
  refine ps_get (S' := (13, [(0, .ref o), (1, .int k)], [.ref c], M)) rfl h_o rfl rfl ?_
  refine ps_get (S' := (16, [(0, .ref o), (1, .int k)], [.ref q], M)) rfl h_c rfl rfl ?_
  refine ps_st (S' := (17, [(0, .ref o), (1, .int k)], [.int k, .ref q], M)) rfl rfl rfl ?_
  refine pl_call (a := [.ref q, .int k]) (rest := []) rfl rfl rfl (dz_tagOf (f := f) (n := n) (N := N) (q := q) (E := E) (k := k) (hV) (h0)) (fun v1 M2 q3 => ?_)
  obtain ⟨rfl, rfl⟩ := q3
  show pl _ _ _ (20, [(0, .ref o), (1, .int k)], [.int (nI (tg f E k.toNatClampNeg))], M) _
  refine ps_st (S' := (21, [(2, .int (nI (tg f E k.toNatClampNeg))), (0, .ref o), (1, .int k)], [], M)) rfl rfl rfl ?_
  refine ps_st (S' := (22, [(2, .int (nI (tg f E k.toNatClampNeg))), (0, .ref o), (1, .int k)], [.ref o], M)) rfl rfl rfl ?_
  refine ps_get (S' := (25, [(2, .int (nI (tg f E k.toNatClampNeg))), (0, .ref o), (1, .int k)], [.ref c], M)) rfl h_o rfl rfl ?_
  refine ps_get (S' := (28, [(2, .int (nI (tg f E k.toNatClampNeg))), (0, .ref o), (1, .int k)], [.ref q], M)) rfl h_c rfl rfl ?_
  refine ps_st (S' := (29, [(2, .int (nI (tg f E k.toNatClampNeg))), (0, .ref o), (1, .int k)], [.int k, .ref q], M)) rfl rfl rfl ?_
  refine pl_call (a := [.ref q, .int k]) (rest := []) rfl rfl rfl (dz_tagPlace (f := f) (n := n) (N := N) (q := q) (E := E) (k := k) (hV)) (fun v4 M5 q6 => ?_)
  obtain ⟨x7, rfl, rfl⟩ := q6
  show pl _ _ _ (32, [(2, .int (nI (tg f E k.toNatClampNeg))), (0, .ref o), (1, .int k)], [.int x7], M) _
  refine ps_st (S' := (33, [(2, .int (nI (tg f E k.toNatClampNeg))), (0, .ref o), (1, .int k)], [.int 1, .int x7], M)) rfl rfl rfl ?_
  refine ps_st (S' := (34, [(2, .int (nI (tg f E k.toNatClampNeg))), (0, .ref o), (1, .int k)], [.int (x7 + 1)], M)) rfl rfl rfl ?_
  refine ps_st (S' := (35, [(3, .int (x7 + 1)), (2, .int (nI (tg f E k.toNatClampNeg))), (0, .ref o), (1, .int k)], [], M)) rfl rfl rfl ?_
  refine ps_st (S' := (36, [(3, .int (x7 + 1)), (2, .int (nI (tg f E k.toNatClampNeg))), (0, .ref o), (1, .int k)], [.int (nI (tg f E k.toNatClampNeg))], M)) rfl rfl rfl ?_
  refine ps_st (S' := (37, [(3, .int (x7 + 1)), (2, .int (nI (tg f E k.toNatClampNeg))), (0, .ref o), (1, .int k)], [.int 3, .int (nI (tg f E k.toNatClampNeg))], M)) rfl rfl rfl ?_
  refine ps_if2 (S1 := (45, [(0, .ref o), (3, .int (x7 + 1))], [], M)) (S2 := (40, [(3, .int (x7 + 1)), (2, .int (nI (tg f E k.toNatClampNeg))), (0, .ref o), (1, .int k)], [], M)) rfl rfl rfl (fun c_37 => ?_) (fun c_37 => ?_)
  · exact absurd (of_decide_eq_true c_37) (fun h9 => ht (by have h8 := (eq_nI (p := tg f E k.toNatClampNeg) (n := 3) (by omega) (by decide)).mp h9; omega))
  refine ps_st (S' := (41, [(3, .int (x7 + 1)), (2, .int (nI (tg f E k.toNatClampNeg))), (0, .ref o), (1, .int k)], [.int (nI (tg f E k.toNatClampNeg))], M)) rfl rfl rfl ?_
  refine ps_st (S' := (42, [(3, .int (x7 + 1)), (2, .int (nI (tg f E k.toNatClampNeg))), (0, .ref o), (1, .int k)], [.int 4, .int (nI (tg f E k.toNatClampNeg))], M)) rfl rfl rfl ?_
  refine ps_if2 (S1 := (58, [(3, .int (x7 + 1)), (2, .int (nI (tg f E k.toNatClampNeg))), (0, .ref o), (1, .int k)], [], M)) (S2 := (45, [(0, .ref o), (3, .int (x7 + 1))], [], M)) rfl rfl rfl (fun c_42 => ?_) (fun c_42 => ?_)
  rotate_left
  · exact absurd (show ¬ (nI (tg f E k.toNatClampNeg)) = 4 from fun h9 => ht (by have h8 := (eq_nI (p := tg f E k.toNatClampNeg) (n := 4) (by omega) (by decide)).mp h9; omega)) (of_decide_eq_false c_42)
  refine ps_st (S' := (59, [(3, .int (x7 + 1)), (2, .int (nI (tg f E k.toNatClampNeg))), (0, .ref o), (1, .int k)], [.int (nI (tg f E k.toNatClampNeg))], M)) rfl rfl rfl ?_
  refine ps_st (S' := (60, [(3, .int (x7 + 1)), (2, .int (nI (tg f E k.toNatClampNeg))), (0, .ref o), (1, .int k)], [.int 5, .int (nI (tg f E k.toNatClampNeg))], M)) rfl rfl rfl ?_
  refine ps_if2 (S1 := (69, [(0, .ref o), (3, .int (x7 + 1))], [], M)) (S2 := (63, [(3, .int (x7 + 1)), (2, .int (nI (tg f E k.toNatClampNeg))), (0, .ref o), (1, .int k)], [], M)) rfl rfl rfl (fun c_60 => ?_) (fun c_60 => ?_)
  · exact absurd (of_decide_eq_true c_60) (fun h9 => ht (by have h8 := (eq_nI (p := tg f E k.toNatClampNeg) (n := 5) (by omega) (by decide)).mp h9; omega))
  refine ps_st (S' := (64, [(3, .int (x7 + 1)), (2, .int (nI (tg f E k.toNatClampNeg))), (0, .ref o), (1, .int k)], [.int (nI (tg f E k.toNatClampNeg))], M)) rfl rfl rfl ?_
  refine ps_st (S' := (66, [(3, .int (x7 + 1)), (2, .int (nI (tg f E k.toNatClampNeg))), (0, .ref o), (1, .int k)], [.int 6, .int (nI (tg f E k.toNatClampNeg))], M)) rfl rfl rfl ?_
  refine ps_if2 (S1 := (104, [(3, .int (x7 + 1)), (2, .int (nI (tg f E k.toNatClampNeg))), (0, .ref o), (1, .int k)], [], M)) (S2 := (69, [(0, .ref o), (3, .int (x7 + 1))], [], M)) rfl rfl rfl (fun c_66 => ?_) (fun c_66 => ?_)
  rotate_left
  · exact absurd (show ¬ (nI (tg f E k.toNatClampNeg)) = 6 from fun h9 => ht (by have h8 := (eq_nI (p := tg f E k.toNatClampNeg) (n := 6) (by omega) (by decide)).mp h9; omega)) (of_decide_eq_false c_66)
  refine ps_st (S' := (105, [(3, .int (x7 + 1)), (2, .int (nI (tg f E k.toNatClampNeg))), (0, .ref o), (1, .int k)], [.long 0], M)) rfl rfl rfl ?_
  exact ps_ret rfl rfl (⟨rfl, rfl⟩)
set_option maxHeartbeats 1000000 in
theorem dk_bits4 {g : xe_G} {M : mi_H} {f : Nat → Int32} {n N q : Nat} {E : List (Nat × Nat)} {o ca fl c b : Nat} {cn wp : Int32} {w : List Value} {da j p : Nat} (h_o : M.1 o = some (ob 11 [.ref ca, .int cn, .ref fl, .ref c, .int wp])) (h_c : M.1 c = some (ob 3 (.ref b :: .ref q :: w))) (h_b : M.1 b = some (ob 1 [.ref da])) (h_da : M.1 da = some (ar .byte n f)) (hV : PV g f n N E q M) (hj : j < 65536) (hn : n ≤ 65540) (hp : lk E j = some p) (htt : tg f E j = 3 ∨ tg f E j = 4) (hin : p + 5 ≤ n) : pt (mT g) 1 [.ref o, .int (nI j)] M (fun v M' => (v = some (.long (bL4 f p)) ∧ M = M')) := by
  refine pt_in (b := mb_1 g) rfl (fun kf => ?_)
  show pl (mT g) kf (mb_1 g).2 (0, [(0, .ref o), (1, .int (nI j))], [], M) _
  obtain ⟨hL9, H, m, qq, F, cc, hP9, -, -, hb9, -⟩ := id hV
  have h_q := hP9.1
  have hN9 := hb9.2.2.1
  have htl9 := tg_lt f E j
  refine ps_st (S' := (1, [(0, .ref o), (1, .int (nI j))], [.ref o], M)) rfl rfl rfl ?_
  refine ps_get (S' := (4, [(0, .ref o), (1, .int (nI j))], [.ref c], M)) rfl h_o rfl rfl ?_
  refine ps_st (S' := (9, [(0, .ref o), (1, .int (nI j))], [], M)) rfl rfl rfl ?_
  refine ps_st (S' := (10, [(0, .ref o), (1, .int (nI j))], [.ref o], M)) rfl rfl rfl ?_
  refine ps_get (S' := (13, [(0, .ref o), (1, .int (nI j))], [.ref c], M)) rfl h_o rfl rfl ?_
  refine ps_get (S' := (16, [(0, .ref o), (1, .int (nI j))], [.ref q], M)) rfl h_c rfl rfl ?_
  refine ps_st (S' := (17, [(0, .ref o), (1, .int (nI j))], [.int (nI j), .ref q], M)) rfl rfl rfl ?_
  refine pl_call (a := [.ref q, .int (nI j)]) (rest := []) rfl rfl rfl (dy_tagOf (f := f) (n := n) (N := N) (q := q) (E := E) (j := j) (hV) (hj)) (fun v1 M2 q3 => ?_)
  obtain ⟨rfl, rfl⟩ := q3
  show pl _ _ _ (20, [(0, .ref o), (1, .int (nI j))], [.int (nI (tg f E j))], M) _
  refine ps_st (S' := (21, [(2, .int (nI (tg f E j))), (0, .ref o), (1, .int (nI j))], [], M)) rfl rfl rfl ?_
  refine ps_st (S' := (22, [(2, .int (nI (tg f E j))), (0, .ref o), (1, .int (nI j))], [.ref o], M)) rfl rfl rfl ?_
  refine ps_get (S' := (25, [(2, .int (nI (tg f E j))), (0, .ref o), (1, .int (nI j))], [.ref c], M)) rfl h_o rfl rfl ?_
  refine ps_get (S' := (28, [(2, .int (nI (tg f E j))), (0, .ref o), (1, .int (nI j))], [.ref q], M)) rfl h_c rfl rfl ?_
  refine ps_st (S' := (29, [(2, .int (nI (tg f E j))), (0, .ref o), (1, .int (nI j))], [.int (nI j), .ref q], M)) rfl rfl rfl ?_
  refine pl_call (a := [.ref q, .int (nI j)]) (rest := []) rfl rfl rfl (dy_tagPlace (f := f) (n := n) (N := N) (q := q) (E := E) (j := j) (p := p) (hV) (hj) (hp) (by omega)) (fun v4 M5 q6 => ?_)
  obtain ⟨rfl, rfl⟩ := q6
  show pl _ _ _ (32, [(2, .int (nI (tg f E j))), (0, .ref o), (1, .int (nI j))], [.int (nI (p))], M) _
  refine ps_st (S' := (33, [(2, .int (nI (tg f E j))), (0, .ref o), (1, .int (nI j))], [.int 1, .int (nI (p))], M)) rfl rfl rfl ?_
  refine ps_st (S' := (34, [(2, .int (nI (tg f E j))), (0, .ref o), (1, .int (nI j))], [.int ((nI (p)) + 1)], M)) rfl rfl rfl ?_
  rw [nI_add1 (p := p) (k := 1) (x := 1) rfl (by omega)]
  show pl _ _ _ (_, [(2, .int (nI (tg f E j))), (0, .ref o), (1, .int (nI j))], [.int (nI (p + 1))], M) _
  refine ps_st (S' := (35, [(3, .int (nI (p + 1))), (2, .int (nI (tg f E j))), (0, .ref o), (1, .int (nI j))], [], M)) rfl rfl rfl ?_
  refine ps_st (S' := (36, [(3, .int (nI (p + 1))), (2, .int (nI (tg f E j))), (0, .ref o), (1, .int (nI j))], [.int (nI (tg f E j))], M)) rfl rfl rfl ?_
  refine ps_st (S' := (37, [(3, .int (nI (p + 1))), (2, .int (nI (tg f E j))), (0, .ref o), (1, .int (nI j))], [.int 3, .int (nI (tg f E j))], M)) rfl rfl rfl ?_
  refine ps_if2 (S1 := (45, [(0, .ref o), (3, .int (nI (p + 1)))], [], M)) (S2 := (40, [(3, .int (nI (p + 1))), (2, .int (nI (tg f E j))), (0, .ref o), (1, .int (nI j))], [], M)) rfl rfl rfl (fun c_37 => ?_) (fun c_37 => ?_)
  · have c_37 : (nI (tg f E j)) = 3 := of_decide_eq_true c_37
    have n_37 : tg f E j = 3 := (eq_nI (p := tg f E j) (n := 3) (Nat.lt_trans (tg_lt _ _ _) (by decide)) (by decide)).mp c_37
    refine ps_st (S' := (46, [(0, .ref o), (3, .int (nI (p + 1)))], [.ref o], M)) rfl rfl rfl ?_
    refine ps_get (S' := (49, [(0, .ref o), (3, .int (nI (p + 1)))], [.ref c], M)) rfl h_o rfl rfl ?_
    refine ps_get (S' := (52, [(0, .ref o), (3, .int (nI (p + 1)))], [.ref b], M)) rfl h_c rfl rfl ?_
    refine ps_st (S' := (53, [(0, .ref o), (3, .int (nI (p + 1)))], [.int (nI (p + 1)), .ref b], M)) rfl rfl rfl ?_
    refine pl_call (a := [.ref b, .int (nI (p + 1))]) (rest := []) rfl rfl rfl (dk_u4 (f := f) (n := n) (b := b) (da := da) (p := (p + 1)) h_b h_da (hn) (by omega)) (fun v7 M8 q9 => ?_)
    obtain ⟨rfl, rfl⟩ := q9
    show pl _ _ _ (56, [(0, .ref o), (3, .int (nI (p + 1)))], [.int (nI (by4 f (p + 1)))], M) _
    refine ps_st (S' := (57, [(0, .ref o), (3, .int (nI (p + 1)))], [.long (Int32.toInt64 (nI (by4 f (p + 1))))], M)) rfl rfl rfl ?_
    exact ps_ret rfl rfl (⟨rfl, rfl⟩)
  · have c_37 : ¬ ((nI (tg f E j)) = 3) := of_decide_eq_false c_37
    have n_37 : ¬ (tg f E j = 3) := fun h9 => c_37 ((eq_nI (p := tg f E j) (n := 3) (Nat.lt_trans (tg_lt _ _ _) (by decide)) (by decide)).mpr h9)
    refine ps_st (S' := (41, [(3, .int (nI (p + 1))), (2, .int (nI (tg f E j))), (0, .ref o), (1, .int (nI j))], [.int (nI (tg f E j))], M)) rfl rfl rfl ?_
    refine ps_st (S' := (42, [(3, .int (nI (p + 1))), (2, .int (nI (tg f E j))), (0, .ref o), (1, .int (nI j))], [.int 4, .int (nI (tg f E j))], M)) rfl rfl rfl ?_
    refine ps_if2 (S1 := (58, [(3, .int (nI (p + 1))), (2, .int (nI (tg f E j))), (0, .ref o), (1, .int (nI j))], [], M)) (S2 := (45, [(0, .ref o), (3, .int (nI (p + 1)))], [], M)) rfl rfl rfl (fun c_42 => ?_) (fun c_42 => ?_)
    · exact absurd (of_decide_eq_true c_42) (fun h9 => h9 ((eq_nI (p := tg f E j) (n := 4) (Nat.lt_trans (tg_lt _ _ _) (by decide)) (by decide)).mpr (by omega)))
    refine ps_st (S' := (46, [(0, .ref o), (3, .int (nI (p + 1)))], [.ref o], M)) rfl rfl rfl ?_
    refine ps_get (S' := (49, [(0, .ref o), (3, .int (nI (p + 1)))], [.ref c], M)) rfl h_o rfl rfl ?_
    refine ps_get (S' := (52, [(0, .ref o), (3, .int (nI (p + 1)))], [.ref b], M)) rfl h_c rfl rfl ?_
    refine ps_st (S' := (53, [(0, .ref o), (3, .int (nI (p + 1)))], [.int (nI (p + 1)), .ref b], M)) rfl rfl rfl ?_
    refine pl_call (a := [.ref b, .int (nI (p + 1))]) (rest := []) rfl rfl rfl (dk_u4 (f := f) (n := n) (b := b) (da := da) (p := (p + 1)) h_b h_da (hn) (by omega)) (fun v10 M11 q12 => ?_)
    obtain ⟨rfl, rfl⟩ := q12
    show pl _ _ _ (56, [(0, .ref o), (3, .int (nI (p + 1)))], [.int (nI (by4 f (p + 1)))], M) _
    refine ps_st (S' := (57, [(0, .ref o), (3, .int (nI (p + 1)))], [.long (Int32.toInt64 (nI (by4 f (p + 1))))], M)) rfl rfl rfl ?_
    exact ps_ret rfl rfl (⟨rfl, rfl⟩)
set_option maxHeartbeats 1000000 in
theorem dk_bits8 {g : xe_G} {M : mi_H} {f : Nat → Int32} {n N q : Nat} {E : List (Nat × Nat)} {o ca fl c b : Nat} {cn wp : Int32} {w : List Value} {da j p : Nat} (h_o : M.1 o = some (ob 11 [.ref ca, .int cn, .ref fl, .ref c, .int wp])) (h_c : M.1 c = some (ob 3 (.ref b :: .ref q :: w))) (h_b : M.1 b = some (ob 1 [.ref da])) (h_da : M.1 da = some (ar .byte n f)) (hV : PV g f n N E q M) (hj : j < 65536) (hn : n ≤ 65540) (hp : lk E j = some p) (htt : tg f E j = 5 ∨ tg f E j = 6) (hin : p + 9 ≤ n) : pt (mT g) 1 [.ref o, .int (nI j)] M (fun v M' => (v = some (.long (bL8 f p)) ∧ M = M')) := by
  refine pt_in (b := mb_1 g) rfl (fun kf => ?_)
  show pl (mT g) kf (mb_1 g).2 (0, [(0, .ref o), (1, .int (nI j))], [], M) _
  obtain ⟨hL9, H, m, qq, F, cc, hP9, -, -, hb9, -⟩ := id hV
  have h_q := hP9.1
  have hN9 := hb9.2.2.1
  have htl9 := tg_lt f E j
  refine ps_st (S' := (1, [(0, .ref o), (1, .int (nI j))], [.ref o], M)) rfl rfl rfl ?_
  refine ps_get (S' := (4, [(0, .ref o), (1, .int (nI j))], [.ref c], M)) rfl h_o rfl rfl ?_
  refine ps_st (S' := (9, [(0, .ref o), (1, .int (nI j))], [], M)) rfl rfl rfl ?_
  refine ps_st (S' := (10, [(0, .ref o), (1, .int (nI j))], [.ref o], M)) rfl rfl rfl ?_
  refine ps_get (S' := (13, [(0, .ref o), (1, .int (nI j))], [.ref c], M)) rfl h_o rfl rfl ?_
  refine ps_get (S' := (16, [(0, .ref o), (1, .int (nI j))], [.ref q], M)) rfl h_c rfl rfl ?_
  refine ps_st (S' := (17, [(0, .ref o), (1, .int (nI j))], [.int (nI j), .ref q], M)) rfl rfl rfl ?_
  refine pl_call (a := [.ref q, .int (nI j)]) (rest := []) rfl rfl rfl (dy_tagOf (f := f) (n := n) (N := N) (q := q) (E := E) (j := j) (hV) (hj)) (fun v1 M2 q3 => ?_)
  obtain ⟨rfl, rfl⟩ := q3
  show pl _ _ _ (20, [(0, .ref o), (1, .int (nI j))], [.int (nI (tg f E j))], M) _
  refine ps_st (S' := (21, [(2, .int (nI (tg f E j))), (0, .ref o), (1, .int (nI j))], [], M)) rfl rfl rfl ?_
  refine ps_st (S' := (22, [(2, .int (nI (tg f E j))), (0, .ref o), (1, .int (nI j))], [.ref o], M)) rfl rfl rfl ?_
  refine ps_get (S' := (25, [(2, .int (nI (tg f E j))), (0, .ref o), (1, .int (nI j))], [.ref c], M)) rfl h_o rfl rfl ?_
  refine ps_get (S' := (28, [(2, .int (nI (tg f E j))), (0, .ref o), (1, .int (nI j))], [.ref q], M)) rfl h_c rfl rfl ?_
  refine ps_st (S' := (29, [(2, .int (nI (tg f E j))), (0, .ref o), (1, .int (nI j))], [.int (nI j), .ref q], M)) rfl rfl rfl ?_
  refine pl_call (a := [.ref q, .int (nI j)]) (rest := []) rfl rfl rfl (dy_tagPlace (f := f) (n := n) (N := N) (q := q) (E := E) (j := j) (p := p) (hV) (hj) (hp) (by omega)) (fun v4 M5 q6 => ?_)
  obtain ⟨rfl, rfl⟩ := q6
  show pl _ _ _ (32, [(2, .int (nI (tg f E j))), (0, .ref o), (1, .int (nI j))], [.int (nI (p))], M) _
  refine ps_st (S' := (33, [(2, .int (nI (tg f E j))), (0, .ref o), (1, .int (nI j))], [.int 1, .int (nI (p))], M)) rfl rfl rfl ?_
  refine ps_st (S' := (34, [(2, .int (nI (tg f E j))), (0, .ref o), (1, .int (nI j))], [.int ((nI (p)) + 1)], M)) rfl rfl rfl ?_
  rw [nI_add1 (p := p) (k := 1) (x := 1) rfl (by omega)]
  show pl _ _ _ (_, [(2, .int (nI (tg f E j))), (0, .ref o), (1, .int (nI j))], [.int (nI (p + 1))], M) _
  refine ps_st (S' := (35, [(3, .int (nI (p + 1))), (2, .int (nI (tg f E j))), (0, .ref o), (1, .int (nI j))], [], M)) rfl rfl rfl ?_
  refine ps_st (S' := (36, [(3, .int (nI (p + 1))), (2, .int (nI (tg f E j))), (0, .ref o), (1, .int (nI j))], [.int (nI (tg f E j))], M)) rfl rfl rfl ?_
  refine ps_st (S' := (37, [(3, .int (nI (p + 1))), (2, .int (nI (tg f E j))), (0, .ref o), (1, .int (nI j))], [.int 3, .int (nI (tg f E j))], M)) rfl rfl rfl ?_
  refine ps_if2 (S1 := (45, [(0, .ref o), (3, .int (nI (p + 1)))], [], M)) (S2 := (40, [(3, .int (nI (p + 1))), (2, .int (nI (tg f E j))), (0, .ref o), (1, .int (nI j))], [], M)) rfl rfl rfl (fun c_37 => ?_) (fun c_37 => ?_)
  · exact absurd (of_decide_eq_true c_37) (show ¬ ((nI (tg f E j)) = 3) from fun h9 => absurd ((eq_nI (p := tg f E j) (n := 3) (Nat.lt_trans (tg_lt _ _ _) (by decide)) (by decide)).mp h9) (by omega))
  refine ps_st (S' := (41, [(3, .int (nI (p + 1))), (2, .int (nI (tg f E j))), (0, .ref o), (1, .int (nI j))], [.int (nI (tg f E j))], M)) rfl rfl rfl ?_
  refine ps_st (S' := (42, [(3, .int (nI (p + 1))), (2, .int (nI (tg f E j))), (0, .ref o), (1, .int (nI j))], [.int 4, .int (nI (tg f E j))], M)) rfl rfl rfl ?_
  refine ps_if2 (S1 := (58, [(3, .int (nI (p + 1))), (2, .int (nI (tg f E j))), (0, .ref o), (1, .int (nI j))], [], M)) (S2 := (45, [(0, .ref o), (3, .int (nI (p + 1)))], [], M)) rfl rfl rfl (fun c_42 => ?_) (fun c_42 => ?_)
  rotate_left
  · exact absurd (show ¬ ((nI (tg f E j)) = 4) from fun h9 => absurd ((eq_nI (p := tg f E j) (n := 4) (Nat.lt_trans (tg_lt _ _ _) (by decide)) (by decide)).mp h9) (by omega)) (of_decide_eq_false c_42)
  refine ps_st (S' := (59, [(3, .int (nI (p + 1))), (2, .int (nI (tg f E j))), (0, .ref o), (1, .int (nI j))], [.int (nI (tg f E j))], M)) rfl rfl rfl ?_
  refine ps_st (S' := (60, [(3, .int (nI (p + 1))), (2, .int (nI (tg f E j))), (0, .ref o), (1, .int (nI j))], [.int 5, .int (nI (tg f E j))], M)) rfl rfl rfl ?_
  refine ps_if2 (S1 := (69, [(0, .ref o), (3, .int (nI (p + 1)))], [], M)) (S2 := (63, [(3, .int (nI (p + 1))), (2, .int (nI (tg f E j))), (0, .ref o), (1, .int (nI j))], [], M)) rfl rfl rfl (fun c_60 => ?_) (fun c_60 => ?_)
  · have c_60 : (nI (tg f E j)) = 5 := of_decide_eq_true c_60
    have n_60 : tg f E j = 5 := (eq_nI (p := tg f E j) (n := 5) (Nat.lt_trans (tg_lt _ _ _) (by decide)) (by decide)).mp c_60
    refine ps_st (S' := (70, [(0, .ref o), (3, .int (nI (p + 1)))], [.ref o], M)) rfl rfl rfl ?_
    refine ps_get (S' := (73, [(0, .ref o), (3, .int (nI (p + 1)))], [.ref c], M)) rfl h_o rfl rfl ?_
    refine ps_get (S' := (76, [(0, .ref o), (3, .int (nI (p + 1)))], [.ref b], M)) rfl h_c rfl rfl ?_
    refine ps_st (S' := (77, [(0, .ref o), (3, .int (nI (p + 1)))], [.int (nI (p + 1)), .ref b], M)) rfl rfl rfl ?_
    refine pl_call (a := [.ref b, .int (nI (p + 1))]) (rest := []) rfl rfl rfl (dk_u4 (f := f) (n := n) (b := b) (da := da) (p := (p + 1)) h_b h_da (hn) (by omega)) (fun v7 M8 q9 => ?_)
    obtain ⟨rfl, rfl⟩ := q9
    show pl _ _ _ (80, [(0, .ref o), (3, .int (nI (p + 1)))], [.int (nI (by4 f (p + 1)))], M) _
    refine ps_st (S' := (81, [(0, .ref o), (3, .int (nI (p + 1)))], [.long (Int32.toInt64 (nI (by4 f (p + 1))))], M)) rfl rfl rfl ?_
    refine ps_st (S' := (83, [(0, .ref o), (3, .int (nI (p + 1)))], [.int 32, .long (Int32.toInt64 (nI (by4 f (p + 1))))], M)) rfl rfl rfl ?_
    refine ps_st (S' := (84, [(0, .ref o), (3, .int (nI (p + 1)))], [.long ((Int32.toInt64 (nI (by4 f (p + 1)))) <<< (Int32.toInt64 32 &&& 63))], M)) rfl rfl rfl ?_
    refine ps_st (S' := (85, [(0, .ref o), (3, .int (nI (p + 1)))], [.ref o, .long ((Int32.toInt64 (nI (by4 f (p + 1)))) <<< (Int32.toInt64 32 &&& 63))], M)) rfl rfl rfl ?_
    refine ps_get (S' := (88, [(0, .ref o), (3, .int (nI (p + 1)))], [.ref c, .long ((Int32.toInt64 (nI (by4 f (p + 1)))) <<< (Int32.toInt64 32 &&& 63))], M)) rfl h_o rfl rfl ?_
    refine ps_get (S' := (91, [(0, .ref o), (3, .int (nI (p + 1)))], [.ref b, .long ((Int32.toInt64 (nI (by4 f (p + 1)))) <<< (Int32.toInt64 32 &&& 63))], M)) rfl h_c rfl rfl ?_
    refine ps_st (S' := (92, [(0, .ref o), (3, .int (nI (p + 1)))], [.int (nI (p + 1)), .ref b, .long ((Int32.toInt64 (nI (by4 f (p + 1)))) <<< (Int32.toInt64 32 &&& 63))], M)) rfl rfl rfl ?_
    refine ps_st (S' := (93, [(0, .ref o), (3, .int (nI (p + 1)))], [.int 4, .int (nI (p + 1)), .ref b, .long ((Int32.toInt64 (nI (by4 f (p + 1)))) <<< (Int32.toInt64 32 &&& 63))], M)) rfl rfl rfl ?_
    refine ps_st (S' := (94, [(0, .ref o), (3, .int (nI (p + 1)))], [.int ((nI (p + 1)) + 4), .ref b, .long ((Int32.toInt64 (nI (by4 f (p + 1)))) <<< (Int32.toInt64 32 &&& 63))], M)) rfl rfl rfl ?_
    rw [nI_add1 (p := p + 1) (k := 4) (x := 4) rfl (by omega)]
    show pl _ _ _ (_, [(0, .ref o), (3, .int (nI (p + 1)))], [.int (nI (p + 5)), .ref b, .long ((Int32.toInt64 (nI (by4 f (p + 1)))) <<< (Int32.toInt64 32 &&& 63))], M) _
    refine pl_call (a := [.ref b, .int (nI (p + 5))]) (rest := [.long ((Int32.toInt64 (nI (by4 f (p + 1)))) <<< (Int32.toInt64 32 &&& 63))]) rfl rfl rfl (dk_u4 (f := f) (n := n) (b := b) (da := da) (p := (p + 5)) h_b h_da (hn) (by omega)) (fun v10 M11 q12 => ?_)
    obtain ⟨rfl, rfl⟩ := q12
    show pl _ _ _ (97, [(0, .ref o), (3, .int (nI (p + 1)))], [.int (nI (by4 f (p + 5))), .long ((Int32.toInt64 (nI (by4 f (p + 1)))) <<< (Int32.toInt64 32 &&& 63))], M) _
    refine ps_st (S' := (98, [(0, .ref o), (3, .int (nI (p + 1)))], [.long (Int32.toInt64 (nI (by4 f (p + 5)))), .long ((Int32.toInt64 (nI (by4 f (p + 1)))) <<< (Int32.toInt64 32 &&& 63))], M)) rfl rfl rfl ?_
    refine ps_st (S' := (101, [(0, .ref o), (3, .int (nI (p + 1)))], [.long 4294967295, .long (Int32.toInt64 (nI (by4 f (p + 5)))), .long ((Int32.toInt64 (nI (by4 f (p + 1)))) <<< (Int32.toInt64 32 &&& 63))], M)) rfl rfl rfl ?_
    refine ps_st (S' := (102, [(0, .ref o), (3, .int (nI (p + 1)))], [.long ((Int32.toInt64 (nI (by4 f (p + 5)))) &&& 4294967295), .long ((Int32.toInt64 (nI (by4 f (p + 1)))) <<< (Int32.toInt64 32 &&& 63))], M)) rfl rfl rfl ?_
    refine ps_st (S' := (103, [(0, .ref o), (3, .int (nI (p + 1)))], [.long (((Int32.toInt64 (nI (by4 f (p + 1)))) <<< (Int32.toInt64 32 &&& 63)) ||| ((Int32.toInt64 (nI (by4 f (p + 5)))) &&& 4294967295))], M)) rfl rfl rfl ?_
    exact ps_ret rfl rfl (⟨congrArg (fun x => some (Value.long x)) (bits8 (by4_lt _ _) (by4_lt _ _)), rfl⟩)
  · have c_60 : ¬ ((nI (tg f E j)) = 5) := of_decide_eq_false c_60
    have n_60 : ¬ (tg f E j = 5) := fun h9 => c_60 ((eq_nI (p := tg f E j) (n := 5) (Nat.lt_trans (tg_lt _ _ _) (by decide)) (by decide)).mpr h9)
    refine ps_st (S' := (64, [(3, .int (nI (p + 1))), (2, .int (nI (tg f E j))), (0, .ref o), (1, .int (nI j))], [.int (nI (tg f E j))], M)) rfl rfl rfl ?_
    refine ps_st (S' := (66, [(3, .int (nI (p + 1))), (2, .int (nI (tg f E j))), (0, .ref o), (1, .int (nI j))], [.int 6, .int (nI (tg f E j))], M)) rfl rfl rfl ?_
    refine ps_if2 (S1 := (104, [(3, .int (nI (p + 1))), (2, .int (nI (tg f E j))), (0, .ref o), (1, .int (nI j))], [], M)) (S2 := (69, [(0, .ref o), (3, .int (nI (p + 1)))], [], M)) rfl rfl rfl (fun c_66 => ?_) (fun c_66 => ?_)
    · exact absurd (of_decide_eq_true c_66) (fun h9 => h9 ((eq_nI (p := tg f E j) (n := 6) (Nat.lt_trans (tg_lt _ _ _) (by decide)) (by decide)).mpr (by omega)))
    refine ps_st (S' := (70, [(0, .ref o), (3, .int (nI (p + 1)))], [.ref o], M)) rfl rfl rfl ?_
    refine ps_get (S' := (73, [(0, .ref o), (3, .int (nI (p + 1)))], [.ref c], M)) rfl h_o rfl rfl ?_
    refine ps_get (S' := (76, [(0, .ref o), (3, .int (nI (p + 1)))], [.ref b], M)) rfl h_c rfl rfl ?_
    refine ps_st (S' := (77, [(0, .ref o), (3, .int (nI (p + 1)))], [.int (nI (p + 1)), .ref b], M)) rfl rfl rfl ?_
    refine pl_call (a := [.ref b, .int (nI (p + 1))]) (rest := []) rfl rfl rfl (dk_u4 (f := f) (n := n) (b := b) (da := da) (p := (p + 1)) h_b h_da (hn) (by omega)) (fun v13 M14 q15 => ?_)
    obtain ⟨rfl, rfl⟩ := q15
    show pl _ _ _ (80, [(0, .ref o), (3, .int (nI (p + 1)))], [.int (nI (by4 f (p + 1)))], M) _
    refine ps_st (S' := (81, [(0, .ref o), (3, .int (nI (p + 1)))], [.long (Int32.toInt64 (nI (by4 f (p + 1))))], M)) rfl rfl rfl ?_
    refine ps_st (S' := (83, [(0, .ref o), (3, .int (nI (p + 1)))], [.int 32, .long (Int32.toInt64 (nI (by4 f (p + 1))))], M)) rfl rfl rfl ?_
    refine ps_st (S' := (84, [(0, .ref o), (3, .int (nI (p + 1)))], [.long ((Int32.toInt64 (nI (by4 f (p + 1)))) <<< (Int32.toInt64 32 &&& 63))], M)) rfl rfl rfl ?_
    refine ps_st (S' := (85, [(0, .ref o), (3, .int (nI (p + 1)))], [.ref o, .long ((Int32.toInt64 (nI (by4 f (p + 1)))) <<< (Int32.toInt64 32 &&& 63))], M)) rfl rfl rfl ?_
    refine ps_get (S' := (88, [(0, .ref o), (3, .int (nI (p + 1)))], [.ref c, .long ((Int32.toInt64 (nI (by4 f (p + 1)))) <<< (Int32.toInt64 32 &&& 63))], M)) rfl h_o rfl rfl ?_
    refine ps_get (S' := (91, [(0, .ref o), (3, .int (nI (p + 1)))], [.ref b, .long ((Int32.toInt64 (nI (by4 f (p + 1)))) <<< (Int32.toInt64 32 &&& 63))], M)) rfl h_c rfl rfl ?_
    refine ps_st (S' := (92, [(0, .ref o), (3, .int (nI (p + 1)))], [.int (nI (p + 1)), .ref b, .long ((Int32.toInt64 (nI (by4 f (p + 1)))) <<< (Int32.toInt64 32 &&& 63))], M)) rfl rfl rfl ?_
    refine ps_st (S' := (93, [(0, .ref o), (3, .int (nI (p + 1)))], [.int 4, .int (nI (p + 1)), .ref b, .long ((Int32.toInt64 (nI (by4 f (p + 1)))) <<< (Int32.toInt64 32 &&& 63))], M)) rfl rfl rfl ?_
    refine ps_st (S' := (94, [(0, .ref o), (3, .int (nI (p + 1)))], [.int ((nI (p + 1)) + 4), .ref b, .long ((Int32.toInt64 (nI (by4 f (p + 1)))) <<< (Int32.toInt64 32 &&& 63))], M)) rfl rfl rfl ?_
    rw [nI_add1 (p := p + 1) (k := 4) (x := 4) rfl (by omega)]
    show pl _ _ _ (_, [(0, .ref o), (3, .int (nI (p + 1)))], [.int (nI (p + 5)), .ref b, .long ((Int32.toInt64 (nI (by4 f (p + 1)))) <<< (Int32.toInt64 32 &&& 63))], M) _
    refine pl_call (a := [.ref b, .int (nI (p + 5))]) (rest := [.long ((Int32.toInt64 (nI (by4 f (p + 1)))) <<< (Int32.toInt64 32 &&& 63))]) rfl rfl rfl (dk_u4 (f := f) (n := n) (b := b) (da := da) (p := (p + 5)) h_b h_da (hn) (by omega)) (fun v16 M17 q18 => ?_)
    obtain ⟨rfl, rfl⟩ := q18
    show pl _ _ _ (97, [(0, .ref o), (3, .int (nI (p + 1)))], [.int (nI (by4 f (p + 5))), .long ((Int32.toInt64 (nI (by4 f (p + 1)))) <<< (Int32.toInt64 32 &&& 63))], M) _
    refine ps_st (S' := (98, [(0, .ref o), (3, .int (nI (p + 1)))], [.long (Int32.toInt64 (nI (by4 f (p + 5)))), .long ((Int32.toInt64 (nI (by4 f (p + 1)))) <<< (Int32.toInt64 32 &&& 63))], M)) rfl rfl rfl ?_
    refine ps_st (S' := (101, [(0, .ref o), (3, .int (nI (p + 1)))], [.long 4294967295, .long (Int32.toInt64 (nI (by4 f (p + 5)))), .long ((Int32.toInt64 (nI (by4 f (p + 1)))) <<< (Int32.toInt64 32 &&& 63))], M)) rfl rfl rfl ?_
    refine ps_st (S' := (102, [(0, .ref o), (3, .int (nI (p + 1)))], [.long ((Int32.toInt64 (nI (by4 f (p + 5)))) &&& 4294967295), .long ((Int32.toInt64 (nI (by4 f (p + 1)))) <<< (Int32.toInt64 32 &&& 63))], M)) rfl rfl rfl ?_
    refine ps_st (S' := (103, [(0, .ref o), (3, .int (nI (p + 1)))], [.long (((Int32.toInt64 (nI (by4 f (p + 1)))) <<< (Int32.toInt64 32 &&& 63)) ||| ((Int32.toInt64 (nI (by4 f (p + 5)))) &&& 4294967295))], M)) rfl rfl rfl ?_
    exact ps_ret rfl rfl (⟨congrArg (fun x => some (Value.long x)) (bits8 (by4_lt _ _) (by4_lt _ _)), rfl⟩)
theorem dk_bits {g : xe_G} {M : mi_H} {ko : Option (Nat × (Nat → Int32))} {kv : Value} {cm o fl : Nat} {cn wp k : Int32} (hx : M.1 o = some (ob 11 [.ref cm, .int cn, .ref fl, kv, .int wp])) (hK : KPC g ko kv cm M) : pt (mT g) 1 [.ref o, .int k] M (fun v M' => v = some (.long (biK ko k)) ∧ M = M') := by
  cases ko with
  | none =>
    have e : kv = .null := hK
    subst e
    exact dk_bits0 hx
  | some r =>
    obtain ⟨c, da, rfl, ⟨b, q, N, E, p1, pF, pM, pA, w, h1, h2, h3, h4, h5, rfl, h6, h7, -⟩, -, -⟩ := hK
    rw [biK_is h5]
    have hpl := whole_in h5
    have h0 := tg_0 hpl
    by_cases ht : 3 ≤ tg r.2 E k.toNatClampNeg ∧ tg r.2 E k.toNatClampNeg ≤ 6
    · have hk0 : ¬ k < 0 := fun h9 => by rw [i32_cl h9, h0] at ht; omega
      have e := i32_nn hk0
      unfold biI
      obtain ⟨j, ej⟩ : ∃ j, j = k.toNatClampNeg := ⟨_, rfl⟩
      rw [← ej] at e ht ⊢
      have hj : j < 65536 := by
        obtain ⟨hL9, H, m, qq, F, cc, hP9, hT9, -, hb9, hVF, -⟩ := id h4
        refine Nat.not_le.mp (fun h9 => ?_)
        have h8 := hVF.2.1 j (by omega)
        omega
      subst e
      obtain ⟨p, hk9, hb9⟩ := tg_lk (f := r.2) (E := E) (k := j) (by omega)
      obtain ⟨u1, u2⟩ := nums_of hpl hk9
      rw [plc_of hk9]
      by_cases h34 : tg r.2 E j = 3 ∨ tg r.2 E j = 4
      · rw [if_pos h34]
        exact dk_bits4 hx h1 h2 h3 h4 hj h7 hk9 h34 (u1 (by omega))
      · have h56 : tg r.2 E j = 5 ∨ tg r.2 E j = 6 := by omega
        rw [if_neg h34, if_pos h56]
        exact dk_bits8 hx h1 h2 h3 h4 hj h7 hk9 h56 (u2 (by omega))
    · have e : biI r.2 E k = 0 := by
        unfold biI
        rw [if_neg (by omega), if_neg (by omega)]
      rw [e]
      exact dk_bitsT hx h1 h4 h0 ht
end
section
set_option maxHeartbeats 1000000 in
theorem rd_bits0 {g : xe_G} {m0 : Nat} {q : Nat → Nat} {z : Nat × Nat} {I : rI} {R : rR} {M : mi_H} {kn k : Int32} (hR : RS g m0 q z I R M) (hi18 : I 18 = some kn)  (hk : kn < 0) : pt (mT g) 183 [.ref m0, .int k] M (fun v M' => (∃  (I' : rI) (R' : rR), v = some (.long 0) ∧ RS g m0 q z I' R' M' ∧ eqI [0] I I' ∧ eqR [] R R' ∧ I' 0 = some 0)) := by
  refine pt_in (b := mb_183 g) rfl (fun kf => ?_)
  show pl (mT g) kf (mb_183 g).2 (0, [(0, .ref m0), (1, .int k)], [], M) _
  have hEI : eqI [0] I I := eqI.rf
  have hER : eqR [] R R := eqR.rf
  refine ps_st (S' := (1, [(0, .ref m0), (1, .int k)], [.ref m0], M)) rfl rfl rfl ?_
  refine ps_st (S' := (2, [(0, .ref m0), (1, .int k)], [.int 0, .ref m0], M)) rfl rfl rfl ?_
  refine pr_put (j := 0) rfl hR rfl (fun M1 I2 hR3 hi4 hI5 => ?_)
  have hi6 := (hI5 18 (by decide)).trans hi18
  have hEI7 := hEI.put hI5 (by decide)
  show pl _ _ _ (5, [(0, .ref m0), (1, .int k)], [], M1) _
  refine ps_st (S' := (6, [(0, .ref m0), (1, .int k)], [.ref m0], M1)) rfl rfl rfl ?_
  refine pr_int (j := 18) (S' := (9, [(0, .ref m0), (1, .int k)], [.int kn], M1)) rfl hR3 rfl hi6 rfl ?_
  refine ps_if (S1 := (14, [(0, .ref m0), (1, .int k)], [], M1)) (S2 := (12, [(0, .ref m0), (1, .int k)], [], M1)) rfl rfl rfl (fun c_9 => ?_) (fun c_9 => ?_)
  · exact absurd (of_decide_eq_true c_9) (Int32.not_le.mpr hk)
  refine ps_st (S' := (13, [(0, .ref m0), (1, .int k)], [.long 0], M1)) rfl rfl rfl ?_
  exact ps_ret rfl rfl (⟨I2, R, rfl, hR3, hEI7, hER, hi4⟩)
set_option maxHeartbeats 1000000 in
theorem rd_bitsT {g : xe_G} {m0 : Nat} {q : Nat → Nat} {z : Nat × Nat} {I : rI} {R : rR} {M : mi_H} {n : Nat} {f : Nat → Int32} {tx : List (List Nat)} {cN : Nat} {A : Nat → Nat} {N mj : Nat} {E : List (Nat × Nat)} {n2 : Nat} {k : Int32} (hR : RS g m0 q z I R M) (hi18 : I 18 = some (nI n2)) (hi51 : I 51 = some 0) (hi52 : I 52 = some (nI N)) (hi53 : I 53 = some (nI mj)) (hF : FK n f I R) (hY : SYT tx cN A I R) (hP : RPV f n E tx N I R) (hEP : EP f n E) (hN : N < 65536) (hmj : mj < 65536) (hn2 : n2 ≤ 65540) (h0 : tg f E 0 = 0) (ht : ¬ (3 ≤ tg f E k.toNatClampNeg ∧ tg f E k.toNatClampNeg ≤ 6)) : pt (mT g) 183 [.ref m0, .int k] M (fun v M' => (∃  (I' : rI) (R' : rR), v = some (.long 0) ∧ RS g m0 q z I' R' M' ∧ eqI [0] I I' ∧ eqR [] R R' ∧ I' 0 = some 0)) := by
  refine pt_in (b := mb_183 g) rfl (fun kf => ?_)
  show pl (mT g) kf (mb_183 g).2 (0, [(0, .ref m0), (1, .int k)], [], M) _
  have hEI : eqI [0] I I := eqI.rf
  have hER : eqR [] R R := eqR.rf
  refine ps_st (S' := (1, [(0, .ref m0), (1, .int k)], [.ref m0], M)) rfl rfl rfl ?_
  refine ps_st (S' := (2, [(0, .ref m0), (1, .int k)], [.int 0, .ref m0], M)) rfl rfl rfl ?_
  refine pr_put (j := 0) rfl hR rfl (fun M1 I2 hR3 hi4 hI5 => ?_)
  have hi6 := (hI5 18 (by decide)).trans hi18
  have hi7 := (hI5 51 (by decide)).trans hi51
  have hi8 := (hI5 52 (by decide)).trans hi52
  have hi9 := (hI5 53 (by decide)).trans hi53
  have hF_10 := hF.mono (pIx hI5 (by decide)) (fun _ _ => rfl)
  have hY_11 := hY.mono (pIx hI5 (by decide)) (fun _ _ => rfl)
  have hP_12 := hP.mono (pIx hI5 (by decide)) (fun _ _ => rfl)
  have hEI13 := hEI.put hI5 (by decide)
  show pl _ _ _ (5, [(0, .ref m0), (1, .int k)], [], M1) _
  refine ps_st (S' := (6, [(0, .ref m0), (1, .int k)], [.ref m0], M1)) rfl rfl rfl ?_
  refine pr_int (j := 18) (S' := (9, [(0, .ref m0), (1, .int k)], [.int (nI n2)], M1)) rfl hR3 rfl hi6 rfl ?_
  refine ps_if (S1 := (14, [(0, .ref m0), (1, .int k)], [], M1)) (S2 := (12, [(0, .ref m0), (1, .int k)], [], M1)) rfl rfl rfl (fun c_9 => ?_) (fun c_9 => ?_)
  rotate_left
  · exact absurd ((le_nI (p := 0) (n := n2) (by decide) (by omega)).mpr (by omega)) (of_decide_eq_false c_9)
  refine ps_st (S' := (15, [(0, .ref m0), (1, .int k)], [.ref m0], M1)) rfl rfl rfl ?_
  refine ps_st (S' := (16, [(0, .ref m0), (1, .int k)], [.int k, .ref m0], M1)) rfl rfl rfl ?_
  refine pl_call (a := [.ref m0, .int k]) (rest := []) rfl rfl rfl (rd_tagR (n := n) (f := f) (tx := tx) (cN := cN) (A := A) (N := N) (mj := mj) (E := E) (k := k) hR3 hi7 hi8 hi9 hF_10 hY_11 hP_12 (hEP) (hN) (hmj) (h0)) (fun v14 M15 q16 => ?_)
  obtain ⟨rfl, rfl⟩ := q16
  show pl _ _ _ (19, [(0, .ref m0), (1, .int k)], [.int (nI (tg f E k.toNatClampNeg))], M1) _
  have htg9 := tg_lt f E k.toNatClampNeg
  refine ps_st (S' := (20, [(2, .int (nI (tg f E k.toNatClampNeg))), (0, .ref m0), (1, .int k)], [], M1)) rfl rfl rfl ?_
  refine ps_st (S' := (21, [(2, .int (nI (tg f E k.toNatClampNeg))), (0, .ref m0), (1, .int k)], [.int (nI (tg f E k.toNatClampNeg))], M1)) rfl rfl rfl ?_
  refine ps_st (S' := (22, [(2, .int (nI (tg f E k.toNatClampNeg))), (0, .ref m0), (1, .int k)], [.int 3, .int (nI (tg f E k.toNatClampNeg))], M1)) rfl rfl rfl ?_
  refine ps_if2 (S1 := (30, [(0, .ref m0), (1, .int k)], [], M1)) (S2 := (25, [(2, .int (nI (tg f E k.toNatClampNeg))), (0, .ref m0), (1, .int k)], [], M1)) rfl rfl rfl (fun c_22 => ?_) (fun c_22 => ?_)
  · exact absurd (of_decide_eq_true c_22) (fun h9 => ht (by have h8 := (eq_nI (p := tg f E k.toNatClampNeg) (n := 3) (by omega) (by decide)).mp h9; omega))
  refine ps_st (S' := (26, [(2, .int (nI (tg f E k.toNatClampNeg))), (0, .ref m0), (1, .int k)], [.int (nI (tg f E k.toNatClampNeg))], M1)) rfl rfl rfl ?_
  refine ps_st (S' := (27, [(2, .int (nI (tg f E k.toNatClampNeg))), (0, .ref m0), (1, .int k)], [.int 4, .int (nI (tg f E k.toNatClampNeg))], M1)) rfl rfl rfl ?_
  refine ps_if2 (S1 := (45, [(2, .int (nI (tg f E k.toNatClampNeg))), (0, .ref m0), (1, .int k)], [], M1)) (S2 := (30, [(0, .ref m0), (1, .int k)], [], M1)) rfl rfl rfl (fun c_27 => ?_) (fun c_27 => ?_)
  rotate_left
  · exact absurd (show ¬ (nI (tg f E k.toNatClampNeg)) = 4 from fun h9 => ht (by have h8 := (eq_nI (p := tg f E k.toNatClampNeg) (n := 4) (by omega) (by decide)).mp h9; omega)) (of_decide_eq_false c_27)
  refine ps_st (S' := (46, [(2, .int (nI (tg f E k.toNatClampNeg))), (0, .ref m0), (1, .int k)], [.int (nI (tg f E k.toNatClampNeg))], M1)) rfl rfl rfl ?_
  refine ps_st (S' := (47, [(2, .int (nI (tg f E k.toNatClampNeg))), (0, .ref m0), (1, .int k)], [.int 5, .int (nI (tg f E k.toNatClampNeg))], M1)) rfl rfl rfl ?_
  refine ps_if2 (S1 := (56, [(0, .ref m0), (1, .int k)], [], M1)) (S2 := (50, [(2, .int (nI (tg f E k.toNatClampNeg))), (0, .ref m0), (1, .int k)], [], M1)) rfl rfl rfl (fun c_47 => ?_) (fun c_47 => ?_)
  · exact absurd (of_decide_eq_true c_47) (fun h9 => ht (by have h8 := (eq_nI (p := tg f E k.toNatClampNeg) (n := 5) (by omega) (by decide)).mp h9; omega))
  refine ps_st (S' := (51, [(2, .int (nI (tg f E k.toNatClampNeg))), (0, .ref m0), (1, .int k)], [.int (nI (tg f E k.toNatClampNeg))], M1)) rfl rfl rfl ?_
  refine ps_st (S' := (53, [(2, .int (nI (tg f E k.toNatClampNeg))), (0, .ref m0), (1, .int k)], [.int 6, .int (nI (tg f E k.toNatClampNeg))], M1)) rfl rfl rfl ?_
  refine ps_if2 (S1 := (85, [(2, .int (nI (tg f E k.toNatClampNeg))), (0, .ref m0), (1, .int k)], [], M1)) (S2 := (56, [(0, .ref m0), (1, .int k)], [], M1)) rfl rfl rfl (fun c_53 => ?_) (fun c_53 => ?_)
  rotate_left
  · exact absurd (show ¬ (nI (tg f E k.toNatClampNeg)) = 6 from fun h9 => ht (by have h8 := (eq_nI (p := tg f E k.toNatClampNeg) (n := 6) (by omega) (by decide)).mp h9; omega)) (of_decide_eq_false c_53)
  refine ps_st (S' := (86, [(2, .int (nI (tg f E k.toNatClampNeg))), (0, .ref m0), (1, .int k)], [.long 0], M1)) rfl rfl rfl ?_
  exact ps_ret rfl rfl (⟨I2, R, rfl, hR3, hEI13, hER, hi4⟩)
set_option maxHeartbeats 1000000 in
theorem rd_bits4 {g : xe_G} {m0 : Nat} {q : Nat → Nat} {z : Nat × Nat} {I : rI} {R : rR} {M : mi_H} {n : Nat} {f : Nat → Int32} {tx : List (List Nat)} {cN : Nat} {A : Nat → Nat} {N mj : Nat} {E : List (Nat × Nat)} {n2 : Nat} {j p : Nat} (hR : RS g m0 q z I R M) (hi18 : I 18 = some (nI n2)) (hi51 : I 51 = some 0) (hi52 : I 52 = some (nI N)) (hi53 : I 53 = some (nI mj)) (hF : FK n f I R) (hY : SYT tx cN A I R) (hP : RPV f n E tx N I R) (hEP : EP f n E) (hN : N < 65536) (hmj : mj < 65536) (hn2 : n2 ≤ 65540) (hj : j < 65536) (hk9 : lk E j = some p) (htt : tg f E j = 3 ∨ tg f E j = 4) (hin : p + 5 ≤ n) : pt (mT g) 183 [.ref m0, .int (nI j)] M (fun v M' => (∃  (I' : rI) (R' : rR), v = some (.long (bL4 f p)) ∧ RS g m0 q z I' R' M' ∧ eqI [0] I I' ∧ eqR [] R R' ∧ I' 0 = some 0)) := by
  refine pt_in (b := mb_183 g) rfl (fun kf => ?_)
  show pl (mT g) kf (mb_183 g).2 (0, [(0, .ref m0), (1, .int (nI j))], [], M) _
  have hEI : eqI [0] I I := eqI.rf
  have hER : eqR [] R R := eqR.rf
  have hn := hF.1
  have htl9 := tg_lt f E j
  refine ps_st (S' := (1, [(0, .ref m0), (1, .int (nI j))], [.ref m0], M)) rfl rfl rfl ?_
  refine ps_st (S' := (2, [(0, .ref m0), (1, .int (nI j))], [.int 0, .ref m0], M)) rfl rfl rfl ?_
  refine pr_put (j := 0) rfl hR rfl (fun M1 I2 hR3 hi4 hI5 => ?_)
  have hi6 := (hI5 18 (by decide)).trans hi18
  have hi7 := (hI5 51 (by decide)).trans hi51
  have hi8 := (hI5 52 (by decide)).trans hi52
  have hi9 := (hI5 53 (by decide)).trans hi53
  have hF_10 := hF.mono (pIx hI5 (by decide)) (fun _ _ => rfl)
  have hY_11 := hY.mono (pIx hI5 (by decide)) (fun _ _ => rfl)
  have hP_12 := hP.mono (pIx hI5 (by decide)) (fun _ _ => rfl)
  have hEI13 := hEI.put hI5 (by decide)
  show pl _ _ _ (5, [(0, .ref m0), (1, .int (nI j))], [], M1) _
  refine ps_st (S' := (6, [(0, .ref m0), (1, .int (nI j))], [.ref m0], M1)) rfl rfl rfl ?_
  refine pr_int (j := 18) (S' := (9, [(0, .ref m0), (1, .int (nI j))], [.int (nI n2)], M1)) rfl hR3 rfl hi6 rfl ?_
  refine ps_if (S1 := (14, [(0, .ref m0), (1, .int (nI j))], [], M1)) (S2 := (12, [(0, .ref m0), (1, .int (nI j))], [], M1)) rfl rfl rfl (fun c_9 => ?_) (fun c_9 => ?_)
  rotate_left
  · exact absurd ((le_nI (p := 0) (n := n2) (by decide) (by omega)).mpr (by omega)) (of_decide_eq_false c_9)
  refine ps_st (S' := (15, [(0, .ref m0), (1, .int (nI j))], [.ref m0], M1)) rfl rfl rfl ?_
  refine ps_st (S' := (16, [(0, .ref m0), (1, .int (nI j))], [.int (nI j), .ref m0], M1)) rfl rfl rfl ?_
  refine pl_call (a := [.ref m0, .int (nI j)]) (rest := []) rfl rfl rfl (rd_tag (n := n) (f := f) (tx := tx) (cN := cN) (A := A) (N := N) (mj := mj) (E := E) (k := j) hR3 hi7 hi8 hi9 hF_10 hY_11 hP_12 (hEP) (hN) (hmj) (by omega)) (fun v14 M15 q16 => ?_)
  obtain ⟨rfl, rfl⟩ := q16
  show pl _ _ _ (19, [(0, .ref m0), (1, .int (nI j))], [.int (nI (tg f E j))], M1) _
  have htg_16 := tg_lt f E j
  refine ps_st (S' := (20, [(2, .int (nI (tg f E j))), (0, .ref m0), (1, .int (nI j))], [], M1)) rfl rfl rfl ?_
  refine ps_st (S' := (21, [(2, .int (nI (tg f E j))), (0, .ref m0), (1, .int (nI j))], [.int (nI (tg f E j))], M1)) rfl rfl rfl ?_
  refine ps_st (S' := (22, [(2, .int (nI (tg f E j))), (0, .ref m0), (1, .int (nI j))], [.int 3, .int (nI (tg f E j))], M1)) rfl rfl rfl ?_
  refine ps_if2 (S1 := (30, [(0, .ref m0), (1, .int (nI j))], [], M1)) (S2 := (25, [(2, .int (nI (tg f E j))), (0, .ref m0), (1, .int (nI j))], [], M1)) rfl rfl rfl (fun c_22 => ?_) (fun c_22 => ?_)
  · have c_22 : (nI (tg f E j)) = 3 := of_decide_eq_true c_22
    have n_22 : tg f E j = 3 := (eq_nI (p := tg f E j) (n := 3) (Nat.lt_trans (tg_lt _ _ _) (by decide)) (by decide)).mp c_22
    refine ps_st (S' := (31, [(0, .ref m0), (1, .int (nI j))], [.ref m0], M1)) rfl rfl rfl ?_
    refine ps_st (S' := (32, [(0, .ref m0), (1, .int (nI j))], [.ref m0, .ref m0], M1)) rfl rfl rfl ?_
    refine pr_ref (j := 21) (S' := (35, [(0, .ref m0), (1, .int (nI j))], [.ref (q 21), .ref m0], M1)) rfl hR3 rfl rfl ?_
    refine ps_st (S' := (36, [(0, .ref m0), (1, .int (nI j))], [.int (nI j), .ref (q 21), .ref m0], M1)) rfl rfl rfl ?_
    refine pr_ld (a := 21) (j := j) (y := (nI p)) (S' := (37, [(0, .ref m0), (1, .int (nI j))], [.int (nI p), .ref m0], M1)) rfl hR3 rfl (by omega) (fun _ => (hP_12.at hk9).2.2) rfl (fun i1_36 => ?_)
    refine ps_st (S' := (38, [(0, .ref m0), (1, .int (nI j))], [.int 1, .int (nI p), .ref m0], M1)) rfl rfl rfl ?_
    refine ps_st (S' := (39, [(0, .ref m0), (1, .int (nI j))], [.int ((nI p) + 1), .ref m0], M1)) rfl rfl rfl ?_
    rw [nI_add1 (p := p) (k := 1) (x := 1) rfl (by omega)]
    show pl _ _ _ (_, [(0, .ref m0), (1, .int (nI j))], [.int (nI (p + 1)), .ref m0], M1) _
    refine pl_call (a := [.ref m0, .int (nI (p + 1))]) (rest := []) rfl rfl rfl (rd_u4 (n := n) (f := f) (p := (p + 1)) hR3 hF_10 (by omega)) (fun v17 M18 q19 => ?_)
    obtain ⟨rfl, rfl⟩ := q19
    show pl _ _ _ (42, [(0, .ref m0), (1, .int (nI j))], [.long (nL (by4 f (p + 1)))], M1) _
    have hu_39 := by4_lt f (p + 1)
    refine ps_st (S' := (43, [(0, .ref m0), (1, .int (nI j))], [.int (Int64.toInt32 (nL (by4 f (p + 1))))], M1)) rfl rfl rfl ?_
    refine ps_st (S' := (44, [(0, .ref m0), (1, .int (nI j))], [.long (Int32.toInt64 (Int64.toInt32 (nL (by4 f (p + 1)))))], M1)) rfl rfl rfl ?_
    exact ps_ret rfl rfl (⟨I2, R, by rw [l2i_all]; rfl, hR3, hEI13, hER, hi4⟩)
  · have c_22 : ¬ ((nI (tg f E j)) = 3) := of_decide_eq_false c_22
    have n_22 : ¬ (tg f E j = 3) := fun h9 => c_22 ((eq_nI (p := tg f E j) (n := 3) (Nat.lt_trans (tg_lt _ _ _) (by decide)) (by decide)).mpr h9)
    refine ps_st (S' := (26, [(2, .int (nI (tg f E j))), (0, .ref m0), (1, .int (nI j))], [.int (nI (tg f E j))], M1)) rfl rfl rfl ?_
    refine ps_st (S' := (27, [(2, .int (nI (tg f E j))), (0, .ref m0), (1, .int (nI j))], [.int 4, .int (nI (tg f E j))], M1)) rfl rfl rfl ?_
    refine ps_if2 (S1 := (45, [(2, .int (nI (tg f E j))), (0, .ref m0), (1, .int (nI j))], [], M1)) (S2 := (30, [(0, .ref m0), (1, .int (nI j))], [], M1)) rfl rfl rfl (fun c_27 => ?_) (fun c_27 => ?_)
    · exact absurd (of_decide_eq_true c_27) (fun h9 => h9 ((eq_nI (p := tg f E j) (n := 4) (Nat.lt_trans (tg_lt _ _ _) (by decide)) (by decide)).mpr (by omega)))
    refine ps_st (S' := (31, [(0, .ref m0), (1, .int (nI j))], [.ref m0], M1)) rfl rfl rfl ?_
    refine ps_st (S' := (32, [(0, .ref m0), (1, .int (nI j))], [.ref m0, .ref m0], M1)) rfl rfl rfl ?_
    refine pr_ref (j := 21) (S' := (35, [(0, .ref m0), (1, .int (nI j))], [.ref (q 21), .ref m0], M1)) rfl hR3 rfl rfl ?_
    refine ps_st (S' := (36, [(0, .ref m0), (1, .int (nI j))], [.int (nI j), .ref (q 21), .ref m0], M1)) rfl rfl rfl ?_
    refine pr_ld (a := 21) (j := j) (y := (nI p)) (S' := (37, [(0, .ref m0), (1, .int (nI j))], [.int (nI p), .ref m0], M1)) rfl hR3 rfl (by omega) (fun _ => (hP_12.at hk9).2.2) rfl (fun i1_36 => ?_)
    refine ps_st (S' := (38, [(0, .ref m0), (1, .int (nI j))], [.int 1, .int (nI p), .ref m0], M1)) rfl rfl rfl ?_
    refine ps_st (S' := (39, [(0, .ref m0), (1, .int (nI j))], [.int ((nI p) + 1), .ref m0], M1)) rfl rfl rfl ?_
    rw [nI_add1 (p := p) (k := 1) (x := 1) rfl (by omega)]
    show pl _ _ _ (_, [(0, .ref m0), (1, .int (nI j))], [.int (nI (p + 1)), .ref m0], M1) _
    refine pl_call (a := [.ref m0, .int (nI (p + 1))]) (rest := []) rfl rfl rfl (rd_u4 (n := n) (f := f) (p := (p + 1)) hR3 hF_10 (by omega)) (fun v20 M21 q22 => ?_)
    obtain ⟨rfl, rfl⟩ := q22
    show pl _ _ _ (42, [(0, .ref m0), (1, .int (nI j))], [.long (nL (by4 f (p + 1)))], M1) _
    have hu_39 := by4_lt f (p + 1)
    refine ps_st (S' := (43, [(0, .ref m0), (1, .int (nI j))], [.int (Int64.toInt32 (nL (by4 f (p + 1))))], M1)) rfl rfl rfl ?_
    refine ps_st (S' := (44, [(0, .ref m0), (1, .int (nI j))], [.long (Int32.toInt64 (Int64.toInt32 (nL (by4 f (p + 1)))))], M1)) rfl rfl rfl ?_
    exact ps_ret rfl rfl (⟨I2, R, by rw [l2i_all]; rfl, hR3, hEI13, hER, hi4⟩)
set_option maxHeartbeats 1000000 in
theorem rd_bits8 {g : xe_G} {m0 : Nat} {q : Nat → Nat} {z : Nat × Nat} {I : rI} {R : rR} {M : mi_H} {n : Nat} {f : Nat → Int32} {tx : List (List Nat)} {cN : Nat} {A : Nat → Nat} {N mj : Nat} {E : List (Nat × Nat)} {n2 : Nat} {j p : Nat} (hR : RS g m0 q z I R M) (hi18 : I 18 = some (nI n2)) (hi51 : I 51 = some 0) (hi52 : I 52 = some (nI N)) (hi53 : I 53 = some (nI mj)) (hF : FK n f I R) (hY : SYT tx cN A I R) (hP : RPV f n E tx N I R) (hEP : EP f n E) (hN : N < 65536) (hmj : mj < 65536) (hn2 : n2 ≤ 65540) (hj : j < 65536) (hk9 : lk E j = some p) (htt : tg f E j = 5 ∨ tg f E j = 6) (hin : p + 9 ≤ n) : pt (mT g) 183 [.ref m0, .int (nI j)] M (fun v M' => (∃  (I' : rI) (R' : rR), v = some (.long (bL8 f p)) ∧ RS g m0 q z I' R' M' ∧ eqI [0] I I' ∧ eqR [] R R' ∧ I' 0 = some 0)) := by
  refine pt_in (b := mb_183 g) rfl (fun kf => ?_)
  show pl (mT g) kf (mb_183 g).2 (0, [(0, .ref m0), (1, .int (nI j))], [], M) _
  have hEI : eqI [0] I I := eqI.rf
  have hER : eqR [] R R := eqR.rf
  have hn := hF.1
  have htl9 := tg_lt f E j
  refine ps_st (S' := (1, [(0, .ref m0), (1, .int (nI j))], [.ref m0], M)) rfl rfl rfl ?_
  refine ps_st (S' := (2, [(0, .ref m0), (1, .int (nI j))], [.int 0, .ref m0], M)) rfl rfl rfl ?_
  refine pr_put (j := 0) rfl hR rfl (fun M1 I2 hR3 hi4 hI5 => ?_)
  have hi6 := (hI5 18 (by decide)).trans hi18
  have hi7 := (hI5 51 (by decide)).trans hi51
  have hi8 := (hI5 52 (by decide)).trans hi52
  have hi9 := (hI5 53 (by decide)).trans hi53
  have hF_10 := hF.mono (pIx hI5 (by decide)) (fun _ _ => rfl)
  have hY_11 := hY.mono (pIx hI5 (by decide)) (fun _ _ => rfl)
  have hP_12 := hP.mono (pIx hI5 (by decide)) (fun _ _ => rfl)
  have hEI13 := hEI.put hI5 (by decide)
  show pl _ _ _ (5, [(0, .ref m0), (1, .int (nI j))], [], M1) _
  refine ps_st (S' := (6, [(0, .ref m0), (1, .int (nI j))], [.ref m0], M1)) rfl rfl rfl ?_
  refine pr_int (j := 18) (S' := (9, [(0, .ref m0), (1, .int (nI j))], [.int (nI n2)], M1)) rfl hR3 rfl hi6 rfl ?_
  refine ps_if (S1 := (14, [(0, .ref m0), (1, .int (nI j))], [], M1)) (S2 := (12, [(0, .ref m0), (1, .int (nI j))], [], M1)) rfl rfl rfl (fun c_9 => ?_) (fun c_9 => ?_)
  rotate_left
  · exact absurd ((le_nI (p := 0) (n := n2) (by decide) (by omega)).mpr (by omega)) (of_decide_eq_false c_9)
  refine ps_st (S' := (15, [(0, .ref m0), (1, .int (nI j))], [.ref m0], M1)) rfl rfl rfl ?_
  refine ps_st (S' := (16, [(0, .ref m0), (1, .int (nI j))], [.int (nI j), .ref m0], M1)) rfl rfl rfl ?_
  refine pl_call (a := [.ref m0, .int (nI j)]) (rest := []) rfl rfl rfl (rd_tag (n := n) (f := f) (tx := tx) (cN := cN) (A := A) (N := N) (mj := mj) (E := E) (k := j) hR3 hi7 hi8 hi9 hF_10 hY_11 hP_12 (hEP) (hN) (hmj) (by omega)) (fun v14 M15 q16 => ?_)
  obtain ⟨rfl, rfl⟩ := q16
  show pl _ _ _ (19, [(0, .ref m0), (1, .int (nI j))], [.int (nI (tg f E j))], M1) _
  have htg_16 := tg_lt f E j
  refine ps_st (S' := (20, [(2, .int (nI (tg f E j))), (0, .ref m0), (1, .int (nI j))], [], M1)) rfl rfl rfl ?_
  refine ps_st (S' := (21, [(2, .int (nI (tg f E j))), (0, .ref m0), (1, .int (nI j))], [.int (nI (tg f E j))], M1)) rfl rfl rfl ?_
  refine ps_st (S' := (22, [(2, .int (nI (tg f E j))), (0, .ref m0), (1, .int (nI j))], [.int 3, .int (nI (tg f E j))], M1)) rfl rfl rfl ?_
  refine ps_if2 (S1 := (30, [(0, .ref m0), (1, .int (nI j))], [], M1)) (S2 := (25, [(2, .int (nI (tg f E j))), (0, .ref m0), (1, .int (nI j))], [], M1)) rfl rfl rfl (fun c_22 => ?_) (fun c_22 => ?_)
  · exact absurd (of_decide_eq_true c_22) (show ¬ ((nI (tg f E j)) = 3) from fun h9 => absurd ((eq_nI (p := tg f E j) (n := 3) (Nat.lt_trans (tg_lt _ _ _) (by decide)) (by decide)).mp h9) (by omega))
  refine ps_st (S' := (26, [(2, .int (nI (tg f E j))), (0, .ref m0), (1, .int (nI j))], [.int (nI (tg f E j))], M1)) rfl rfl rfl ?_
  refine ps_st (S' := (27, [(2, .int (nI (tg f E j))), (0, .ref m0), (1, .int (nI j))], [.int 4, .int (nI (tg f E j))], M1)) rfl rfl rfl ?_
  refine ps_if2 (S1 := (45, [(2, .int (nI (tg f E j))), (0, .ref m0), (1, .int (nI j))], [], M1)) (S2 := (30, [(0, .ref m0), (1, .int (nI j))], [], M1)) rfl rfl rfl (fun c_27 => ?_) (fun c_27 => ?_)
  rotate_left
  · exact absurd (show ¬ ((nI (tg f E j)) = 4) from fun h9 => absurd ((eq_nI (p := tg f E j) (n := 4) (Nat.lt_trans (tg_lt _ _ _) (by decide)) (by decide)).mp h9) (by omega)) (of_decide_eq_false c_27)
  refine ps_st (S' := (46, [(2, .int (nI (tg f E j))), (0, .ref m0), (1, .int (nI j))], [.int (nI (tg f E j))], M1)) rfl rfl rfl ?_
  refine ps_st (S' := (47, [(2, .int (nI (tg f E j))), (0, .ref m0), (1, .int (nI j))], [.int 5, .int (nI (tg f E j))], M1)) rfl rfl rfl ?_
  refine ps_if2 (S1 := (56, [(0, .ref m0), (1, .int (nI j))], [], M1)) (S2 := (50, [(2, .int (nI (tg f E j))), (0, .ref m0), (1, .int (nI j))], [], M1)) rfl rfl rfl (fun c_47 => ?_) (fun c_47 => ?_)
  · have c_47 : (nI (tg f E j)) = 5 := of_decide_eq_true c_47
    have n_47 : tg f E j = 5 := (eq_nI (p := tg f E j) (n := 5) (Nat.lt_trans (tg_lt _ _ _) (by decide)) (by decide)).mp c_47
    refine ps_st (S' := (57, [(0, .ref m0), (1, .int (nI j))], [.ref m0], M1)) rfl rfl rfl ?_
    refine ps_st (S' := (58, [(0, .ref m0), (1, .int (nI j))], [.ref m0, .ref m0], M1)) rfl rfl rfl ?_
    refine pr_ref (j := 21) (S' := (61, [(0, .ref m0), (1, .int (nI j))], [.ref (q 21), .ref m0], M1)) rfl hR3 rfl rfl ?_
    refine ps_st (S' := (62, [(0, .ref m0), (1, .int (nI j))], [.int (nI j), .ref (q 21), .ref m0], M1)) rfl rfl rfl ?_
    refine pr_ld (a := 21) (j := j) (y := (nI p)) (S' := (63, [(0, .ref m0), (1, .int (nI j))], [.int (nI p), .ref m0], M1)) rfl hR3 rfl (by omega) (fun _ => (hP_12.at hk9).2.2) rfl (fun i1_62 => ?_)
    refine ps_st (S' := (64, [(0, .ref m0), (1, .int (nI j))], [.int 1, .int (nI p), .ref m0], M1)) rfl rfl rfl ?_
    refine ps_st (S' := (65, [(0, .ref m0), (1, .int (nI j))], [.int ((nI p) + 1), .ref m0], M1)) rfl rfl rfl ?_
    rw [nI_add1 (p := p) (k := 1) (x := 1) rfl (by omega)]
    show pl _ _ _ (_, [(0, .ref m0), (1, .int (nI j))], [.int (nI (p + 1)), .ref m0], M1) _
    refine pl_call (a := [.ref m0, .int (nI (p + 1))]) (rest := []) rfl rfl rfl (rd_u4 (n := n) (f := f) (p := (p + 1)) hR3 hF_10 (by omega)) (fun v17 M18 q19 => ?_)
    obtain ⟨rfl, rfl⟩ := q19
    show pl _ _ _ (68, [(0, .ref m0), (1, .int (nI j))], [.long (nL (by4 f (p + 1)))], M1) _
    have hu_65 := by4_lt f (p + 1)
    refine ps_st (S' := (70, [(0, .ref m0), (1, .int (nI j))], [.int 32, .long (nL (by4 f (p + 1)))], M1)) rfl rfl rfl ?_
    refine ps_st (S' := (71, [(0, .ref m0), (1, .int (nI j))], [.long ((nL (by4 f (p + 1))) <<< (Int32.toInt64 32 &&& 63))], M1)) rfl rfl rfl ?_
    refine ps_st (S' := (72, [(0, .ref m0), (1, .int (nI j))], [.ref m0, .long ((nL (by4 f (p + 1))) <<< (Int32.toInt64 32 &&& 63))], M1)) rfl rfl rfl ?_
    refine ps_st (S' := (73, [(0, .ref m0), (1, .int (nI j))], [.ref m0, .ref m0, .long ((nL (by4 f (p + 1))) <<< (Int32.toInt64 32 &&& 63))], M1)) rfl rfl rfl ?_
    refine pr_ref (j := 21) (S' := (76, [(0, .ref m0), (1, .int (nI j))], [.ref (q 21), .ref m0, .long ((nL (by4 f (p + 1))) <<< (Int32.toInt64 32 &&& 63))], M1)) rfl hR3 rfl rfl ?_
    refine ps_st (S' := (77, [(0, .ref m0), (1, .int (nI j))], [.int (nI j), .ref (q 21), .ref m0, .long ((nL (by4 f (p + 1))) <<< (Int32.toInt64 32 &&& 63))], M1)) rfl rfl rfl ?_
    refine pr_ld (a := 21) (j := j) (y := (nI p)) (S' := (78, [(0, .ref m0), (1, .int (nI j))], [.int (nI p), .ref m0, .long ((nL (by4 f (p + 1))) <<< (Int32.toInt64 32 &&& 63))], M1)) rfl hR3 rfl (by omega) (fun _ => (hP_12.at hk9).2.2) rfl (fun i1_77 => ?_)
    refine ps_st (S' := (79, [(0, .ref m0), (1, .int (nI j))], [.int 5, .int (nI p), .ref m0, .long ((nL (by4 f (p + 1))) <<< (Int32.toInt64 32 &&& 63))], M1)) rfl rfl rfl ?_
    refine ps_st (S' := (80, [(0, .ref m0), (1, .int (nI j))], [.int ((nI p) + 5), .ref m0, .long ((nL (by4 f (p + 1))) <<< (Int32.toInt64 32 &&& 63))], M1)) rfl rfl rfl ?_
    rw [nI_add1 (p := p) (k := 5) (x := 5) rfl (by omega)]
    show pl _ _ _ (_, [(0, .ref m0), (1, .int (nI j))], [.int (nI (p + 5)), .ref m0, .long ((nL (by4 f (p + 1))) <<< (Int32.toInt64 32 &&& 63))], M1) _
    refine pl_call (a := [.ref m0, .int (nI (p + 5))]) (rest := [.long ((nL (by4 f (p + 1))) <<< (Int32.toInt64 32 &&& 63))]) rfl rfl rfl (rd_u4 (n := n) (f := f) (p := (p + 5)) hR3 hF_10 (by omega)) (fun v20 M21 q22 => ?_)
    obtain ⟨rfl, rfl⟩ := q22
    show pl _ _ _ (83, [(0, .ref m0), (1, .int (nI j))], [.long (nL (by4 f (p + 5))), .long ((nL (by4 f (p + 1))) <<< (Int32.toInt64 32 &&& 63))], M1) _
    have hu_80 := by4_lt f (p + 5)
    refine ps_st (S' := (84, [(0, .ref m0), (1, .int (nI j))], [.long (((nL (by4 f (p + 1))) <<< (Int32.toInt64 32 &&& 63)) ||| (nL (by4 f (p + 5))))], M1)) rfl rfl rfl ?_
    exact ps_ret rfl rfl (⟨I2, R, rfl, hR3, hEI13, hER, hi4⟩)
  · have c_47 : ¬ ((nI (tg f E j)) = 5) := of_decide_eq_false c_47
    have n_47 : ¬ (tg f E j = 5) := fun h9 => c_47 ((eq_nI (p := tg f E j) (n := 5) (Nat.lt_trans (tg_lt _ _ _) (by decide)) (by decide)).mpr h9)
    refine ps_st (S' := (51, [(2, .int (nI (tg f E j))), (0, .ref m0), (1, .int (nI j))], [.int (nI (tg f E j))], M1)) rfl rfl rfl ?_
    refine ps_st (S' := (53, [(2, .int (nI (tg f E j))), (0, .ref m0), (1, .int (nI j))], [.int 6, .int (nI (tg f E j))], M1)) rfl rfl rfl ?_
    refine ps_if2 (S1 := (85, [(2, .int (nI (tg f E j))), (0, .ref m0), (1, .int (nI j))], [], M1)) (S2 := (56, [(0, .ref m0), (1, .int (nI j))], [], M1)) rfl rfl rfl (fun c_53 => ?_) (fun c_53 => ?_)
    · exact absurd (of_decide_eq_true c_53) (fun h9 => h9 ((eq_nI (p := tg f E j) (n := 6) (Nat.lt_trans (tg_lt _ _ _) (by decide)) (by decide)).mpr (by omega)))
    refine ps_st (S' := (57, [(0, .ref m0), (1, .int (nI j))], [.ref m0], M1)) rfl rfl rfl ?_
    refine ps_st (S' := (58, [(0, .ref m0), (1, .int (nI j))], [.ref m0, .ref m0], M1)) rfl rfl rfl ?_
    refine pr_ref (j := 21) (S' := (61, [(0, .ref m0), (1, .int (nI j))], [.ref (q 21), .ref m0], M1)) rfl hR3 rfl rfl ?_
    refine ps_st (S' := (62, [(0, .ref m0), (1, .int (nI j))], [.int (nI j), .ref (q 21), .ref m0], M1)) rfl rfl rfl ?_
    refine pr_ld (a := 21) (j := j) (y := (nI p)) (S' := (63, [(0, .ref m0), (1, .int (nI j))], [.int (nI p), .ref m0], M1)) rfl hR3 rfl (by omega) (fun _ => (hP_12.at hk9).2.2) rfl (fun i1_62 => ?_)
    refine ps_st (S' := (64, [(0, .ref m0), (1, .int (nI j))], [.int 1, .int (nI p), .ref m0], M1)) rfl rfl rfl ?_
    refine ps_st (S' := (65, [(0, .ref m0), (1, .int (nI j))], [.int ((nI p) + 1), .ref m0], M1)) rfl rfl rfl ?_
    rw [nI_add1 (p := p) (k := 1) (x := 1) rfl (by omega)]
    show pl _ _ _ (_, [(0, .ref m0), (1, .int (nI j))], [.int (nI (p + 1)), .ref m0], M1) _
    refine pl_call (a := [.ref m0, .int (nI (p + 1))]) (rest := []) rfl rfl rfl (rd_u4 (n := n) (f := f) (p := (p + 1)) hR3 hF_10 (by omega)) (fun v23 M24 q25 => ?_)
    obtain ⟨rfl, rfl⟩ := q25
    show pl _ _ _ (68, [(0, .ref m0), (1, .int (nI j))], [.long (nL (by4 f (p + 1)))], M1) _
    have hu_65 := by4_lt f (p + 1)
    refine ps_st (S' := (70, [(0, .ref m0), (1, .int (nI j))], [.int 32, .long (nL (by4 f (p + 1)))], M1)) rfl rfl rfl ?_
    refine ps_st (S' := (71, [(0, .ref m0), (1, .int (nI j))], [.long ((nL (by4 f (p + 1))) <<< (Int32.toInt64 32 &&& 63))], M1)) rfl rfl rfl ?_
    refine ps_st (S' := (72, [(0, .ref m0), (1, .int (nI j))], [.ref m0, .long ((nL (by4 f (p + 1))) <<< (Int32.toInt64 32 &&& 63))], M1)) rfl rfl rfl ?_
    refine ps_st (S' := (73, [(0, .ref m0), (1, .int (nI j))], [.ref m0, .ref m0, .long ((nL (by4 f (p + 1))) <<< (Int32.toInt64 32 &&& 63))], M1)) rfl rfl rfl ?_
    refine pr_ref (j := 21) (S' := (76, [(0, .ref m0), (1, .int (nI j))], [.ref (q 21), .ref m0, .long ((nL (by4 f (p + 1))) <<< (Int32.toInt64 32 &&& 63))], M1)) rfl hR3 rfl rfl ?_
    refine ps_st (S' := (77, [(0, .ref m0), (1, .int (nI j))], [.int (nI j), .ref (q 21), .ref m0, .long ((nL (by4 f (p + 1))) <<< (Int32.toInt64 32 &&& 63))], M1)) rfl rfl rfl ?_
    refine pr_ld (a := 21) (j := j) (y := (nI p)) (S' := (78, [(0, .ref m0), (1, .int (nI j))], [.int (nI p), .ref m0, .long ((nL (by4 f (p + 1))) <<< (Int32.toInt64 32 &&& 63))], M1)) rfl hR3 rfl (by omega) (fun _ => (hP_12.at hk9).2.2) rfl (fun i1_77 => ?_)
    refine ps_st (S' := (79, [(0, .ref m0), (1, .int (nI j))], [.int 5, .int (nI p), .ref m0, .long ((nL (by4 f (p + 1))) <<< (Int32.toInt64 32 &&& 63))], M1)) rfl rfl rfl ?_
    refine ps_st (S' := (80, [(0, .ref m0), (1, .int (nI j))], [.int ((nI p) + 5), .ref m0, .long ((nL (by4 f (p + 1))) <<< (Int32.toInt64 32 &&& 63))], M1)) rfl rfl rfl ?_
    rw [nI_add1 (p := p) (k := 5) (x := 5) rfl (by omega)]
    show pl _ _ _ (_, [(0, .ref m0), (1, .int (nI j))], [.int (nI (p + 5)), .ref m0, .long ((nL (by4 f (p + 1))) <<< (Int32.toInt64 32 &&& 63))], M1) _
    refine pl_call (a := [.ref m0, .int (nI (p + 5))]) (rest := [.long ((nL (by4 f (p + 1))) <<< (Int32.toInt64 32 &&& 63))]) rfl rfl rfl (rd_u4 (n := n) (f := f) (p := (p + 5)) hR3 hF_10 (by omega)) (fun v26 M27 q28 => ?_)
    obtain ⟨rfl, rfl⟩ := q28
    show pl _ _ _ (83, [(0, .ref m0), (1, .int (nI j))], [.long (nL (by4 f (p + 5))), .long ((nL (by4 f (p + 1))) <<< (Int32.toInt64 32 &&& 63))], M1) _
    have hu_80 := by4_lt f (p + 5)
    refine ps_st (S' := (84, [(0, .ref m0), (1, .int (nI j))], [.long (((nL (by4 f (p + 1))) <<< (Int32.toInt64 32 &&& 63)) ||| (nL (by4 f (p + 5))))], M1)) rfl rfl rfl ?_
    exact ps_ret rfl rfl (⟨I2, R, rfl, hR3, hEI13, hER, hi4⟩)
theorem rd_bits {g : xe_G} {m0 : Nat} {q : Nat → Nat} {z : Nat × Nat} {I : rI} {R : rR} {M : mi_H} {ko : Option (Nat × (Nat → Int32))} {k : Int32} (hR : RS g m0 q z I R M) (hK : KPR ko I R) : pt (mT g) 183 [.ref m0, .int k] M (fun v M' => ∃ (I' : rI) (R' : rR), v = some (.long (biK ko k)) ∧ RS g m0 q z I' R' M' ∧ eqI [0] I I' ∧ eqR [] R R' ∧ I' 0 = some 0) := by
  cases ko with
  | none =>
    obtain ⟨kn, h1, h2⟩ := hK
    exact rd_bits0 hR h1 h2
  | some r =>
    obtain ⟨h1, h2, -, -, tx, cN, A, E, N, mj, p1, pF, pM, pA, k1, k2, k3, k4, k5, k6, k7, rfl, rfl, -⟩ := hK
    rw [biK_is k7]
    have hN := by2_lt r.2 8
    have hpl := whole_in k7
    have hEP := (EP_of hpl).1
    have h0 := tg_0 hpl
    by_cases ht : 3 ≤ tg r.2 E k.toNatClampNeg ∧ tg r.2 E k.toNatClampNeg ≤ 6
    · have hk0 : ¬ k < 0 := fun h9 => by rw [i32_cl h9, h0] at ht; omega
      have e := i32_nn hk0
      unfold biI
      obtain ⟨j, ej⟩ : ∃ j, j = k.toNatClampNeg := ⟨_, rfl⟩
      rw [← ej] at e ht ⊢
      have hj : j < 65536 := Nat.not_le.mp (fun h9 => by
        unfold tg at ht
        rw [lk_hi k3.1 (Or.inr (by omega))] at ht
        dsimp only at ht
        omega)
      subst e
      obtain ⟨p, hk9, hb9⟩ := tg_lk (f := r.2) (E := E) (k := j) (by omega)
      obtain ⟨u1, u2⟩ := nums_of hpl hk9
      rw [plc_of hk9]
      by_cases h34 : tg r.2 E j = 3 ∨ tg r.2 E j = 4
      · rw [if_pos h34]
        exact rd_bits4 hR h1 k4 k5 k6 k1 k2 k3 hEP hN (by2_lt _ _) h2 hj hk9 h34 (u1 (by omega))
      · have h56 : tg r.2 E j = 5 ∨ tg r.2 E j = 6 := by omega
        rw [if_neg h34, if_pos h56]
        exact rd_bits8 hR h1 k4 k5 k6 k1 k2 k3 hEP hN (by2_lt _ _) h2 hj hk9 h56 (u2 (by omega))
    · have e : biI r.2 E k = 0 := by
        unfold biI
        rw [if_neg (by omega), if_neg (by omega)]
      rw [e]
      exact rd_bitsT hR h1 k4 k5 k6 k1 k2 k3 hEP hN (by2_lt _ _) h2 h0 ht
end
section
/-! places of a descriptor, as both sides tell them (my own text) -/
section PLA
variable {f : Nat → Int32} {n H m : Nat} {E : List (Nat × Nat)} {F : Nat → Nat → Int32} {l : List Nat}
def plT (l : List Nat) : Int32 := if shN l = 0 then -1 else nI (shN l % 4096)
def plX (f : Nat → Int32) (n : Nat) (E : List (Nat × Nat)) (k : Int32) : Int32 := if tg f E k.toNatClampNeg = 1 then plT (tX f n E k.toNatClampNeg) else -1
/-- what is kept tells it -/
def plK (ko : Option (Nat × (Nat → Int32))) (k : Int32) : Int32 := match ko with
  | none => -1
  | some r => match s_whole r.2 r.1 with
    | .inl _ => -1
    | .inr y => plX r.2 r.1 y.1 k
theorem plK_is {r : Nat × (Nat → Int32)} {k : Int32} {y : Nat × Nat × Nat × Nat} (h : s_whole r.2 r.1 = .inr (E, y)) : plK (some r) k = plX r.2 r.1 E k := by
  show (match s_whole r.2 r.1 with | .inl _ => -1 | .inr y => plX r.2 r.1 y.1 k) = _
  rw [h]
theorem VF.plaR (h : VF f n E H m F) (hs : VS f n E F) (hH : H ≤ 65536) (h0 : tg f E 0 = 0) (k : Int32) : sp_placesTold H m F k = plX f n E k := by
  unfold sp_placesTold plX
  rw [h.tagR hH h0 k]
  obtain ⟨j, hj⟩ : ∃ j, j = k.toNatClampNeg := ⟨_, rfl⟩
  rw [← hj]
  by_cases h1 : tg f E j = 1
  · rw [if_neg (by rw [h1]; exact fun q => q rfl), if_pos h1, hs j h1]
    have hl := shN_lt (tX f n E j)
    unfold plT shI
    by_cases h2 : shN (tX f n E j) = 0
    · rw [if_pos h2, if_pos h2, if_neg (fun q => q rfl)]
    · rw [if_neg h2, if_neg h2, if_pos (fun q => absurd (congrArg Int32.toInt q) (by rw [nI_val (by omega)]; show ¬ ((shN (tX f n E j) : Nat) : Int) = -1; omega)), nI_rem (a := shN (tX f n E j)) (x := 4096) (k := 4096) rfl rfl (by decide) (by omega)]
  · rw [if_pos (show ¬ nI (tg f E j) = 1 from fun q => h1 ((eq_nI (p := tg f E j) (n := 1) (Nat.lt_trans (tg_lt _ _ _) (by decide)) (by decide)).mp q)), if_neg h1]
def wdN (x : Nat) : Nat := if x = 74 ∨ x = 68 then 1 else 0
theorem le1_wd (x : Nat) : wdN x < 2 := by unfold wdN; split <;> omega
theorem pW_wd (x : Nat) : pW x = wdN x + 1 := by unfold pW wdN; split <;> rfl
theorem fld_sh (h : ¬ fldN l = 0) : shN l = pW (l.getD 0 0) ∧ 0 < l.length := by
  have h1 : 0 < shN l ∧ shN l < 4096 := Decidable.byContradiction (fun q => h (if_neg q))
  by_cases h0 : l.length = 0
  · unfold shN s_sh at h1
    rw [if_pos h0] at h1
    omega
  · refine ⟨?_, by omega⟩
    by_cases h2 : l.getD 0 0 = 40
    · have h3 := mth_sh (l := l) (by omega) h2
      unfold s_ms at h3
      repeat' split at h3
      all_goals omega
    · have h3 : shN l = if s_ty (fun i => l.getD i 0) l.length 0 = some l.length then pW (l.getD 0 0) else 0 := by
        unfold shN s_sh
        rw [if_neg h0, if_neg h2]
      by_cases h4 : s_ty (fun i => l.getD i 0) l.length 0 = some l.length
      · rw [if_pos h4] at h3
        exact h3
      · rw [if_neg h4] at h3
        omega
theorem plT_f {t : Nat} {x : Int32} (h : ¬ fldN l = 0) (ht : t = pW (l.getD 0 0)) (hx : x = nI t) : x = plT l := by
  have h1 := (fld_sh h).1
  have h2 := pW_le (l.getD 0 0)
  have h3 := pW_wd (l.getD 0 0)
  unfold plT
  rw [if_neg (by omega), h1, ← ht, hx, Nat.mod_eq_of_lt (by omega)]
theorem plT_n (h : fldN l = 0) (h2 : mthN l = 0) : plT l = -1 := by
  have e : shN l = 0 := by
    unfold fldN at h
    unfold mthN at h2
    by_cases a : 4096 ≤ shN l
    · rw [if_pos a] at h2
      cases h2
    · by_cases b : 0 < shN l ∧ shN l < 4096
      · rw [if_pos b] at h
        cases h
      · omega
  unfold plT
  rw [if_pos e]
theorem plT_v {k W t : Nat} {x : Int32} (hm : ¬ mthN l = 0) (h : s_pl (fun i => l.getD i 0) l.length (l.length - 1) 1 0 = some (k, W)) (ht : t = if l.getD (l.length - 1) 0 = 86 ∧ l.length - 1 = k + 1 then 0 else pW (l.getD (k + 1) 0)) (hx : x = nI (1024 * t)) : nI W + x = plT l := by
  obtain ⟨h1, h2, k', W', hp, a1, a2, a3, a4, -, -⟩ := mth_in hm
  rw [h] at hp
  cases hp
  have hlow : 4096 ≤ shN l := Decidable.byContradiction (fun q => hm (if_neg q))
  have e := mth_sh h1 h2
  rw [ms_pl h, if_neg (by omega)] at e
  by_cases b : l.getD (k + 1) 0 = 86 ∧ k + 2 = l.length
  · rw [if_pos b] at e
    have ht0 : t = 0 := by
      rw [ht, if_pos ⟨by rw [show l.length - 1 = k + 1 by omega]; exact b.1, by omega⟩]
    unfold plT
    rw [e, if_neg (by omega), hx, ht0, show (4096 + W) % 4096 = W + 1024 * 0 by omega]
    exact nI_add1 rfl (by omega)
  · rw [if_neg b] at e
    by_cases d : s_ty (fun i => l.getD i 0) l.length (k + 1) = some l.length
    · rw [if_pos d] at e
      have e : shN l = 4096 + 1024 * pW (l.getD (k + 1) 0) + W := e
      have ht1 : t = pW (l.getD (k + 1) 0) := by
        rw [ht, if_neg (fun q => b ⟨by rw [← q.2]; exact q.1, by omega⟩)]
      have hw := pW_le (l.getD (k + 1) 0)
      unfold plT
      rw [e, if_neg (by omega), hx, ht1, show (4096 + 1024 * pW (l.getD (k + 1) 0) + W) % 4096 = W + 1024 * pW (l.getD (k + 1) 0) by omega]
      exact nI_add1 rfl (by omega)
    · rw [if_neg d] at e
      omega
end PLA
theorem dz_placesTold {g : xe_G} {M : mi_H} {f : Nat → Int32} {n N q : Nat} {E : List (Nat × Nat)} {k : Int32}  (hV : PV g f n N E q M) (h0 : tg f E 0 = 0) : pt (mT g) 131 [.ref q, .int k] M (fun v M' => (v = some (.int (plX f n E k)) ∧ M = M')) := by
  obtain ⟨hL9, H, m, qq, F, cc, hP9, hT9, -, hb9, hVF, hVS⟩ := id hV
  exact (ct_placesTold hP9 (d := 3) (by decide)).pt.mono (fun v M' h => ⟨by rw [h.1, hVF.plaR hVS hb9.1 h0], h.2.symm⟩)
set_option maxHeartbeats 1000000 in
theorem dk_places0 {g : xe_G} {M : mi_H} {o ca fl : Nat} {cn wp k : Int32} (h_o : M.1 o = some (ob 11 [.ref ca, .int cn, .ref fl, .null, .int wp]))  : pt (mT g) 17 [.ref o, .int k] M (fun v M' => (v = some (.int (-1)) ∧ M = M')) := by
  refine pt_in (b := mb_17 g) rfl (fun kf => ?_)
  show pl (mT g) kf (mb_17 g).2 (0, [(0, .ref o), (1, .int k)], [], M) _
  refine ps_st (S' := (1, [(0, .ref o), (1, .int k)], [.ref o], M)) rfl rfl rfl ?_
  refine ps_get (S' := (4, [(0, .ref o), (1, .int k)], [.null], M)) rfl h_o rfl rfl ?_
  refine ps_st (S' := (7, [(0, .ref o), (1, .int k)], [], M)) rfl rfl rfl ?_
  refine ps_st (S' := (8, [(0, .ref o), (1, .int k)], [.int (-1)], M)) rfl rfl rfl ?_
  refine ps_st (S' := (22, [], [.int (-1)], M)) rfl rfl rfl ?_
  exact ps_ret rfl rfl (⟨rfl, rfl⟩)
set_option maxHeartbeats 1000000 in
theorem dk_placesK {g : xe_G} {M : mi_H} {f : Nat → Int32} {n N q : Nat} {E : List (Nat × Nat)} {o ca fl c b : Nat} {cn wp : Int32} {w : List Value} {k : Int32} (h_o : M.1 o = some (ob 11 [.ref ca, .int cn, .ref fl, .ref c, .int wp])) (h_c : M.1 c = some (ob 3 (.ref b :: .ref q :: w))) (hV : PV g f n N E q M) (h0 : tg f E 0 = 0) : pt (mT g) 17 [.ref o, .int k] M (fun v M' => (v = some (.int (plX f n E k)) ∧ M = M')) := by
  refine pt_in (b := mb_17 g) rfl (fun kf => ?_)
  show pl (mT g) kf (mb_17 g).2 (0, [(0, .ref o), (1, .int k)], [], M) _
  obtain ⟨hL9, H, m, qq, F, cc, hP9, -, -, hb9, -⟩ := id hV
  have h_q := hP9.1
  have hN9 := hb9.2.2.1
  refine ps_st (S' := (1, [(0, .ref o), (1, .int k)], [.ref o], M)) rfl rfl rfl ?_
  refine ps_get (S' := (4, [(0, .ref o), (1, .int k)], [.ref c], M)) rfl h_o rfl rfl ?_
  refine ps_st (S' := (11, [(0, .ref o), (1, .int k)], [], M)) rfl rfl rfl ?_
  refine ps_st (S' := (12, [(0, .ref o), (1, .int k)], [.ref o], M)) rfl rfl rfl ?_
  refine ps_get (S' := (15, [(0, .ref o), (1, .int k)], [.ref c], M)) rfl h_o rfl rfl ?_
  refine ps_get (S' := (18, [(0, .ref o), (1, .int k)], [.ref q], M)) rfl h_c rfl rfl ?_
  refine ps_st (S' := (19, [(0, .ref o), (1, .int k)], [.int k, .ref q], M)) rfl rfl rfl ?_
  refine pl_call (a := [.ref q, .int k]) (rest := []) rfl rfl rfl (dz_placesTold (f := f) (n := n) (N := N) (q := q) (E := E) (k := k) (hV) (h0)) (fun v1 M2 q3 => ?_)
  obtain ⟨rfl, rfl⟩ := q3
  show pl _ _ _ (22, [], [.int (plX f n E k)], M) _
  exact ps_reti rfl (⟨rfl, rfl⟩)
theorem dk_places {g : xe_G} {M : mi_H} {ko : Option (Nat × (Nat → Int32))} {kv : Value} {cm o fl : Nat} {cn wp k : Int32} (hx : M.1 o = some (ob 11 [.ref cm, .int cn, .ref fl, kv, .int wp])) (hK : KPC g ko kv cm M) : pt (mT g) 17 [.ref o, .int k] M (fun v M' => v = some (.int (plK ko k)) ∧ M = M') := by
  cases ko with
  | none =>
    have e : kv = .null := hK
    subst e
    exact dk_places0 hx
  | some r =>
    obtain ⟨c, da, rfl, ⟨b, q, N, E, p1, pF, pM, pA, w, h1, h2, h3, h4, h5, rfl, -⟩, -, -⟩ := hK
    rw [plK_is h5]
    exact dk_placesK hx h1 h4 (tg_0 (whole_in h5))
end
section
set_option maxHeartbeats 1000000 in
theorem rd_wide {g : xe_G} {m0 : Nat} {q : Nat → Nat} {z : Nat × Nat} {I : rI} {R : rR} {M : mi_H} {tx : List (List Nat)} {cN : Nat} {A : Nat → Nat} {s : Nat} {l : List Nat} {k : Nat} (hR : RS g m0 q z I R M)  (hY : SYT tx cN A I R) (hs : s < tx.length ∧ tx.getD s [] = l) (hk : k < l.length) : pt (mT g) 256 [.ref m0, .int (nI s), .int (nI k)] M (fun v M' => (v = some (.int (nI (wdN (l.getD k 0)))) ∧ M = M')) := by
  refine pt_in (b := mb_256 g) rfl (fun kf => ?_)
  show pl (mT g) kf (mb_256 g).2 (0, [(0, .ref m0), (1, .int (nI s)), (2, .int (nI k))], [], M) _
  have hln := hY.ln hs
  have hts := hY.1.2.2
  refine ps_st (S' := (1, [(0, .ref m0), (1, .int (nI s)), (2, .int (nI k))], [.ref m0], M)) rfl rfl rfl ?_
  refine ps_st (S' := (2, [(0, .ref m0), (1, .int (nI s)), (2, .int (nI k))], [.int (nI s), .ref m0], M)) rfl rfl rfl ?_
  refine ps_st (S' := (3, [(0, .ref m0), (1, .int (nI s)), (2, .int (nI k))], [.int (nI k), .int (nI s), .ref m0], M)) rfl rfl rfl ?_
  refine pl_call (a := [.ref m0, .int (nI s), .int (nI k)]) (rest := []) rfl rfl rfl (rd_at (tx := tx) (cN := cN) (A := A) (s := s) (l := l) (k := k) hR hY (hs) (by omega)) (fun v1 M2 q3 => ?_)
  obtain ⟨rfl, rfl⟩ := q3
  show pl _ _ _ (6, [(0, .ref m0), (1, .int (nI s)), (2, .int (nI k))], [.int (nI (l.getD k 0))], M) _
  have hc_3 := hY.ch hs (k := k) (by omega)
  refine ps_st (S' := (8, [(0, .ref m0), (1, .int (nI s)), (2, .int (nI k))], [.int 74, .int (nI (l.getD k 0))], M)) rfl rfl rfl ?_
  refine ps_if2 (S1 := (22, [], [], M)) (S2 := (11, [(0, .ref m0), (1, .int (nI s)), (2, .int (nI k))], [], M)) rfl rfl rfl (fun c_8 => ?_) (fun c_8 => ?_)
  · have c_8 : (nI (l.getD k 0)) = 74 := of_decide_eq_true c_8
    have n_8 : l.getD k 0 = 74 := (eq_nI (p := l.getD k 0) (n := 74) (by omega) (by decide)).mp c_8
    refine ps_st (S' := (23, [], [.int 1], M)) rfl rfl rfl ?_
    refine ps_st (S' := (27, [], [.int 1], M)) rfl rfl rfl ?_
    exact ps_ret rfl rfl (⟨congrArg (fun x => some (Value.int (nI x))) (show 1 = wdN (l.getD k 0) from by
        unfold wdN
        rw [if_pos (by omega)]), rfl⟩)
  · have c_8 : ¬ ((nI (l.getD k 0)) = 74) := of_decide_eq_false c_8
    have n_8 : ¬ (l.getD k 0 = 74) := fun h9 => c_8 ((eq_nI (p := l.getD k 0) (n := 74) (by omega) (by decide)).mpr h9)
    refine ps_st (S' := (12, [(0, .ref m0), (1, .int (nI s)), (2, .int (nI k))], [.ref m0], M)) rfl rfl rfl ?_
    refine ps_st (S' := (13, [(0, .ref m0), (1, .int (nI s)), (2, .int (nI k))], [.int (nI s), .ref m0], M)) rfl rfl rfl ?_
    refine ps_st (S' := (14, [(0, .ref m0), (1, .int (nI s)), (2, .int (nI k))], [.int (nI k), .int (nI s), .ref m0], M)) rfl rfl rfl ?_
    refine pl_call (a := [.ref m0, .int (nI s), .int (nI k)]) (rest := []) rfl rfl rfl (rd_at (tx := tx) (cN := cN) (A := A) (s := s) (l := l) (k := k) hR hY (hs) (by omega)) (fun v4 M5 q6 => ?_)
    obtain ⟨rfl, rfl⟩ := q6
    show pl _ _ _ (17, [(0, .ref m0), (1, .int (nI s)), (2, .int (nI k))], [.int (nI (l.getD k 0))], M) _
    have hc_14 := hY.ch hs (k := k) (by omega)
    refine ps_st (S' := (19, [(0, .ref m0), (1, .int (nI s)), (2, .int (nI k))], [.int 68, .int (nI (l.getD k 0))], M)) rfl rfl rfl ?_
    refine ps_if2 (S1 := (26, [(0, .ref m0), (1, .int (nI s)), (2, .int (nI k))], [], M)) (S2 := (22, [], [], M)) rfl rfl rfl (fun c_19 => ?_) (fun c_19 => ?_)
    · have c_19 : ¬ (nI (l.getD k 0)) = 68 := of_decide_eq_true c_19
      have n_19 : ¬ (l.getD k 0 = 68) := fun h9 => c_19 ((eq_nI (p := l.getD k 0) (n := 68) (by omega) (by decide)).mpr h9)
      refine ps_st (S' := (27, [], [.int 0], M)) rfl rfl rfl ?_
      exact ps_ret rfl rfl (⟨congrArg (fun x => some (Value.int (nI x))) (show 0 = wdN (l.getD k 0) from by
          unfold wdN
          rw [if_neg (by omega)]), rfl⟩)
    · have c_19 : ¬ (¬ (nI (l.getD k 0)) = 68) := of_decide_eq_false c_19
      have n_19 : l.getD k 0 = 68 := (eq_nI (p := l.getD k 0) (n := 68) (by omega) (by decide)).mp (Decidable.not_not.mp c_19)
      refine ps_st (S' := (23, [], [.int 1], M)) rfl rfl rfl ?_
      refine ps_st (S' := (27, [], [.int 1], M)) rfl rfl rfl ?_
      exact ps_ret rfl rfl (⟨congrArg (fun x => some (Value.int (nI x))) (show 1 = wdN (l.getD k 0) from by
          unfold wdN
          rw [if_pos (by omega)]), rfl⟩)
set_option maxHeartbeats 1000000 in
theorem rd_placesk {g : xe_G} {m0 : Nat} {q : Nat → Nat} {z : Nat × Nat} {I : rI} {R : rR} {M : mi_H} {kn k : Int32} (hR : RS g m0 q z I R M) (hi18 : I 18 = some kn)  (hk : kn < 0) : pt (mT g) 232 [.ref m0, .int k] M (fun v M' => (∃  (I' : rI) (R' : rR), v = some (.int (-1)) ∧ RS g m0 q z I' R' M' ∧ eqI [0] I I' ∧ eqR [] R R' ∧ I' 0 = some 0)) := by
  refine pt_in (b := mb_232 g) rfl (fun kf => ?_)
  show pl (mT g) kf (mb_232 g).2 (0, [(0, .ref m0), (1, .int k)], [], M) _
  have hEI : eqI [0] I I := eqI.rf
  have hER : eqR [] R R := eqR.rf
  refine ps_st (S' := (1, [(0, .ref m0), (1, .int k)], [.ref m0], M)) rfl rfl rfl ?_
  refine ps_st (S' := (2, [(0, .ref m0), (1, .int k)], [.int 0, .ref m0], M)) rfl rfl rfl ?_
  refine pr_put (j := 0) rfl hR rfl (fun M1 I2 hR3 hi4 hI5 => ?_)
  have hi6 := (hI5 18 (by decide)).trans hi18
  have hEI7 := hEI.put hI5 (by decide)
  show pl _ _ _ (5, [(0, .ref m0), (1, .int k)], [], M1) _
  refine ps_st (S' := (6, [(0, .ref m0), (1, .int k)], [.ref m0], M1)) rfl rfl rfl ?_
  refine pr_int (j := 18) (S' := (9, [(0, .ref m0), (1, .int k)], [.int kn], M1)) rfl hR3 rfl hi6 rfl ?_
  refine ps_if (S1 := (21, [], [], M1)) (S2 := (12, [(0, .ref m0), (1, .int k)], [], M1)) rfl rfl rfl (fun c_9 => ?_) (fun c_9 => ?_)
  rotate_left
  · exact absurd (hk) (of_decide_eq_false c_9)
  refine ps_st (S' := (22, [], [.int (-1)], M1)) rfl rfl rfl ?_
  exact ps_ret rfl rfl (⟨I2, R, rfl, hR3, hEI7, hER, hi4⟩)
set_option maxHeartbeats 1000000 in
theorem rd_placesT {g : xe_G} {m0 : Nat} {q : Nat → Nat} {z : Nat × Nat} {I : rI} {R : rR} {M : mi_H} {n : Nat} {f : Nat → Int32} {tx : List (List Nat)} {cN : Nat} {A : Nat → Nat} {N mj : Nat} {E : List (Nat × Nat)} {n2 : Nat} {k : Int32} (hR : RS g m0 q z I R M) (hi18 : I 18 = some (nI n2)) (hi51 : I 51 = some 0) (hi52 : I 52 = some (nI N)) (hi53 : I 53 = some (nI mj)) (hF : FK n f I R) (hY : SYT tx cN A I R) (hP : RPV f n E tx N I R) (hEP : EP f n E) (hN : N < 65536) (hmj : mj < 65536) (hn2 : n2 ≤ 65540) (h0 : tg f E 0 = 0) (ht : ¬ tg f E k.toNatClampNeg = 1) : pt (mT g) 232 [.ref m0, .int k] M (fun v M' => (∃  (I' : rI) (R' : rR), v = some (.int (-1)) ∧ RS g m0 q z I' R' M' ∧ eqI [0] I I' ∧ eqR [] R R' ∧ I' 0 = some 0)) := by
  refine pt_in (b := mb_232 g) rfl (fun kf => ?_)
  show pl (mT g) kf (mb_232 g).2 (0, [(0, .ref m0), (1, .int k)], [], M) _
  have hEI : eqI [0] I I := eqI.rf
  have hER : eqR [] R R := eqR.rf
  refine ps_st (S' := (1, [(0, .ref m0), (1, .int k)], [.ref m0], M)) rfl rfl rfl ?_
  refine ps_st (S' := (2, [(0, .ref m0), (1, .int k)], [.int 0, .ref m0], M)) rfl rfl rfl ?_
  refine pr_put (j := 0) rfl hR rfl (fun M1 I2 hR3 hi4 hI5 => ?_)
  have hi6 := (hI5 18 (by decide)).trans hi18
  have hi7 := (hI5 51 (by decide)).trans hi51
  have hi8 := (hI5 52 (by decide)).trans hi52
  have hi9 := (hI5 53 (by decide)).trans hi53
  have hF_10 := hF.mono (pIx hI5 (by decide)) (fun _ _ => rfl)
  have hY_11 := hY.mono (pIx hI5 (by decide)) (fun _ _ => rfl)
  have hP_12 := hP.mono (pIx hI5 (by decide)) (fun _ _ => rfl)
  have hEI13 := hEI.put hI5 (by decide)
  show pl _ _ _ (5, [(0, .ref m0), (1, .int k)], [], M1) _
  refine ps_st (S' := (6, [(0, .ref m0), (1, .int k)], [.ref m0], M1)) rfl rfl rfl ?_
  refine pr_int (j := 18) (S' := (9, [(0, .ref m0), (1, .int k)], [.int (nI n2)], M1)) rfl hR3 rfl hi6 rfl ?_
  refine ps_if (S1 := (21, [], [], M1)) (S2 := (12, [(0, .ref m0), (1, .int k)], [], M1)) rfl rfl rfl (fun c_9 => ?_) (fun c_9 => ?_)
  · exact absurd (of_decide_eq_true c_9) (show ¬ ((nI n2) < 0) from fun h9 => absurd ((lt_nI (p := n2) (n := 0) (by omega) (by decide)).mp h9) (by omega))
  refine ps_st (S' := (13, [(0, .ref m0), (1, .int k)], [.ref m0], M1)) rfl rfl rfl ?_
  refine ps_st (S' := (14, [(0, .ref m0), (1, .int k)], [.int k, .ref m0], M1)) rfl rfl rfl ?_
  refine pl_call (a := [.ref m0, .int k]) (rest := []) rfl rfl rfl (rd_tagR (n := n) (f := f) (tx := tx) (cN := cN) (A := A) (N := N) (mj := mj) (E := E) (k := k) hR3 hi7 hi8 hi9 hF_10 hY_11 hP_12 (hEP) (hN) (hmj) (h0)) (fun v14 M15 q16 => ?_)
  obtain ⟨rfl, rfl⟩ := q16
  show pl _ _ _ (17, [(0, .ref m0), (1, .int k)], [.int (nI (tg f E k.toNatClampNeg))], M1) _
  have htg9 := tg_lt f E k.toNatClampNeg
  refine ps_st (S' := (18, [(0, .ref m0), (1, .int k)], [.int 1, .int (nI (tg f E k.toNatClampNeg))], M1)) rfl rfl rfl ?_
  refine ps_if2 (S1 := (23, [(0, .ref m0), (1, .int k)], [], M1)) (S2 := (21, [], [], M1)) rfl rfl rfl (fun c_18 => ?_) (fun c_18 => ?_)
  · exact absurd (of_decide_eq_true c_18) (fun h9 => ht ((eq_nI (p := tg f E k.toNatClampNeg) (n := 1) (by omega) (by decide)).mp h9))
  refine ps_st (S' := (22, [], [.int (-1)], M1)) rfl rfl rfl ?_
  exact ps_ret rfl rfl (⟨I2, R, rfl, hR3, hEI13, hER, hi4⟩)
set_option maxHeartbeats 1000000 in
theorem rd_placesN {g : xe_G} {m0 : Nat} {q : Nat → Nat} {z : Nat × Nat} {I : rI} {R : rR} {M : mi_H} {n : Nat} {f : Nat → Int32} {tx : List (List Nat)} {cN : Nat} {A : Nat → Nat} {N mj : Nat} {E : List (Nat × Nat)} {n2 : Nat} {j : Nat} (hR : RS g m0 q z I R M) (hi18 : I 18 = some (nI n2)) (hi51 : I 51 = some 0) (hi52 : I 52 = some (nI N)) (hi53 : I 53 = some (nI mj)) (hF : FK n f I R) (hY : SYT tx cN A I R) (hP : RPV f n E tx N I R) (hEP : EP f n E) (hN : N < 65536) (hmj : mj < 65536) (hn2 : n2 ≤ 65540) (hj : j < 65536) (h1t : tg f E j = 1) (hfl : fldN (tX f n E j) = 0) (hm : mthN (tX f n E j) = 0) : pt (mT g) 232 [.ref m0, .int (nI j)] M (fun v M' => (∃  (I' : rI) (R' : rR), v = some (.int (plT (tX f n E j))) ∧ RS g m0 q z I' R' M' ∧ eqI [0] I I' ∧ eqR [] R R' ∧ I' 0 = some 0)) := by
  refine pt_in (b := mb_232 g) rfl (fun kf => ?_)
  show pl (mT g) kf (mb_232 g).2 (0, [(0, .ref m0), (1, .int (nI j))], [], M) _
  have hEI : eqI [0] I I := eqI.rf
  have hER : eqR [] R R := eqR.rf
  have hn := hF.1
  have hlx := tx_len f n E j
  refine ps_st (S' := (1, [(0, .ref m0), (1, .int (nI j))], [.ref m0], M)) rfl rfl rfl ?_
  refine ps_st (S' := (2, [(0, .ref m0), (1, .int (nI j))], [.int 0, .ref m0], M)) rfl rfl rfl ?_
  refine pr_put (j := 0) rfl hR rfl (fun M1 I2 hR3 hi4 hI5 => ?_)
  have hi6 := (hI5 18 (by decide)).trans hi18
  have hi7 := (hI5 51 (by decide)).trans hi51
  have hi8 := (hI5 52 (by decide)).trans hi52
  have hi9 := (hI5 53 (by decide)).trans hi53
  have hF_10 := hF.mono (pIx hI5 (by decide)) (fun _ _ => rfl)
  have hY_11 := hY.mono (pIx hI5 (by decide)) (fun _ _ => rfl)
  have hP_12 := hP.mono (pIx hI5 (by decide)) (fun _ _ => rfl)
  have hEI13 := hEI.put hI5 (by decide)
  show pl _ _ _ (5, [(0, .ref m0), (1, .int (nI j))], [], M1) _
  refine ps_st (S' := (6, [(0, .ref m0), (1, .int (nI j))], [.ref m0], M1)) rfl rfl rfl ?_
  refine pr_int (j := 18) (S' := (9, [(0, .ref m0), (1, .int (nI j))], [.int (nI n2)], M1)) rfl hR3 rfl hi6 rfl ?_
  refine ps_if (S1 := (21, [], [], M1)) (S2 := (12, [(0, .ref m0), (1, .int (nI j))], [], M1)) rfl rfl rfl (fun c_9 => ?_) (fun c_9 => ?_)
  · exact absurd (of_decide_eq_true c_9) (show ¬ ((nI n2) < 0) from fun h9 => absurd ((lt_nI (p := n2) (n := 0) (by omega) (by decide)).mp h9) (by omega))
  refine ps_st (S' := (13, [(0, .ref m0), (1, .int (nI j))], [.ref m0], M1)) rfl rfl rfl ?_
  refine ps_st (S' := (14, [(0, .ref m0), (1, .int (nI j))], [.int (nI j), .ref m0], M1)) rfl rfl rfl ?_
  refine pl_call (a := [.ref m0, .int (nI j)]) (rest := []) rfl rfl rfl (rd_tag (n := n) (f := f) (tx := tx) (cN := cN) (A := A) (N := N) (mj := mj) (E := E) (k := j) hR3 hi7 hi8 hi9 hF_10 hY_11 hP_12 (hEP) (hN) (hmj) (by omega)) (fun v14 M15 q16 => ?_)
  obtain ⟨rfl, rfl⟩ := q16
  show pl _ _ _ (17, [(0, .ref m0), (1, .int (nI j))], [.int (nI (tg f E j))], M1) _
  have htg_14 := tg_lt f E j
  refine ps_st (S' := (18, [(0, .ref m0), (1, .int (nI j))], [.int 1, .int (nI (tg f E j))], M1)) rfl rfl rfl ?_
  refine ps_if2 (S1 := (23, [(0, .ref m0), (1, .int (nI j))], [], M1)) (S2 := (21, [], [], M1)) rfl rfl rfl (fun c_18 => ?_) (fun c_18 => ?_)
  rotate_left
  · exact absurd (by rw [h1t]; rfl) (of_decide_eq_false c_18)
  refine ps_st (S' := (24, [(0, .ref m0), (1, .int (nI j))], [.ref m0], M1)) rfl rfl rfl ?_
  refine ps_st (S' := (25, [(0, .ref m0), (1, .int (nI j))], [.int (nI j), .ref m0], M1)) rfl rfl rfl ?_
  refine pl_call (a := [.ref m0, .int (nI j)]) (rest := []) rfl rfl rfl (rd_symOf (n := n) (f := f) (tx := tx) (cN := cN) (A := A) (N := N) (mj := mj) (E := E) (k := j) hR3 hi7 hi8 hi9 hF_10 hY_11 hP_12 (hEP) (hN) (hmj) (by omega)) (fun v17 M18 q19 => ?_)
  obtain ⟨s20, q25_s, rfl, rfl⟩ := q19
  show pl _ _ _ (28, [(0, .ref m0), (1, .int (nI j))], [.int (nI s20)], M1) _
  have hsl_25 := q25_s.1
  have htl_25 := hY_11.1.2.2.1
  refine ps_st (S' := (29, [(2, .int (nI s20)), (0, .ref m0), (1, .int (nI j))], [], M1)) rfl rfl rfl ?_
  refine ps_st (S' := (30, [(2, .int (nI s20)), (0, .ref m0), (1, .int (nI j))], [.ref m0], M1)) rfl rfl rfl ?_
  refine ps_st (S' := (31, [(2, .int (nI s20)), (0, .ref m0), (1, .int (nI j))], [.int (nI s20), .ref m0], M1)) rfl rfl rfl ?_
  refine pl_call (a := [.ref m0, .int (nI s20)]) (rest := []) rfl rfl rfl (rd_isField (tx := tx) (cN := cN) (A := A) (s := s20) (l := (tX f n E j)) hR3 hY_11 (q25_s)) (fun v21 M22 q23 => ?_)
  obtain ⟨rfl, rfl⟩ := q23
  show pl _ _ _ (34, [(2, .int (nI s20)), (0, .ref m0), (1, .int (nI j))], [.int (nI (fldN (tX f n E j)))], M1) _
  refine ps_if (S1 := (52, [(2, .int (nI s20)), (0, .ref m0), (1, .int (nI j))], [], M1)) (S2 := (37, [(2, .int (nI s20)), (0, .ref m0), (1, .int (nI j))], [], M1)) rfl rfl rfl (fun c_34 => ?_) (fun c_34 => ?_)
  rotate_left
  · exact absurd ((eq_nI (p := fldN (tX f n E j)) (n := 0) (Nat.lt_trans (le1_fld _) (by decide)) (by decide)).mpr (by omega)) (of_decide_eq_false c_34)
  refine ps_st (S' := (53, [(2, .int (nI s20)), (0, .ref m0), (1, .int (nI j))], [.ref m0], M1)) rfl rfl rfl ?_
  refine ps_st (S' := (54, [(2, .int (nI s20)), (0, .ref m0), (1, .int (nI j))], [.int (nI s20), .ref m0], M1)) rfl rfl rfl ?_
  refine pl_call (a := [.ref m0, .int (nI s20)]) (rest := []) rfl rfl rfl (rd_isMethod (tx := tx) (cN := cN) (A := A) (s := s20) (l := (tX f n E j)) hR3 hY_11 (q25_s)) (fun v24 M25 q26 => ?_)
  obtain ⟨rfl, rfl⟩ := q26
  show pl _ _ _ (57, [(2, .int (nI s20)), (0, .ref m0), (1, .int (nI j))], [.int (nI (mthN (tX f n E j)))], M1) _
  refine ps_if (S1 := (62, [(2, .int (nI s20)), (0, .ref m0), (1, .int (nI j))], [], M1)) (S2 := (60, [(2, .int (nI s20)), (0, .ref m0), (1, .int (nI j))], [], M1)) rfl rfl rfl (fun c_57 => ?_) (fun c_57 => ?_)
  · exact absurd (of_decide_eq_true c_57) (fun h9 => h9 ((eq_nI (p := mthN (tX f n E j)) (n := 0) (Nat.lt_trans (le1_mth _) (by decide)) (by decide)).mpr (by omega)))
  refine ps_st (S' := (61, [(2, .int (nI s20)), (0, .ref m0), (1, .int (nI j))], [.int (-1)], M1)) rfl rfl rfl ?_
  exact ps_ret rfl rfl (⟨I2, R, congrArg (fun x => some (Value.int x)) (plT_n hfl hm).symm, hR3, hEI13, hER, hi4⟩)
set_option maxHeartbeats 1000000 in
theorem rd_placesF {g : xe_G} {m0 : Nat} {q : Nat → Nat} {z : Nat × Nat} {I : rI} {R : rR} {M : mi_H} {n : Nat} {f : Nat → Int32} {tx : List (List Nat)} {cN : Nat} {A : Nat → Nat} {N mj : Nat} {E : List (Nat × Nat)} {n2 : Nat} {j : Nat} (hR : RS g m0 q z I R M) (hi18 : I 18 = some (nI n2)) (hi51 : I 51 = some 0) (hi52 : I 52 = some (nI N)) (hi53 : I 53 = some (nI mj)) (hF : FK n f I R) (hY : SYT tx cN A I R) (hP : RPV f n E tx N I R) (hEP : EP f n E) (hN : N < 65536) (hmj : mj < 65536) (hn2 : n2 ≤ 65540) (hj : j < 65536) (h1t : tg f E j = 1) (hfl : ¬ fldN (tX f n E j) = 0) : pt (mT g) 232 [.ref m0, .int (nI j)] M (fun v M' => (∃  (I' : rI) (R' : rR), v = some (.int (plT (tX f n E j))) ∧ RS g m0 q z I' R' M' ∧ eqI [0] I I' ∧ eqR [] R R' ∧ I' 0 = some 0)) := by
  refine pt_in (b := mb_232 g) rfl (fun kf => ?_)
  show pl (mT g) kf (mb_232 g).2 (0, [(0, .ref m0), (1, .int (nI j))], [], M) _
  have hEI : eqI [0] I I := eqI.rf
  have hER : eqR [] R R := eqR.rf
  have hn := hF.1
  have hlx := tx_len f n E j
  have hf9 := (fld_sh hfl).2
  refine ps_st (S' := (1, [(0, .ref m0), (1, .int (nI j))], [.ref m0], M)) rfl rfl rfl ?_
  refine ps_st (S' := (2, [(0, .ref m0), (1, .int (nI j))], [.int 0, .ref m0], M)) rfl rfl rfl ?_
  refine pr_put (j := 0) rfl hR rfl (fun M1 I2 hR3 hi4 hI5 => ?_)
  have hi6 := (hI5 18 (by decide)).trans hi18
  have hi7 := (hI5 51 (by decide)).trans hi51
  have hi8 := (hI5 52 (by decide)).trans hi52
  have hi9 := (hI5 53 (by decide)).trans hi53
  have hF_10 := hF.mono (pIx hI5 (by decide)) (fun _ _ => rfl)
  have hY_11 := hY.mono (pIx hI5 (by decide)) (fun _ _ => rfl)
  have hP_12 := hP.mono (pIx hI5 (by decide)) (fun _ _ => rfl)
  have hEI13 := hEI.put hI5 (by decide)
  show pl _ _ _ (5, [(0, .ref m0), (1, .int (nI j))], [], M1) _
  refine ps_st (S' := (6, [(0, .ref m0), (1, .int (nI j))], [.ref m0], M1)) rfl rfl rfl ?_
  refine pr_int (j := 18) (S' := (9, [(0, .ref m0), (1, .int (nI j))], [.int (nI n2)], M1)) rfl hR3 rfl hi6 rfl ?_
  refine ps_if (S1 := (21, [], [], M1)) (S2 := (12, [(0, .ref m0), (1, .int (nI j))], [], M1)) rfl rfl rfl (fun c_9 => ?_) (fun c_9 => ?_)
  · exact absurd (of_decide_eq_true c_9) (show ¬ ((nI n2) < 0) from fun h9 => absurd ((lt_nI (p := n2) (n := 0) (by omega) (by decide)).mp h9) (by omega))
  refine ps_st (S' := (13, [(0, .ref m0), (1, .int (nI j))], [.ref m0], M1)) rfl rfl rfl ?_
  refine ps_st (S' := (14, [(0, .ref m0), (1, .int (nI j))], [.int (nI j), .ref m0], M1)) rfl rfl rfl ?_
  refine pl_call (a := [.ref m0, .int (nI j)]) (rest := []) rfl rfl rfl (rd_tag (n := n) (f := f) (tx := tx) (cN := cN) (A := A) (N := N) (mj := mj) (E := E) (k := j) hR3 hi7 hi8 hi9 hF_10 hY_11 hP_12 (hEP) (hN) (hmj) (by omega)) (fun v14 M15 q16 => ?_)
  obtain ⟨rfl, rfl⟩ := q16
  show pl _ _ _ (17, [(0, .ref m0), (1, .int (nI j))], [.int (nI (tg f E j))], M1) _
  have htg_14 := tg_lt f E j
  refine ps_st (S' := (18, [(0, .ref m0), (1, .int (nI j))], [.int 1, .int (nI (tg f E j))], M1)) rfl rfl rfl ?_
  refine ps_if2 (S1 := (23, [(0, .ref m0), (1, .int (nI j))], [], M1)) (S2 := (21, [], [], M1)) rfl rfl rfl (fun c_18 => ?_) (fun c_18 => ?_)
  rotate_left
  · exact absurd (by rw [h1t]; rfl) (of_decide_eq_false c_18)
  refine ps_st (S' := (24, [(0, .ref m0), (1, .int (nI j))], [.ref m0], M1)) rfl rfl rfl ?_
  refine ps_st (S' := (25, [(0, .ref m0), (1, .int (nI j))], [.int (nI j), .ref m0], M1)) rfl rfl rfl ?_
  refine pl_call (a := [.ref m0, .int (nI j)]) (rest := []) rfl rfl rfl (rd_symOf (n := n) (f := f) (tx := tx) (cN := cN) (A := A) (N := N) (mj := mj) (E := E) (k := j) hR3 hi7 hi8 hi9 hF_10 hY_11 hP_12 (hEP) (hN) (hmj) (by omega)) (fun v17 M18 q19 => ?_)
  obtain ⟨s20, q25_s, rfl, rfl⟩ := q19
  show pl _ _ _ (28, [(0, .ref m0), (1, .int (nI j))], [.int (nI s20)], M1) _
  have hsl_25 := q25_s.1
  have htl_25 := hY_11.1.2.2.1
  refine ps_st (S' := (29, [(2, .int (nI s20)), (0, .ref m0), (1, .int (nI j))], [], M1)) rfl rfl rfl ?_
  refine ps_st (S' := (30, [(2, .int (nI s20)), (0, .ref m0), (1, .int (nI j))], [.ref m0], M1)) rfl rfl rfl ?_
  refine ps_st (S' := (31, [(2, .int (nI s20)), (0, .ref m0), (1, .int (nI j))], [.int (nI s20), .ref m0], M1)) rfl rfl rfl ?_
  refine pl_call (a := [.ref m0, .int (nI s20)]) (rest := []) rfl rfl rfl (rd_isField (tx := tx) (cN := cN) (A := A) (s := s20) (l := (tX f n E j)) hR3 hY_11 (q25_s)) (fun v21 M22 q23 => ?_)
  obtain ⟨rfl, rfl⟩ := q23
  show pl _ _ _ (34, [(2, .int (nI s20)), (0, .ref m0), (1, .int (nI j))], [.int (nI (fldN (tX f n E j)))], M1) _
  refine ps_if (S1 := (52, [(2, .int (nI s20)), (0, .ref m0), (1, .int (nI j))], [], M1)) (S2 := (37, [(2, .int (nI s20)), (0, .ref m0), (1, .int (nI j))], [], M1)) rfl rfl rfl (fun c_34 => ?_) (fun c_34 => ?_)
  · exact absurd (of_decide_eq_true c_34) (show ¬ ((nI (fldN (tX f n E j))) = 0) from fun h9 => absurd ((eq_nI (p := fldN (tX f n E j)) (n := 0) (Nat.lt_trans (le1_fld _) (by decide)) (by decide)).mp h9) (by omega))
  refine ps_st (S' := (38, [(2, .int (nI s20)), (0, .ref m0), (1, .int (nI j))], [.ref m0], M1)) rfl rfl rfl ?_
  refine ps_st (S' := (39, [(2, .int (nI s20)), (0, .ref m0), (1, .int (nI j))], [.int (nI s20), .ref m0], M1)) rfl rfl rfl ?_
  refine ps_st (S' := (40, [(2, .int (nI s20)), (0, .ref m0), (1, .int (nI j))], [.int 0, .int (nI s20), .ref m0], M1)) rfl rfl rfl ?_
  refine pl_call (a := [.ref m0, .int (nI s20), .int 0]) (rest := []) rfl rfl rfl (rd_wide (tx := tx) (cN := cN) (A := A) (s := s20) (l := (tX f n E j)) (k := 0) hR3 hY_11 (q25_s) (by omega)) (fun v24 M25 q26 => ?_)
  obtain ⟨rfl, rfl⟩ := q26
  show pl _ _ _ (43, [(2, .int (nI s20)), (0, .ref m0), (1, .int (nI j))], [.int (nI (wdN ((tX f n E j).getD 0 0)))], M1) _
  have hw_40 := le1_wd ((tX f n E j).getD 0 0)
  refine ps_if (S1 := (50, [(2, .int (nI s20)), (0, .ref m0), (1, .int (nI j))], [], M1)) (S2 := (46, [(2, .int (nI s20)), (0, .ref m0), (1, .int (nI j))], [], M1)) rfl rfl rfl (fun c_43 => ?_) (fun c_43 => ?_)
  · have c_43 : (nI (wdN ((tX f n E j).getD 0 0))) = 0 := of_decide_eq_true c_43
    have n_43 : wdN ((tX f n E j).getD 0 0) = 0 := (eq_nI (p := wdN ((tX f n E j).getD 0 0)) (n := 0) (Nat.lt_trans (le1_wd _) (by decide)) (by decide)).mp c_43
    refine ps_st (S' := (51, [], [.int 1], M1)) rfl rfl rfl ?_
    exact ps_ret rfl rfl (⟨I2, R, congrArg (fun x => some (Value.int x)) (plT_f (t := 1) hfl (by rw [pW_wd]; omega) rfl), hR3, hEI13, hER, hi4⟩)
  · have c_43 : ¬ ((nI (wdN ((tX f n E j).getD 0 0))) = 0) := of_decide_eq_false c_43
    have n_43 : ¬ (wdN ((tX f n E j).getD 0 0) = 0) := fun h9 => c_43 ((eq_nI (p := wdN ((tX f n E j).getD 0 0)) (n := 0) (Nat.lt_trans (le1_wd _) (by decide)) (by decide)).mpr h9)
    refine ps_st (S' := (47, [(2, .int (nI s20)), (0, .ref m0), (1, .int (nI j))], [.int 2], M1)) rfl rfl rfl ?_
    refine ps_st (S' := (51, [], [.int 2], M1)) rfl rfl rfl ?_
    exact ps_ret rfl rfl (⟨I2, R, congrArg (fun x => some (Value.int x)) (plT_f (t := 2) hfl (by rw [pW_wd]; omega) rfl), hR3, hEI13, hER, hi4⟩)
set_option maxHeartbeats 1000000 in
theorem rd_placesM {g : xe_G} {m0 : Nat} {q : Nat → Nat} {z : Nat × Nat} {I : rI} {R : rR} {M : mi_H} {n : Nat} {f : Nat → Int32} {tx : List (List Nat)} {cN : Nat} {A : Nat → Nat} {N mj : Nat} {E : List (Nat × Nat)} {n2 : Nat} {j k0 W : Nat} (hR : RS g m0 q z I R M) (hi18 : I 18 = some (nI n2)) (hi51 : I 51 = some 0) (hi52 : I 52 = some (nI N)) (hi53 : I 53 = some (nI mj)) (hF : FK n f I R) (hY : SYT tx cN A I R) (hP : RPV f n E tx N I R) (hEP : EP f n E) (hN : N < 65536) (hmj : mj < 65536) (hn2 : n2 ≤ 65540) (hj : j < 65536) (h1t : tg f E j = 1) (hfl : fldN (tX f n E j) = 0) (hm : ¬ mthN (tX f n E j) = 0) (hpl : s_pl (fun i => (tX f n E j).getD i 0) (tX f n E j).length ((tX f n E j).length - 1) 1 0 = some (k0, W)) (hk0 : k0 + 1 < (tX f n E j).length ∧ 1 ≤ k0 ∧ (tX f n E j).getD k0 0 = 41) (hW : W ≤ 255) : pt (mT g) 232 [.ref m0, .int (nI j)] M (fun v M' => (∃  (I' : rI) (R' : rR), v = some (.int (plT (tX f n E j))) ∧ RS g m0 q z I' R' M' ∧ eqI [0] I I' ∧ eqR [] R R' ∧ I' 0 = some 0)) := by
  refine pt_in (b := mb_232 g) rfl (fun kf => ?_)
  show pl (mT g) kf (mb_232 g).2 (0, [(0, .ref m0), (1, .int (nI j))], [], M) _
  have hEI : eqI [0] I I := eqI.rf
  have hER : eqR [] R R := eqR.rf
  have hn := hF.1
  have hlx := tx_len f n E j
  have LL : ∀ (kf : Nat), (∀ (s r w : Nat) (M1 : mi_H) (I1 : rI) (R1 : rR), (RS g m0 q z I1 R1 M1) → (eqI [0] I I1) → (eqR [] R R1) → (I1 0 = some 0) → (SYT tx cN A I1 R1) → (s < tx.length ∧ tx.getD s [] = tX f n E j) → (1 ≤ r ∧ r ≤ (tX f n E j).length) → (s_pl (fun i => (tX f n E j).getD i 0) (tX f n E j).length ((tX f n E j).length - r) r w = some (k0, W)) →  pl (mT g) kf (mb_232 g).2 (73, [(0, .ref m0), (2, .int (nI s)), (3, .int (nI ((tX f n E j).length - 1))), (4, .int (nI r))], [], M1) (fun v M' => (∃  (I' : rI) (R' : rR), v = some (.int (plT (tX f n E j))) ∧ RS g m0 q z I' R' M' ∧ eqI [0] I I' ∧ eqR [] R R' ∧ I' 0 = some 0))) := by
    intro kf
    induction kf with
    | zero => exact (by intros; exact pl_0)
    | succ kf ih =>
      intro s r w M1 I1 R1 hR1 hEI1 hER1 hl0 hY1 hs hr hp
      have hlt : r < (tX f n E j).length := Nat.not_le.mp (fun h9 => by rw [s_pl_0 (by omega)] at hp; cases hp; omega)
      have hts := hY1.1.2.2
      refine ps_st1 (S' := (74, [(0, .ref m0), (2, .int (nI s)), (3, .int (nI ((tX f n E j).length - 1))), (4, .int (nI r))], [.ref m0], M1)) rfl rfl rfl ?_
      refine ps_st (S' := (75, [(0, .ref m0), (2, .int (nI s)), (3, .int (nI ((tX f n E j).length - 1))), (4, .int (nI r))], [.int (nI s), .ref m0], M1)) rfl rfl rfl ?_
      refine ps_st (S' := (77, [(0, .ref m0), (2, .int (nI s)), (3, .int (nI ((tX f n E j).length - 1))), (4, .int (nI r))], [.int (nI r), .int (nI s), .ref m0], M1)) rfl rfl rfl ?_
      refine pl_call (a := [.ref m0, .int (nI s), .int (nI r)]) (rest := []) rfl rfl rfl (rd_at (tx := tx) (cN := cN) (A := A) (s := s) (l := (tX f n E j)) (k := r) hR1 hY1 (hs) (by omega)) (fun v1 M2 q3 => ?_)
      obtain ⟨rfl, rfl⟩ := q3
      show pl _ _ _ (80, [(0, .ref m0), (2, .int (nI s)), (3, .int (nI ((tX f n E j).length - 1))), (4, .int (nI r))], [.int (nI ((tX f n E j).getD r 0))], M1) _
      have hc_77 := hY1.ch hs (k := r) (by omega)
      refine ps_st (S' := (82, [(0, .ref m0), (2, .int (nI s)), (3, .int (nI ((tX f n E j).length - 1))), (4, .int (nI r))], [.int 41, .int (nI ((tX f n E j).getD r 0))], M1)) rfl rfl rfl ?_
      refine ps_if2 (S1 := (97, [(0, .ref m0), (2, .int (nI s)), (3, .int (nI ((tX f n E j).length - 1))), (4, .int (nI r))], [], M1)) (S2 := (85, [(0, .ref m0), (2, .int (nI s)), (3, .int (nI ((tX f n E j).length - 1))), (4, .int (nI r))], [], M1)) rfl rfl rfl (fun c_82 => ?_) (fun c_82 => ?_)
      · have c_82 : (nI ((tX f n E j).getD r 0)) = 41 := of_decide_eq_true c_82
        have n_82 : (tX f n E j).getD r 0 = 41 := (eq_nI (p := (tX f n E j).getD r 0) (n := 41) (Nat.lt_trans (tx_ch _ _ _ _ _) (by decide)) (by decide)).mp c_82
        have er9 : r = k0 ∧ w = W := by rw [s_pl_0 (by omega)] at hp; cases hp; exact ⟨rfl, rfl⟩
        refine ps_st (S' := (98, [(0, .ref m0), (2, .int (nI s)), (3, .int (nI ((tX f n E j).length - 1))), (4, .int (nI r))], [.ref m0], M1)) rfl rfl rfl ?_
        refine ps_st (S' := (99, [(0, .ref m0), (2, .int (nI s)), (3, .int (nI ((tX f n E j).length - 1))), (4, .int (nI r))], [.int (nI s), .ref m0], M1)) rfl rfl rfl ?_
        refine pl_call (a := [.ref m0, .int (nI s)]) (rest := []) rfl rfl rfl (rd_places0 (tx := tx) (cN := cN) (A := A) (s := s) (l := (tX f n E j)) (k0 := k0) (W := W) hR1 hY1 (hs) (hpl) (⟨by omega, hk0.2.2⟩)) (fun v4 M5 q6 => ?_)
        obtain ⟨rfl, rfl⟩ := q6
        show pl _ _ _ (102, [(0, .ref m0), (2, .int (nI s)), (3, .int (nI ((tX f n E j).length - 1))), (4, .int (nI r))], [.int (nI (W))], M1) _
        refine ps_st (S' := (105, [(0, .ref m0), (2, .int (nI s)), (3, .int (nI ((tX f n E j).length - 1))), (4, .int (nI r))], [.int 1024, .int (nI (W))], M1)) rfl rfl rfl ?_
        refine ps_st (S' := (106, [(0, .ref m0), (2, .int (nI s)), (3, .int (nI ((tX f n E j).length - 1))), (4, .int (nI r))], [.ref m0, .int 1024, .int (nI (W))], M1)) rfl rfl rfl ?_
        refine ps_st (S' := (107, [(0, .ref m0), (2, .int (nI s)), (3, .int (nI ((tX f n E j).length - 1))), (4, .int (nI r))], [.int (nI s), .ref m0, .int 1024, .int (nI (W))], M1)) rfl rfl rfl ?_
        refine ps_st (S' := (108, [(0, .ref m0), (2, .int (nI s)), (3, .int (nI ((tX f n E j).length - 1))), (4, .int (nI r))], [.int (nI ((tX f n E j).length - 1)), .int (nI s), .ref m0, .int 1024, .int (nI (W))], M1)) rfl rfl rfl ?_
        refine pl_call (a := [.ref m0, .int (nI s), .int (nI ((tX f n E j).length - 1))]) (rest := [.int 1024, .int (nI (W))]) rfl rfl rfl (rd_at (tx := tx) (cN := cN) (A := A) (s := s) (l := (tX f n E j)) (k := ((tX f n E j).length - 1)) hR1 hY1 (hs) (by omega)) (fun v7 M8 q9 => ?_)
        obtain ⟨rfl, rfl⟩ := q9
        show pl _ _ _ (111, [(0, .ref m0), (2, .int (nI s)), (3, .int (nI ((tX f n E j).length - 1))), (4, .int (nI r))], [.int (nI ((tX f n E j).getD ((tX f n E j).length - 1) 0)), .int 1024, .int (nI (W))], M1) _
        have hc_108 := hY1.ch hs (k := (tX f n E j).length - 1) (by omega)
        refine ps_st (S' := (113, [(0, .ref m0), (2, .int (nI s)), (3, .int (nI ((tX f n E j).length - 1))), (4, .int (nI r))], [.int 86, .int (nI ((tX f n E j).getD ((tX f n E j).length - 1) 0)), .int 1024, .int (nI (W))], M1)) rfl rfl rfl ?_
        refine ps_if2 (S1 := (128, [(0, .ref m0), (2, .int (nI s)), (4, .int (nI r))], [.int 1024, .int (nI (W))], M1)) (S2 := (116, [(0, .ref m0), (2, .int (nI s)), (3, .int (nI ((tX f n E j).length - 1))), (4, .int (nI r))], [.int 1024, .int (nI (W))], M1)) rfl rfl rfl (fun c_113 => ?_) (fun c_113 => ?_)
        · have c_113 : ¬ (nI ((tX f n E j).getD ((tX f n E j).length - 1) 0)) = 86 := of_decide_eq_true c_113
          have n_113 : ¬ ((tX f n E j).getD ((tX f n E j).length - 1) 0 = 86) := fun h9 => c_113 ((eq_nI (p := (tX f n E j).getD ((tX f n E j).length - 1) 0) (n := 86) (by omega) (by decide)).mpr h9)
          refine ps_st (S' := (129, [(0, .ref m0), (2, .int (nI s)), (4, .int (nI r))], [.ref m0, .int 1024, .int (nI (W))], M1)) rfl rfl rfl ?_
          refine ps_st (S' := (130, [(0, .ref m0), (2, .int (nI s)), (4, .int (nI r))], [.int (nI s), .ref m0, .int 1024, .int (nI (W))], M1)) rfl rfl rfl ?_
          refine ps_st (S' := (132, [(0, .ref m0), (2, .int (nI s)), (4, .int (nI r))], [.int (nI r), .int (nI s), .ref m0, .int 1024, .int (nI (W))], M1)) rfl rfl rfl ?_
          refine ps_st (S' := (133, [(0, .ref m0), (2, .int (nI s)), (4, .int (nI r))], [.int 1, .int (nI r), .int (nI s), .ref m0, .int 1024, .int (nI (W))], M1)) rfl rfl rfl ?_
          refine ps_st (S' := (134, [(0, .ref m0), (2, .int (nI s)), (4, .int (nI r))], [.int ((nI r) + 1), .int (nI s), .ref m0, .int 1024, .int (nI (W))], M1)) rfl rfl rfl ?_
          rw [nI_add1 (p := r) (k := 1) (x := 1) rfl (by omega)]
          show pl _ _ _ (_, [(0, .ref m0), (2, .int (nI s)), (4, .int (nI r))], [.int (nI (r + 1)), .int (nI s), .ref m0, .int 1024, .int (nI (W))], M1) _
          refine pl_call (a := [.ref m0, .int (nI s), .int (nI (r + 1))]) (rest := [.int 1024, .int (nI (W))]) rfl rfl rfl (rd_wide (tx := tx) (cN := cN) (A := A) (s := s) (l := (tX f n E j)) (k := (r + 1)) hR1 hY1 (hs) (by omega)) (fun v10 M11 q12 => ?_)
          obtain ⟨rfl, rfl⟩ := q12
          show pl _ _ _ (137, [(0, .ref m0), (2, .int (nI s)), (4, .int (nI r))], [.int (nI (wdN ((tX f n E j).getD (r + 1) 0))), .int 1024, .int (nI (W))], M1) _
          have hw_134 := le1_wd ((tX f n E j).getD (r + 1) 0)
          refine ps_if (S1 := (144, [(0, .ref m0), (2, .int (nI s)), (4, .int (nI r))], [.int 1024, .int (nI (W))], M1)) (S2 := (140, [(0, .ref m0), (2, .int (nI s)), (4, .int (nI r))], [.int 1024, .int (nI (W))], M1)) rfl rfl rfl (fun c_137 => ?_) (fun c_137 => ?_)
          · have c_137 : (nI (wdN ((tX f n E j).getD (r + 1) 0))) = 0 := of_decide_eq_true c_137
            have n_137 : wdN ((tX f n E j).getD (r + 1) 0) = 0 := (eq_nI (p := wdN ((tX f n E j).getD (r + 1) 0)) (n := 0) (Nat.lt_trans (le1_wd _) (by decide)) (by decide)).mp c_137
            refine ps_st (S' := (145, [], [.int 1, .int 1024, .int (nI (W))], M1)) rfl rfl rfl ?_
            refine ps_st (S' := (146, [], [.int (1024 * 1), .int (nI (W))], M1)) rfl rfl rfl ?_
            refine ps_st (S' := (147, [], [.int ((nI (W)) + (1024 * 1))], M1)) rfl rfl rfl ?_
            exact ps_reti rfl (⟨I1, R1, congrArg (fun x => some (Value.int x)) (plT_v (t := 1) hm (show s_pl (fun i => (tX f n E j).getD i 0) (tX f n E j).length ((tX f n E j).length - 1) 1 0 = some (r, W) from by rw [hpl, er9.1]) (by rw [if_neg (by omega), pW_wd]; omega) rfl), hR1, hEI1, hER1, hl0⟩)
          · have c_137 : ¬ ((nI (wdN ((tX f n E j).getD (r + 1) 0))) = 0) := of_decide_eq_false c_137
            have n_137 : ¬ (wdN ((tX f n E j).getD (r + 1) 0) = 0) := fun h9 => c_137 ((eq_nI (p := wdN ((tX f n E j).getD (r + 1) 0)) (n := 0) (Nat.lt_trans (le1_wd _) (by decide)) (by decide)).mpr h9)
            refine ps_st (S' := (141, [(0, .ref m0), (2, .int (nI s)), (4, .int (nI r))], [.int 2, .int 1024, .int (nI (W))], M1)) rfl rfl rfl ?_
            refine ps_st (S' := (145, [], [.int 2, .int 1024, .int (nI (W))], M1)) rfl rfl rfl ?_
            refine ps_st (S' := (146, [], [.int (1024 * 2), .int (nI (W))], M1)) rfl rfl rfl ?_
            refine ps_st (S' := (147, [], [.int ((nI (W)) + (1024 * 2))], M1)) rfl rfl rfl ?_
            exact ps_reti rfl (⟨I1, R1, congrArg (fun x => some (Value.int x)) (plT_v (t := 2) hm (show s_pl (fun i => (tX f n E j).getD i 0) (tX f n E j).length ((tX f n E j).length - 1) 1 0 = some (r, W) from by rw [hpl, er9.1]) (by rw [if_neg (by omega), pW_wd]; omega) rfl), hR1, hEI1, hER1, hl0⟩)
        · have c_113 : ¬ (¬ (nI ((tX f n E j).getD ((tX f n E j).length - 1) 0)) = 86) := of_decide_eq_false c_113
          have n_113 : (tX f n E j).getD ((tX f n E j).length - 1) 0 = 86 := (eq_nI (p := (tX f n E j).getD ((tX f n E j).length - 1) 0) (n := 86) (by omega) (by decide)).mp (Decidable.not_not.mp c_113)
          refine ps_st (S' := (117, [(0, .ref m0), (2, .int (nI s)), (3, .int (nI ((tX f n E j).length - 1))), (4, .int (nI r))], [.int (nI ((tX f n E j).length - 1)), .int 1024, .int (nI (W))], M1)) rfl rfl rfl ?_
          refine ps_st (S' := (119, [(0, .ref m0), (2, .int (nI s)), (3, .int (nI ((tX f n E j).length - 1))), (4, .int (nI r))], [.int (nI r), .int (nI ((tX f n E j).length - 1)), .int 1024, .int (nI (W))], M1)) rfl rfl rfl ?_
          refine ps_st (S' := (120, [(0, .ref m0), (2, .int (nI s)), (3, .int (nI ((tX f n E j).length - 1))), (4, .int (nI r))], [.int 1, .int (nI r), .int (nI ((tX f n E j).length - 1)), .int 1024, .int (nI (W))], M1)) rfl rfl rfl ?_
          refine ps_st (S' := (121, [(0, .ref m0), (2, .int (nI s)), (3, .int (nI ((tX f n E j).length - 1))), (4, .int (nI r))], [.int ((nI r) + 1), .int (nI ((tX f n E j).length - 1)), .int 1024, .int (nI (W))], M1)) rfl rfl rfl ?_
          rw [nI_add1 (p := r) (k := 1) (x := 1) rfl (by omega)]
          show pl _ _ _ (_, [(0, .ref m0), (2, .int (nI s)), (3, .int (nI ((tX f n E j).length - 1))), (4, .int (nI r))], [.int (nI (r + 1)), .int (nI ((tX f n E j).length - 1)), .int 1024, .int (nI (W))], M1) _
          refine ps_if2 (S1 := (128, [(0, .ref m0), (2, .int (nI s)), (4, .int (nI r))], [.int 1024, .int (nI (W))], M1)) (S2 := (124, [(0, .ref m0), (2, .int (nI s)), (3, .int (nI ((tX f n E j).length - 1))), (4, .int (nI r))], [.int 1024, .int (nI (W))], M1)) rfl rfl rfl (fun c_121 => ?_) (fun c_121 => ?_)
          · have c_121 : ¬ (nI ((tX f n E j).length - 1)) = (nI (r + 1)) := of_decide_eq_true c_121
            have n_121 : ¬ ((tX f n E j).length - 1 = r + 1) := fun h9 => c_121 ((eq_nI (p := (tX f n E j).length - 1) (n := r + 1) (by omega) (by omega)).mpr h9)
            refine ps_st (S' := (129, [(0, .ref m0), (2, .int (nI s)), (4, .int (nI r))], [.ref m0, .int 1024, .int (nI (W))], M1)) rfl rfl rfl ?_
            refine ps_st (S' := (130, [(0, .ref m0), (2, .int (nI s)), (4, .int (nI r))], [.int (nI s), .ref m0, .int 1024, .int (nI (W))], M1)) rfl rfl rfl ?_
            refine ps_st (S' := (132, [(0, .ref m0), (2, .int (nI s)), (4, .int (nI r))], [.int (nI r), .int (nI s), .ref m0, .int 1024, .int (nI (W))], M1)) rfl rfl rfl ?_
            refine ps_st (S' := (133, [(0, .ref m0), (2, .int (nI s)), (4, .int (nI r))], [.int 1, .int (nI r), .int (nI s), .ref m0, .int 1024, .int (nI (W))], M1)) rfl rfl rfl ?_
            refine ps_st (S' := (134, [(0, .ref m0), (2, .int (nI s)), (4, .int (nI r))], [.int ((nI r) + 1), .int (nI s), .ref m0, .int 1024, .int (nI (W))], M1)) rfl rfl rfl ?_
            rw [nI_add1 (p := r) (k := 1) (x := 1) rfl (by omega)]
            show pl _ _ _ (_, [(0, .ref m0), (2, .int (nI s)), (4, .int (nI r))], [.int (nI (r + 1)), .int (nI s), .ref m0, .int 1024, .int (nI (W))], M1) _
            refine pl_call (a := [.ref m0, .int (nI s), .int (nI (r + 1))]) (rest := [.int 1024, .int (nI (W))]) rfl rfl rfl (rd_wide (tx := tx) (cN := cN) (A := A) (s := s) (l := (tX f n E j)) (k := (r + 1)) hR1 hY1 (hs) (by omega)) (fun v13 M14 q15 => ?_)
            obtain ⟨rfl, rfl⟩ := q15
            show pl _ _ _ (137, [(0, .ref m0), (2, .int (nI s)), (4, .int (nI r))], [.int (nI (wdN ((tX f n E j).getD (r + 1) 0))), .int 1024, .int (nI (W))], M1) _
            have hw_134 := le1_wd ((tX f n E j).getD (r + 1) 0)
            refine ps_if (S1 := (144, [(0, .ref m0), (2, .int (nI s)), (4, .int (nI r))], [.int 1024, .int (nI (W))], M1)) (S2 := (140, [(0, .ref m0), (2, .int (nI s)), (4, .int (nI r))], [.int 1024, .int (nI (W))], M1)) rfl rfl rfl (fun c_137 => ?_) (fun c_137 => ?_)
            · have c_137 : (nI (wdN ((tX f n E j).getD (r + 1) 0))) = 0 := of_decide_eq_true c_137
              have n_137 : wdN ((tX f n E j).getD (r + 1) 0) = 0 := (eq_nI (p := wdN ((tX f n E j).getD (r + 1) 0)) (n := 0) (Nat.lt_trans (le1_wd _) (by decide)) (by decide)).mp c_137
              refine ps_st (S' := (145, [], [.int 1, .int 1024, .int (nI (W))], M1)) rfl rfl rfl ?_
              refine ps_st (S' := (146, [], [.int (1024 * 1), .int (nI (W))], M1)) rfl rfl rfl ?_
              refine ps_st (S' := (147, [], [.int ((nI (W)) + (1024 * 1))], M1)) rfl rfl rfl ?_
              exact ps_reti rfl (⟨I1, R1, congrArg (fun x => some (Value.int x)) (plT_v (t := 1) hm (show s_pl (fun i => (tX f n E j).getD i 0) (tX f n E j).length ((tX f n E j).length - 1) 1 0 = some (r, W) from by rw [hpl, er9.1]) (by rw [if_neg (by omega), pW_wd]; omega) rfl), hR1, hEI1, hER1, hl0⟩)
            · have c_137 : ¬ ((nI (wdN ((tX f n E j).getD (r + 1) 0))) = 0) := of_decide_eq_false c_137
              have n_137 : ¬ (wdN ((tX f n E j).getD (r + 1) 0) = 0) := fun h9 => c_137 ((eq_nI (p := wdN ((tX f n E j).getD (r + 1) 0)) (n := 0) (Nat.lt_trans (le1_wd _) (by decide)) (by decide)).mpr h9)
              refine ps_st (S' := (141, [(0, .ref m0), (2, .int (nI s)), (4, .int (nI r))], [.int 2, .int 1024, .int (nI (W))], M1)) rfl rfl rfl ?_
              refine ps_st (S' := (145, [], [.int 2, .int 1024, .int (nI (W))], M1)) rfl rfl rfl ?_
              refine ps_st (S' := (146, [], [.int (1024 * 2), .int (nI (W))], M1)) rfl rfl rfl ?_
              refine ps_st (S' := (147, [], [.int ((nI (W)) + (1024 * 2))], M1)) rfl rfl rfl ?_
              exact ps_reti rfl (⟨I1, R1, congrArg (fun x => some (Value.int x)) (plT_v (t := 2) hm (show s_pl (fun i => (tX f n E j).getD i 0) (tX f n E j).length ((tX f n E j).length - 1) 1 0 = some (r, W) from by rw [hpl, er9.1]) (by rw [if_neg (by omega), pW_wd]; omega) rfl), hR1, hEI1, hER1, hl0⟩)
          · have c_121 : ¬ (¬ (nI ((tX f n E j).length - 1)) = (nI (r + 1))) := of_decide_eq_false c_121
            have n_121 : (tX f n E j).length - 1 = r + 1 := (eq_nI (p := (tX f n E j).length - 1) (n := r + 1) (by omega) (by omega)).mp (Decidable.not_not.mp c_121)
            refine ps_st (S' := (125, [(0, .ref m0), (2, .int (nI s)), (3, .int (nI ((tX f n E j).length - 1))), (4, .int (nI r))], [.int 0, .int 1024, .int (nI (W))], M1)) rfl rfl rfl ?_
            refine ps_st (S' := (145, [], [.int 0, .int 1024, .int (nI (W))], M1)) rfl rfl rfl ?_
            refine ps_st (S' := (146, [], [.int (1024 * 0), .int (nI (W))], M1)) rfl rfl rfl ?_
            refine ps_st (S' := (147, [], [.int ((nI (W)) + (1024 * 0))], M1)) rfl rfl rfl ?_
            exact ps_reti rfl (⟨I1, R1, congrArg (fun x => some (Value.int x)) (plT_v (t := 0) hm (show s_pl (fun i => (tX f n E j).getD i 0) (tX f n E j).length ((tX f n E j).length - 1) 1 0 = some (r, W) from by rw [hpl, er9.1]) ((if_pos ⟨by omega, by omega⟩).symm) rfl), hR1, hEI1, hER1, hl0⟩)
      · have c_82 : ¬ ((nI ((tX f n E j).getD r 0)) = 41) := of_decide_eq_false c_82
        have n_82 : ¬ ((tX f n E j).getD r 0 = 41) := fun h9 => c_82 ((eq_nI (p := (tX f n E j).getD r 0) (n := 41) (Nat.lt_trans (tx_ch _ _ _ _ _) (by decide)) (by decide)).mpr h9)
        refine ps_st (S' := (86, [(0, .ref m0), (2, .int (nI s)), (3, .int (nI ((tX f n E j).length - 1))), (4, .int (nI r))], [.ref m0], M1)) rfl rfl rfl ?_
        refine ps_st (S' := (87, [(0, .ref m0), (2, .int (nI s)), (3, .int (nI ((tX f n E j).length - 1))), (4, .int (nI r))], [.int (nI s), .ref m0], M1)) rfl rfl rfl ?_
        refine ps_st (S' := (89, [(0, .ref m0), (2, .int (nI s)), (3, .int (nI ((tX f n E j).length - 1))), (4, .int (nI r))], [.int (nI r), .int (nI s), .ref m0], M1)) rfl rfl rfl ?_
        refine pl_call (a := [.ref m0, .int (nI s), .int (nI r)]) (rest := []) rfl rfl rfl (rd_fieldText (tx := tx) (cN := cN) (A := A) (s := s) (l := (tX f n E j)) (a := r) hR1 hY1 (hs) (by omega)) (fun v16 M17 q18 => ?_)
        rcases q18 with q18 | q18
        · skip
          obtain ⟨q89_s, rfl, rfl⟩ := q18
          show pl _ _ _ (92, [(0, .ref m0), (2, .int (nI s)), (3, .int (nI ((tX f n E j).length - 1))), (4, .int (nI r))], [.int (-1)], M1) _
          rw [s_pl_bad (by omega) q89_s] at hp
          cases hp
        · skip
          obtain ⟨x19, q89_s, q89_l, rfl, rfl⟩ := q18
          show pl _ _ _ (92, [(0, .ref m0), (2, .int (nI s)), (3, .int (nI ((tX f n E j).length - 1))), (4, .int (nI r))], [.int (nI x19)], M1) _
          refine ps_st (S' := (94, [(4, .int (nI x19)), (0, .ref m0), (2, .int (nI s)), (3, .int (nI ((tX f n E j).length - 1)))], [], M1)) rfl rfl rfl ?_
          refine ps_st (S' := (73, [(0, .ref m0), (2, .int (nI s)), (3, .int (nI ((tX f n E j).length - 1))), (4, .int (nI x19))], [], M1)) rfl rfl rfl ?_
          exact ih (s) (x19) (w + pW ((tX f n E j).getD r 0)) M1 I1 R1 hR1 hEI1 hER1 hl0 hY1 (hs) (by omega) (by
              rw [← hp, s_pl_step (by omega) q89_s])
  refine ps_st (S' := (1, [(0, .ref m0), (1, .int (nI j))], [.ref m0], M)) rfl rfl rfl ?_
  refine ps_st (S' := (2, [(0, .ref m0), (1, .int (nI j))], [.int 0, .ref m0], M)) rfl rfl rfl ?_
  refine pr_put (j := 0) rfl hR rfl (fun M20 I21 hR22 hi23 hI24 => ?_)
  have hi25 := (hI24 18 (by decide)).trans hi18
  have hi26 := (hI24 51 (by decide)).trans hi51
  have hi27 := (hI24 52 (by decide)).trans hi52
  have hi28 := (hI24 53 (by decide)).trans hi53
  have hF_29 := hF.mono (pIx hI24 (by decide)) (fun _ _ => rfl)
  have hY_30 := hY.mono (pIx hI24 (by decide)) (fun _ _ => rfl)
  have hP_31 := hP.mono (pIx hI24 (by decide)) (fun _ _ => rfl)
  have hEI32 := hEI.put hI24 (by decide)
  show pl _ _ _ (5, [(0, .ref m0), (1, .int (nI j))], [], M20) _
  refine ps_st (S' := (6, [(0, .ref m0), (1, .int (nI j))], [.ref m0], M20)) rfl rfl rfl ?_
  refine pr_int (j := 18) (S' := (9, [(0, .ref m0), (1, .int (nI j))], [.int (nI n2)], M20)) rfl hR22 rfl hi25 rfl ?_
  refine ps_if (S1 := (21, [], [], M20)) (S2 := (12, [(0, .ref m0), (1, .int (nI j))], [], M20)) rfl rfl rfl (fun c_9 => ?_) (fun c_9 => ?_)
  · exact absurd (of_decide_eq_true c_9) (show ¬ ((nI n2) < 0) from fun h9 => absurd ((lt_nI (p := n2) (n := 0) (by omega) (by decide)).mp h9) (by omega))
  refine ps_st (S' := (13, [(0, .ref m0), (1, .int (nI j))], [.ref m0], M20)) rfl rfl rfl ?_
  refine ps_st (S' := (14, [(0, .ref m0), (1, .int (nI j))], [.int (nI j), .ref m0], M20)) rfl rfl rfl ?_
  refine pl_call (a := [.ref m0, .int (nI j)]) (rest := []) rfl rfl rfl (rd_tag (n := n) (f := f) (tx := tx) (cN := cN) (A := A) (N := N) (mj := mj) (E := E) (k := j) hR22 hi26 hi27 hi28 hF_29 hY_30 hP_31 (hEP) (hN) (hmj) (by omega)) (fun v33 M34 q35 => ?_)
  obtain ⟨rfl, rfl⟩ := q35
  show pl _ _ _ (17, [(0, .ref m0), (1, .int (nI j))], [.int (nI (tg f E j))], M20) _
  have htg_14 := tg_lt f E j
  refine ps_st (S' := (18, [(0, .ref m0), (1, .int (nI j))], [.int 1, .int (nI (tg f E j))], M20)) rfl rfl rfl ?_
  refine ps_if2 (S1 := (23, [(0, .ref m0), (1, .int (nI j))], [], M20)) (S2 := (21, [], [], M20)) rfl rfl rfl (fun c_18 => ?_) (fun c_18 => ?_)
  rotate_left
  · exact absurd (by rw [h1t]; rfl) (of_decide_eq_false c_18)
  refine ps_st (S' := (24, [(0, .ref m0), (1, .int (nI j))], [.ref m0], M20)) rfl rfl rfl ?_
  refine ps_st (S' := (25, [(0, .ref m0), (1, .int (nI j))], [.int (nI j), .ref m0], M20)) rfl rfl rfl ?_
  refine pl_call (a := [.ref m0, .int (nI j)]) (rest := []) rfl rfl rfl (rd_symOf (n := n) (f := f) (tx := tx) (cN := cN) (A := A) (N := N) (mj := mj) (E := E) (k := j) hR22 hi26 hi27 hi28 hF_29 hY_30 hP_31 (hEP) (hN) (hmj) (by omega)) (fun v36 M37 q38 => ?_)
  obtain ⟨s39, q25_s, rfl, rfl⟩ := q38
  show pl _ _ _ (28, [(0, .ref m0), (1, .int (nI j))], [.int (nI s39)], M20) _
  have hsl_25 := q25_s.1
  have htl_25 := hY_30.1.2.2.1
  refine ps_st (S' := (29, [(2, .int (nI s39)), (0, .ref m0), (1, .int (nI j))], [], M20)) rfl rfl rfl ?_
  refine ps_st (S' := (30, [(2, .int (nI s39)), (0, .ref m0), (1, .int (nI j))], [.ref m0], M20)) rfl rfl rfl ?_
  refine ps_st (S' := (31, [(2, .int (nI s39)), (0, .ref m0), (1, .int (nI j))], [.int (nI s39), .ref m0], M20)) rfl rfl rfl ?_
  refine pl_call (a := [.ref m0, .int (nI s39)]) (rest := []) rfl rfl rfl (rd_isField (tx := tx) (cN := cN) (A := A) (s := s39) (l := (tX f n E j)) hR22 hY_30 (q25_s)) (fun v40 M41 q42 => ?_)
  obtain ⟨rfl, rfl⟩ := q42
  show pl _ _ _ (34, [(2, .int (nI s39)), (0, .ref m0), (1, .int (nI j))], [.int (nI (fldN (tX f n E j)))], M20) _
  refine ps_if (S1 := (52, [(2, .int (nI s39)), (0, .ref m0), (1, .int (nI j))], [], M20)) (S2 := (37, [(2, .int (nI s39)), (0, .ref m0), (1, .int (nI j))], [], M20)) rfl rfl rfl (fun c_34 => ?_) (fun c_34 => ?_)
  rotate_left
  · exact absurd ((eq_nI (p := fldN (tX f n E j)) (n := 0) (Nat.lt_trans (le1_fld _) (by decide)) (by decide)).mpr (by omega)) (of_decide_eq_false c_34)
  refine ps_st (S' := (53, [(2, .int (nI s39)), (0, .ref m0), (1, .int (nI j))], [.ref m0], M20)) rfl rfl rfl ?_
  refine ps_st (S' := (54, [(2, .int (nI s39)), (0, .ref m0), (1, .int (nI j))], [.int (nI s39), .ref m0], M20)) rfl rfl rfl ?_
  refine pl_call (a := [.ref m0, .int (nI s39)]) (rest := []) rfl rfl rfl (rd_isMethod (tx := tx) (cN := cN) (A := A) (s := s39) (l := (tX f n E j)) hR22 hY_30 (q25_s)) (fun v43 M44 q45 => ?_)
  obtain ⟨rfl, rfl⟩ := q45
  show pl _ _ _ (57, [(2, .int (nI s39)), (0, .ref m0), (1, .int (nI j))], [.int (nI (mthN (tX f n E j)))], M20) _
  refine ps_if (S1 := (62, [(2, .int (nI s39)), (0, .ref m0), (1, .int (nI j))], [], M20)) (S2 := (60, [(2, .int (nI s39)), (0, .ref m0), (1, .int (nI j))], [], M20)) rfl rfl rfl (fun c_57 => ?_) (fun c_57 => ?_)
  rotate_left
  · exact absurd (show ¬ ((nI (mthN (tX f n E j))) = 0) from fun h9 => absurd ((eq_nI (p := mthN (tX f n E j)) (n := 0) (Nat.lt_trans (le1_mth _) (by decide)) (by decide)).mp h9) (by omega)) (of_decide_eq_false c_57)
  refine ps_st (S' := (63, [(2, .int (nI s39)), (0, .ref m0), (1, .int (nI j))], [.ref m0], M20)) rfl rfl rfl ?_
  refine ps_st (S' := (64, [(2, .int (nI s39)), (0, .ref m0), (1, .int (nI j))], [.int (nI s39), .ref m0], M20)) rfl rfl rfl ?_
  refine pl_call (a := [.ref m0, .int (nI s39)]) (rest := []) rfl rfl rfl (rd_length (tx := tx) (cN := cN) (A := A) (s := s39) (l := (tX f n E j)) hR22 hY_30 (q25_s)) (fun v46 M47 q48 => ?_)
  obtain ⟨rfl, rfl⟩ := q48
  show pl _ _ _ (67, [(2, .int (nI s39)), (0, .ref m0), (1, .int (nI j))], [.int (nI ((tX f n E j).length))], M20) _
  refine ps_st (S' := (68, [(2, .int (nI s39)), (0, .ref m0), (1, .int (nI j))], [.int 1, .int (nI ((tX f n E j).length))], M20)) rfl rfl rfl ?_
  refine ps_st (S' := (69, [(2, .int (nI s39)), (0, .ref m0), (1, .int (nI j))], [.int ((nI ((tX f n E j).length)) - 1)], M20)) rfl rfl rfl ?_
  rw [nI_sub1 (p := (tX f n E j).length) (k := 1) (x := 1) rfl (by omega) (by omega)]
  show pl _ _ _ (_, [(2, .int (nI s39)), (0, .ref m0), (1, .int (nI j))], [.int (nI (((tX f n E j).length) - 1))], M20) _
  refine ps_st (S' := (70, [(3, .int (nI (((tX f n E j).length) - 1))), (2, .int (nI s39)), (0, .ref m0), (1, .int (nI j))], [], M20)) rfl rfl rfl ?_
  refine ps_st (S' := (71, [(3, .int (nI (((tX f n E j).length) - 1))), (2, .int (nI s39)), (0, .ref m0), (1, .int (nI j))], [.int 1], M20)) rfl rfl rfl ?_
  refine ps_st (S' := (73, [(0, .ref m0), (2, .int (nI s39)), (3, .int (nI (((tX f n E j).length) - 1))), (4, .int 1)], [], M20)) rfl rfl rfl ?_
  exact (LL kf) (s39) (1) (0) M20 I21 R hR22 hEI32 hER hi23 hY_30 (q25_s) (by omega) (hpl)
theorem rd_places {g : xe_G} {m0 : Nat} {q : Nat → Nat} {z : Nat × Nat} {I : rI} {R : rR} {M : mi_H} {ko : Option (Nat × (Nat → Int32))} {k : Int32} (hR : RS g m0 q z I R M) (hK : KPR ko I R) : pt (mT g) 232 [.ref m0, .int k] M (fun v M' => ∃ (I' : rI) (R' : rR), v = some (.int (plK ko k)) ∧ RS g m0 q z I' R' M' ∧ eqI [0] I I' ∧ eqR [] R R' ∧ I' 0 = some 0) := by
  cases ko with
  | none =>
    obtain ⟨kn, h1, h2⟩ := hK
    exact rd_placesk hR h1 h2
  | some r =>
    obtain ⟨h1, h2, -, -, tx, cN, A, E, N, mj, p1, pF, pM, pA, k1, k2, k3, k4, k5, k6, k7, rfl, rfl, -⟩ := hK
    rw [plK_is k7]
    have hN := by2_lt r.2 8
    have hpl := whole_in k7
    have hEP := (EP_of hpl).1
    have h0 := tg_0 hpl
    unfold plX
    by_cases ht : tg r.2 E k.toNatClampNeg = 1
    · have hk0 : ¬ k < 0 := fun h9 => by rw [i32_cl h9, h0] at ht; cases ht
      have e := i32_nn hk0
      obtain ⟨j, ej⟩ : ∃ j, j = k.toNatClampNeg := ⟨_, rfl⟩
      rw [← ej] at e ht ⊢
      have hj : j < 65536 := Nat.not_le.mp (fun h9 => by
        unfold tg at ht
        rw [lk_hi k3.1 (Or.inr (by omega))] at ht
        cases ht)
      subst e
      rw [if_pos ht]
      by_cases hf : fldN (tX r.2 r.1 E j) = 0
      · by_cases hm : mthN (tX r.2 r.1 E j) = 0
        · exact rd_placesN hR h1 k4 k5 k6 k1 k2 k3 hEP hN (by2_lt _ _) h2 hj ht hf hm
        · obtain ⟨a1, a2, k0, W, a3, a4, a5, a6, a7, -⟩ := mth_in hm
          exact rd_placesM hR h1 k4 k5 k6 k1 k2 k3 hEP hN (by2_lt _ _) h2 hj ht hf hm a3 ⟨a4, a6, a7⟩ a5
      · exact rd_placesF hR h1 k4 k5 k6 k1 k2 k3 hEP hN (by2_lt _ _) h2 hj ht hf
    · rw [if_neg ht]
      exact rd_placesT hR h1 k4 k5 k6 k1 k2 k3 hEP hN (by2_lt _ _) h2 h0 ht
end
section
/-! a member by its name and its descriptor, as both sides find it (my own text) -/
section FDA
variable {f : Nat → Int32} {n : Nat} {E : List (Nat × Nat)}
def smI (o : Option Nat) : Int32 := match o with
  | none => -1
  | some k => nI k
def fdI (f : Nat → Int32) (n : Nat) (E : List (Nat × Nat)) (B : List Nat) (x y : Int32) : Int32 := if tg f E x.toNatClampNeg = 1 ∧ tg f E y.toNatClampNeg = 1 then smI (smeS f n E B x.toNatClampNeg y.toNatClampNeg B.length 0) else -1
/-- what is kept finds it -/
def fdK (ko : Option (Nat × (Nat → Int32))) (t x y : Int32) : Int32 := match ko with
  | none => -1
  | some r => match s_whole r.2 r.1 with
    | .inl _ => -1
    | .inr w => fdI r.2 r.1 w.1 (if t = 0 then mbs r.2 r.1 (by2 r.2 w.2.2.1) (w.2.2.1 + 2) else mbs r.2 r.1 (by2 r.2 w.2.2.2.1) (w.2.2.2.1 + 2)) x y
theorem fdK_is {r : Nat × (Nat → Int32)} {t x y : Int32} {p1 pF pM pA : Nat} (h : s_whole r.2 r.1 = .inr (E, p1, pF, pM, pA)) : fdK (some r) t x y = fdI r.2 r.1 E (if t = 0 then mbs r.2 r.1 (by2 r.2 pF) (pF + 2) else mbs r.2 r.1 (by2 r.2 pM) (pM + 2)) x y := by
  show (match s_whole r.2 r.1 with | .inl _ => -1 | .inr w => fdI r.2 r.1 w.1 (if t = 0 then mbs r.2 r.1 (by2 r.2 w.2.2.1) (w.2.2.1 + 2) else mbs r.2 r.1 (by2 r.2 w.2.2.2.1) (w.2.2.2.1 + 2)) x y) = _
  rw [h]
theorem mbs_len {p p' : Nat} (h : s_mbs f n p = .inr p') : (mbs f n (by2 f p) (p + 2)).length < 65536 := by
  unfold s_mbs at h
  split at h
  · cases h
  · rw [(mbs_in h).1]
    exact by2_lt _ _
/-- a number whose entry is a text -/
theorem tg_nn {x : Int32} {H : Nat} (hH : H ≤ 65536) (hlo : ∀ j, H ≤ j → tg f E j = 0) (h0 : tg f E 0 = 0) (h : tg f E x.toNatClampNeg = 1) : x = nI x.toNatClampNeg ∧ x.toNatClampNeg < 65536 := by
  refine ⟨i32_nn (fun h9 => ?_), Nat.not_le.mp (fun h9 => ?_)⟩
  · rw [i32_cl h9, h0] at h
    cases h
  · rw [hlo _ (by omega)] at h
    cases h
end FDA
set_option maxHeartbeats 1000000 in
theorem dk_find0 {g : xe_G} {M : mi_H} {o ca fl : Nat} {cn wp t x y : Int32} (h_o : M.1 o = some (ob 11 [.ref ca, .int cn, .ref fl, .null, .int wp]))  : pt (mT g) 10 [.ref o, .int t, .int x, .int y] M (fun v M' => (v = some (.int (-1)) ∧ M = M')) := by
  refine pt_in (b := mb_10 g) rfl (fun kf => ?_)
  show pl (mT g) kf (mb_10 g).2 (0, [(0, .ref o), (1, .int t), (2, .int x), (3, .int y)], [], M) _
  refine ps_st (S' := (1, [(0, .ref o), (1, .int t), (2, .int x), (3, .int y)], [.ref o], M)) rfl rfl rfl ?_
  refine ps_get (S' := (4, [(0, .ref o), (1, .int t), (2, .int x), (3, .int y)], [.null], M)) rfl h_o rfl rfl ?_
  refine ps_st (S' := (37, [], [], M)) rfl rfl rfl ?_
  refine ps_st (S' := (38, [], [.int (-1)], M)) rfl rfl rfl ?_
  exact ps_ret rfl rfl (⟨rfl, rfl⟩)
set_option maxHeartbeats 1000000 in
theorem dk_findA {g : xe_G} {M : mi_H} {f : Nat → Int32} {n N q : Nat} {E : List (Nat × Nat)} {o ca fl c b fr mr : Nat} {cn wp u2 u3 u4 u5 : Int32} {w : List Value} {t x y : Int32} (h_o : M.1 o = some (ob 11 [.ref ca, .int cn, .ref fl, .ref c, .int wp])) (h_c : M.1 c = some (ob 3 (.ref b :: .ref q :: .int u2 :: .int u3 :: .int u4 :: .int u5 :: .ref fr :: .ref mr :: w))) (hV : PV g f n N E q M) (h0 : tg f E 0 = 0) (ht : ¬ tg f E x.toNatClampNeg = 1) : pt (mT g) 10 [.ref o, .int t, .int x, .int y] M (fun v M' => (v = some (.int (-1)) ∧ M = M')) := by
  refine pt_in (b := mb_10 g) rfl (fun kf => ?_)
  show pl (mT g) kf (mb_10 g).2 (0, [(0, .ref o), (1, .int t), (2, .int x), (3, .int y)], [], M) _
  obtain ⟨hL9, H, m, qq, F, cc, hP9, -, -, hb9, -⟩ := id hV
  have h_q := hP9.1
  have hN9 := hb9.2.2.1
  refine ps_st (S' := (1, [(0, .ref o), (1, .int t), (2, .int x), (3, .int y)], [.ref o], M)) rfl rfl rfl ?_
  refine ps_get (S' := (4, [(0, .ref o), (1, .int t), (2, .int x), (3, .int y)], [.ref c], M)) rfl h_o rfl rfl ?_
  refine ps_st (S' := (7, [(0, .ref o), (1, .int t), (2, .int x), (3, .int y)], [], M)) rfl rfl rfl ?_
  refine ps_st (S' := (8, [(0, .ref o), (1, .int t), (2, .int x), (3, .int y)], [.ref o], M)) rfl rfl rfl ?_
  refine ps_get (S' := (11, [(0, .ref o), (1, .int t), (2, .int x), (3, .int y)], [.ref c], M)) rfl h_o rfl rfl ?_
  refine ps_get (S' := (14, [(0, .ref o), (1, .int t), (2, .int x), (3, .int y)], [.ref q], M)) rfl h_c rfl rfl ?_
  refine ps_st (S' := (15, [(0, .ref o), (1, .int t), (2, .int x), (3, .int y)], [.int x, .ref q], M)) rfl rfl rfl ?_
  refine pl_call (a := [.ref q, .int x]) (rest := []) rfl rfl rfl (dz_tagOf (f := f) (n := n) (N := N) (q := q) (E := E) (k := x) (hV) (h0)) (fun v1 M2 q3 => ?_)
  obtain ⟨rfl, rfl⟩ := q3
  show pl _ _ _ (18, [(0, .ref o), (1, .int t), (2, .int x), (3, .int y)], [.int (nI (tg f E x.toNatClampNeg))], M) _
  refine ps_st (S' := (19, [(0, .ref o), (1, .int t), (2, .int x), (3, .int y)], [.int 1, .int (nI (tg f E x.toNatClampNeg))], M)) rfl rfl rfl ?_
  refine ps_if2 (S1 := (37, [], [], M)) (S2 := (22, [(0, .ref o), (1, .int t), (2, .int x), (3, .int y)], [], M)) rfl rfl rfl (fun c_19 => ?_) (fun c_19 => ?_)
  rotate_left
  · exact absurd (show ¬ (nI (tg f E x.toNatClampNeg)) = 1 from fun h9 => ht ((eq_nI (p := tg f E x.toNatClampNeg) (n := 1) (Nat.lt_trans (tg_lt _ _ _) (by decide)) (by decide)).mp h9)) (of_decide_eq_false c_19)
  refine ps_st (S' := (38, [], [.int (-1)], M)) rfl rfl rfl ?_
  exact ps_ret rfl rfl (⟨rfl, rfl⟩)
set_option maxHeartbeats 1000000 in
theorem dk_findB {g : xe_G} {M : mi_H} {f : Nat → Int32} {n N q : Nat} {E : List (Nat × Nat)} {o ca fl c b fr mr : Nat} {cn wp u2 u3 u4 u5 : Int32} {w : List Value} {t x y : Int32} (h_o : M.1 o = some (ob 11 [.ref ca, .int cn, .ref fl, .ref c, .int wp])) (h_c : M.1 c = some (ob 3 (.ref b :: .ref q :: .int u2 :: .int u3 :: .int u4 :: .int u5 :: .ref fr :: .ref mr :: w))) (hV : PV g f n N E q M) (h0 : tg f E 0 = 0) (hx : tg f E x.toNatClampNeg = 1) (ht : ¬ tg f E y.toNatClampNeg = 1) : pt (mT g) 10 [.ref o, .int t, .int x, .int y] M (fun v M' => (v = some (.int (-1)) ∧ M = M')) := by
  refine pt_in (b := mb_10 g) rfl (fun kf => ?_)
  show pl (mT g) kf (mb_10 g).2 (0, [(0, .ref o), (1, .int t), (2, .int x), (3, .int y)], [], M) _
  obtain ⟨hL9, H, m, qq, F, cc, hP9, -, -, hb9, -⟩ := id hV
  have h_q := hP9.1
  have hN9 := hb9.2.2.1
  refine ps_st (S' := (1, [(0, .ref o), (1, .int t), (2, .int x), (3, .int y)], [.ref o], M)) rfl rfl rfl ?_
  refine ps_get (S' := (4, [(0, .ref o), (1, .int t), (2, .int x), (3, .int y)], [.ref c], M)) rfl h_o rfl rfl ?_
  refine ps_st (S' := (7, [(0, .ref o), (1, .int t), (2, .int x), (3, .int y)], [], M)) rfl rfl rfl ?_
  refine ps_st (S' := (8, [(0, .ref o), (1, .int t), (2, .int x), (3, .int y)], [.ref o], M)) rfl rfl rfl ?_
  refine ps_get (S' := (11, [(0, .ref o), (1, .int t), (2, .int x), (3, .int y)], [.ref c], M)) rfl h_o rfl rfl ?_
  refine ps_get (S' := (14, [(0, .ref o), (1, .int t), (2, .int x), (3, .int y)], [.ref q], M)) rfl h_c rfl rfl ?_
  refine ps_st (S' := (15, [(0, .ref o), (1, .int t), (2, .int x), (3, .int y)], [.int x, .ref q], M)) rfl rfl rfl ?_
  refine pl_call (a := [.ref q, .int x]) (rest := []) rfl rfl rfl (dz_tagOf (f := f) (n := n) (N := N) (q := q) (E := E) (k := x) (hV) (h0)) (fun v1 M2 q3 => ?_)
  obtain ⟨rfl, rfl⟩ := q3
  show pl _ _ _ (18, [(0, .ref o), (1, .int t), (2, .int x), (3, .int y)], [.int (nI (tg f E x.toNatClampNeg))], M) _
  refine ps_st (S' := (19, [(0, .ref o), (1, .int t), (2, .int x), (3, .int y)], [.int 1, .int (nI (tg f E x.toNatClampNeg))], M)) rfl rfl rfl ?_
  refine ps_if2 (S1 := (37, [], [], M)) (S2 := (22, [(0, .ref o), (1, .int t), (2, .int x), (3, .int y)], [], M)) rfl rfl rfl (fun c_19 => ?_) (fun c_19 => ?_)
  · exact absurd (of_decide_eq_true c_19) (fun h9 => h9 ((eq_nI (p := tg f E x.toNatClampNeg) (n := 1) (Nat.lt_trans (tg_lt _ _ _) (by decide)) (by decide)).mpr hx))
  refine ps_st (S' := (23, [(0, .ref o), (1, .int t), (2, .int x), (3, .int y)], [.ref o], M)) rfl rfl rfl ?_
  refine ps_get (S' := (26, [(0, .ref o), (1, .int t), (2, .int x), (3, .int y)], [.ref c], M)) rfl h_o rfl rfl ?_
  refine ps_get (S' := (29, [(0, .ref o), (1, .int t), (2, .int x), (3, .int y)], [.ref q], M)) rfl h_c rfl rfl ?_
  refine ps_st (S' := (30, [(0, .ref o), (1, .int t), (2, .int x), (3, .int y)], [.int y, .ref q], M)) rfl rfl rfl ?_
  refine pl_call (a := [.ref q, .int y]) (rest := []) rfl rfl rfl (dz_tagOf (f := f) (n := n) (N := N) (q := q) (E := E) (k := y) (hV) (h0)) (fun v4 M5 q6 => ?_)
  obtain ⟨rfl, rfl⟩ := q6
  show pl _ _ _ (33, [(0, .ref o), (1, .int t), (2, .int x), (3, .int y)], [.int (nI (tg f E y.toNatClampNeg))], M) _
  refine ps_st (S' := (34, [(0, .ref o), (1, .int t), (2, .int x), (3, .int y)], [.int 1, .int (nI (tg f E y.toNatClampNeg))], M)) rfl rfl rfl ?_
  refine ps_if2 (S1 := (39, [(0, .ref o), (1, .int t), (2, .int x), (3, .int y)], [], M)) (S2 := (37, [], [], M)) rfl rfl rfl (fun c_34 => ?_) (fun c_34 => ?_)
  · exact absurd (of_decide_eq_true c_34) (fun h9 => ht ((eq_nI (p := tg f E y.toNatClampNeg) (n := 1) (Nat.lt_trans (tg_lt _ _ _) (by decide)) (by decide)).mp h9))
  refine ps_st (S' := (38, [], [.int (-1)], M)) rfl rfl rfl ?_
  exact ps_ret rfl rfl (⟨rfl, rfl⟩)
set_option maxHeartbeats 1000000 in
theorem dk_findF {g : xe_G} {M : mi_H} {f : Nat → Int32} {n N q : Nat} {E : List (Nat × Nat)} {o ca fl c b fr mr : Nat} {cn wp u2 u3 u4 u5 : Int32} {w : List Value} {t : Int32} {x y kk : Nat} {B : List Nat} {G : Nat → Nat} (h_o : M.1 o = some (ob 11 [.ref ca, .int cn, .ref fl, .ref c, .int wp])) (h_c : M.1 c = some (ob 3 (.ref b :: .ref q :: .int u2 :: .int u3 :: .int u4 :: .int u5 :: .ref fr :: .ref mr :: w))) (hV : PV g f n N E q M) (hx : x < 65536) (hy : y < 65536) (hx1 : tg f E x = 1) (hy1 : tg f E y = 1) (hM : MV f B fr G kk M) (hBl : B.length < 65536) (ht : t = 0) : pt (mT g) 10 [.ref o, .int t, .int (nI x), .int (nI y)] M (fun v M' => (v = some (.int (smI (smeS f n E B x y B.length 0))) ∧ M = M')) := by
  refine pt_in (b := mb_10 g) rfl (fun kf => ?_)
  show pl (mT g) kf (mb_10 g).2 (0, [(0, .ref o), (1, .int t), (2, .int (nI x)), (3, .int (nI y))], [], M) _
  obtain ⟨hL9, H, m, qq, F, cc, hP9, -, -, hb9, -⟩ := id hV
  have h_q := hP9.1
  have hN9 := hb9.2.2.1
  obtain ⟨R, h_mm, hR⟩ := hM.2.1
  refine ps_st (S' := (1, [(0, .ref o), (1, .int t), (2, .int (nI x)), (3, .int (nI y))], [.ref o], M)) rfl rfl rfl ?_
  refine ps_get (S' := (4, [(0, .ref o), (1, .int t), (2, .int (nI x)), (3, .int (nI y))], [.ref c], M)) rfl h_o rfl rfl ?_
  refine ps_st (S' := (7, [(0, .ref o), (1, .int t), (2, .int (nI x)), (3, .int (nI y))], [], M)) rfl rfl rfl ?_
  refine ps_st (S' := (8, [(0, .ref o), (1, .int t), (2, .int (nI x)), (3, .int (nI y))], [.ref o], M)) rfl rfl rfl ?_
  refine ps_get (S' := (11, [(0, .ref o), (1, .int t), (2, .int (nI x)), (3, .int (nI y))], [.ref c], M)) rfl h_o rfl rfl ?_
  refine ps_get (S' := (14, [(0, .ref o), (1, .int t), (2, .int (nI x)), (3, .int (nI y))], [.ref q], M)) rfl h_c rfl rfl ?_
  refine ps_st (S' := (15, [(0, .ref o), (1, .int t), (2, .int (nI x)), (3, .int (nI y))], [.int (nI x), .ref q], M)) rfl rfl rfl ?_
  refine pl_call (a := [.ref q, .int (nI x)]) (rest := []) rfl rfl rfl (dy_tagOf (f := f) (n := n) (N := N) (q := q) (E := E) (j := x) (hV) (hx)) (fun v1 M2 q3 => ?_)
  obtain ⟨rfl, rfl⟩ := q3
  show pl _ _ _ (18, [(0, .ref o), (1, .int t), (2, .int (nI x)), (3, .int (nI y))], [.int (nI (tg f E x))], M) _
  refine ps_st (S' := (19, [(0, .ref o), (1, .int t), (2, .int (nI x)), (3, .int (nI y))], [.int 1, .int (nI (tg f E x))], M)) rfl rfl rfl ?_
  refine ps_if2 (S1 := (37, [], [], M)) (S2 := (22, [(0, .ref o), (1, .int t), (2, .int (nI x)), (3, .int (nI y))], [], M)) rfl rfl rfl (fun c_19 => ?_) (fun c_19 => ?_)
  · exact absurd (of_decide_eq_true c_19) (fun h9 => h9 (by rw [hx1]; rfl))
  refine ps_st (S' := (23, [(0, .ref o), (1, .int t), (2, .int (nI x)), (3, .int (nI y))], [.ref o], M)) rfl rfl rfl ?_
  refine ps_get (S' := (26, [(0, .ref o), (1, .int t), (2, .int (nI x)), (3, .int (nI y))], [.ref c], M)) rfl h_o rfl rfl ?_
  refine ps_get (S' := (29, [(0, .ref o), (1, .int t), (2, .int (nI x)), (3, .int (nI y))], [.ref q], M)) rfl h_c rfl rfl ?_
  refine ps_st (S' := (30, [(0, .ref o), (1, .int t), (2, .int (nI x)), (3, .int (nI y))], [.int (nI y), .ref q], M)) rfl rfl rfl ?_
  refine pl_call (a := [.ref q, .int (nI y)]) (rest := []) rfl rfl rfl (dy_tagOf (f := f) (n := n) (N := N) (q := q) (E := E) (j := y) (hV) (hy)) (fun v4 M5 q6 => ?_)
  obtain ⟨rfl, rfl⟩ := q6
  show pl _ _ _ (33, [(0, .ref o), (1, .int t), (2, .int (nI x)), (3, .int (nI y))], [.int (nI (tg f E y))], M) _
  refine ps_st (S' := (34, [(0, .ref o), (1, .int t), (2, .int (nI x)), (3, .int (nI y))], [.int 1, .int (nI (tg f E y))], M)) rfl rfl rfl ?_
  refine ps_if2 (S1 := (39, [(0, .ref o), (1, .int t), (2, .int (nI x)), (3, .int (nI y))], [], M)) (S2 := (37, [], [], M)) rfl rfl rfl (fun c_34 => ?_) (fun c_34 => ?_)
  rotate_left
  · exact absurd (by rw [hy1]; rfl) (of_decide_eq_false c_34)
  refine ps_st (S' := (40, [(0, .ref o), (1, .int t), (2, .int (nI x)), (3, .int (nI y))], [.int t], M)) rfl rfl rfl ?_
  refine ps_if (S1 := (53, [(0, .ref o), (1, .int t), (2, .int (nI x)), (3, .int (nI y))], [], M)) (S2 := (43, [(0, .ref o), (1, .int t), (2, .int (nI x)), (3, .int (nI y))], [], M)) rfl rfl rfl (fun c_40 => ?_) (fun c_40 => ?_)
  rotate_left
  · exact absurd (ht) (of_decide_eq_false c_40)
  refine ps_st (S' := (54, [(0, .ref o), (1, .int t), (2, .int (nI x)), (3, .int (nI y))], [.ref o], M)) rfl rfl rfl ?_
  refine ps_get (S' := (57, [(0, .ref o), (1, .int t), (2, .int (nI x)), (3, .int (nI y))], [.ref c], M)) rfl h_o rfl rfl ?_
  refine ps_get (S' := (60, [(0, .ref o), (2, .int (nI x)), (3, .int (nI y))], [.ref fr], M)) rfl h_c rfl rfl ?_
  refine ps_st (S' := (62, [(4, .ref fr), (0, .ref o), (2, .int (nI x)), (3, .int (nI y))], [], M)) rfl rfl rfl ?_
  refine ps_st (S' := (63, [(4, .ref fr), (0, .ref o), (2, .int (nI x)), (3, .int (nI y))], [.ref o], M)) rfl rfl rfl ?_
  refine ps_get (S' := (66, [(4, .ref fr), (0, .ref o), (2, .int (nI x)), (3, .int (nI y))], [.ref c], M)) rfl h_o rfl rfl ?_
  refine ps_get (S' := (69, [(4, .ref fr), (0, .ref o), (2, .int (nI x)), (3, .int (nI y))], [.ref q], M)) rfl h_c rfl rfl ?_
  refine ps_st (S' := (71, [(4, .ref fr), (0, .ref o), (2, .int (nI x)), (3, .int (nI y))], [.ref fr, .ref q], M)) rfl rfl rfl ?_
  refine ps_st (S' := (73, [(4, .ref fr), (0, .ref o), (2, .int (nI x)), (3, .int (nI y))], [.ref fr, .ref fr, .ref q], M)) rfl rfl rfl ?_
  refine ps_aalen (S' := (74, [(4, .ref fr), (0, .ref o), (2, .int (nI x)), (3, .int (nI y))], [.int (nI B.length), .ref fr, .ref q], M)) rfl h_mm rfl ?_
  refine ps_st (S' := (75, [(4, .ref fr), (0, .ref o), (2, .int (nI x)), (3, .int (nI y))], [.int (nI x), .int (nI B.length), .ref fr, .ref q], M)) rfl rfl rfl ?_
  refine ps_st (S' := (76, [(4, .ref fr), (0, .ref o), (2, .int (nI x)), (3, .int (nI y))], [.int (nI y), .int (nI x), .int (nI B.length), .ref fr, .ref q], M)) rfl rfl rfl ?_
  refine pl_call (a := [.ref q, .ref fr, .int (nI B.length), .int (nI x), .int (nI y)]) (rest := []) rfl rfl rfl (dk_sameMember (f := f) (n := n) (N := N) (q := q) (E := E) (B := B) (G := G) (mm := fr) (kk := kk) (c0 := B.length) (x := x) (y := y) (hV) (hM) (⟨Nat.le_refl _, hBl⟩) (hx) (hy)) (fun v7 M8 q9 => ?_)
  rcases q9 with q9 | q9
  · skip
    obtain ⟨q76_s, rfl, rfl⟩ := q9
    show pl _ _ _ (79, [(4, .ref fr), (0, .ref o), (2, .int (nI x)), (3, .int (nI y))], [.int (-1)], M) _
    exact ps_ret rfl rfl (⟨by rw [q76_s]; rfl, rfl⟩)
  · skip
    obtain ⟨k10, q76_s, q76_k, rfl, rfl⟩ := q9
    show pl _ _ _ (79, [(4, .ref fr), (0, .ref o), (2, .int (nI x)), (3, .int (nI y))], [.int (nI k10)], M) _
    exact ps_reti rfl (⟨by rw [q76_s]; rfl, rfl⟩)
set_option maxHeartbeats 1000000 in
theorem dk_findM {g : xe_G} {M : mi_H} {f : Nat → Int32} {n N q : Nat} {E : List (Nat × Nat)} {o ca fl c b fr mr : Nat} {cn wp u2 u3 u4 u5 : Int32} {w : List Value} {t : Int32} {x y kk : Nat} {B : List Nat} {G : Nat → Nat} (h_o : M.1 o = some (ob 11 [.ref ca, .int cn, .ref fl, .ref c, .int wp])) (h_c : M.1 c = some (ob 3 (.ref b :: .ref q :: .int u2 :: .int u3 :: .int u4 :: .int u5 :: .ref fr :: .ref mr :: w))) (hV : PV g f n N E q M) (hx : x < 65536) (hy : y < 65536) (hx1 : tg f E x = 1) (hy1 : tg f E y = 1) (hM : MV f B mr G kk M) (hBl : B.length < 65536) (ht : ¬ t = 0) : pt (mT g) 10 [.ref o, .int t, .int (nI x), .int (nI y)] M (fun v M' => (v = some (.int (smI (smeS f n E B x y B.length 0))) ∧ M = M')) := by
  refine pt_in (b := mb_10 g) rfl (fun kf => ?_)
  show pl (mT g) kf (mb_10 g).2 (0, [(0, .ref o), (1, .int t), (2, .int (nI x)), (3, .int (nI y))], [], M) _
  obtain ⟨hL9, H, m, qq, F, cc, hP9, -, -, hb9, -⟩ := id hV
  have h_q := hP9.1
  have hN9 := hb9.2.2.1
  obtain ⟨R, h_mm, hR⟩ := hM.2.1
  refine ps_st (S' := (1, [(0, .ref o), (1, .int t), (2, .int (nI x)), (3, .int (nI y))], [.ref o], M)) rfl rfl rfl ?_
  refine ps_get (S' := (4, [(0, .ref o), (1, .int t), (2, .int (nI x)), (3, .int (nI y))], [.ref c], M)) rfl h_o rfl rfl ?_
  refine ps_st (S' := (7, [(0, .ref o), (1, .int t), (2, .int (nI x)), (3, .int (nI y))], [], M)) rfl rfl rfl ?_
  refine ps_st (S' := (8, [(0, .ref o), (1, .int t), (2, .int (nI x)), (3, .int (nI y))], [.ref o], M)) rfl rfl rfl ?_
  refine ps_get (S' := (11, [(0, .ref o), (1, .int t), (2, .int (nI x)), (3, .int (nI y))], [.ref c], M)) rfl h_o rfl rfl ?_
  refine ps_get (S' := (14, [(0, .ref o), (1, .int t), (2, .int (nI x)), (3, .int (nI y))], [.ref q], M)) rfl h_c rfl rfl ?_
  refine ps_st (S' := (15, [(0, .ref o), (1, .int t), (2, .int (nI x)), (3, .int (nI y))], [.int (nI x), .ref q], M)) rfl rfl rfl ?_
  refine pl_call (a := [.ref q, .int (nI x)]) (rest := []) rfl rfl rfl (dy_tagOf (f := f) (n := n) (N := N) (q := q) (E := E) (j := x) (hV) (hx)) (fun v1 M2 q3 => ?_)
  obtain ⟨rfl, rfl⟩ := q3
  show pl _ _ _ (18, [(0, .ref o), (1, .int t), (2, .int (nI x)), (3, .int (nI y))], [.int (nI (tg f E x))], M) _
  refine ps_st (S' := (19, [(0, .ref o), (1, .int t), (2, .int (nI x)), (3, .int (nI y))], [.int 1, .int (nI (tg f E x))], M)) rfl rfl rfl ?_
  refine ps_if2 (S1 := (37, [], [], M)) (S2 := (22, [(0, .ref o), (1, .int t), (2, .int (nI x)), (3, .int (nI y))], [], M)) rfl rfl rfl (fun c_19 => ?_) (fun c_19 => ?_)
  · exact absurd (of_decide_eq_true c_19) (fun h9 => h9 (by rw [hx1]; rfl))
  refine ps_st (S' := (23, [(0, .ref o), (1, .int t), (2, .int (nI x)), (3, .int (nI y))], [.ref o], M)) rfl rfl rfl ?_
  refine ps_get (S' := (26, [(0, .ref o), (1, .int t), (2, .int (nI x)), (3, .int (nI y))], [.ref c], M)) rfl h_o rfl rfl ?_
  refine ps_get (S' := (29, [(0, .ref o), (1, .int t), (2, .int (nI x)), (3, .int (nI y))], [.ref q], M)) rfl h_c rfl rfl ?_
  refine ps_st (S' := (30, [(0, .ref o), (1, .int t), (2, .int (nI x)), (3, .int (nI y))], [.int (nI y), .ref q], M)) rfl rfl rfl ?_
  refine pl_call (a := [.ref q, .int (nI y)]) (rest := []) rfl rfl rfl (dy_tagOf (f := f) (n := n) (N := N) (q := q) (E := E) (j := y) (hV) (hy)) (fun v4 M5 q6 => ?_)
  obtain ⟨rfl, rfl⟩ := q6
  show pl _ _ _ (33, [(0, .ref o), (1, .int t), (2, .int (nI x)), (3, .int (nI y))], [.int (nI (tg f E y))], M) _
  refine ps_st (S' := (34, [(0, .ref o), (1, .int t), (2, .int (nI x)), (3, .int (nI y))], [.int 1, .int (nI (tg f E y))], M)) rfl rfl rfl ?_
  refine ps_if2 (S1 := (39, [(0, .ref o), (1, .int t), (2, .int (nI x)), (3, .int (nI y))], [], M)) (S2 := (37, [], [], M)) rfl rfl rfl (fun c_34 => ?_) (fun c_34 => ?_)
  rotate_left
  · exact absurd (by rw [hy1]; rfl) (of_decide_eq_false c_34)
  refine ps_st (S' := (40, [(0, .ref o), (1, .int t), (2, .int (nI x)), (3, .int (nI y))], [.int t], M)) rfl rfl rfl ?_
  refine ps_if (S1 := (53, [(0, .ref o), (1, .int t), (2, .int (nI x)), (3, .int (nI y))], [], M)) (S2 := (43, [(0, .ref o), (1, .int t), (2, .int (nI x)), (3, .int (nI y))], [], M)) rfl rfl rfl (fun c_40 => ?_) (fun c_40 => ?_)
  · exact absurd (of_decide_eq_true c_40) (ht)
  refine ps_st (S' := (44, [(0, .ref o), (1, .int t), (2, .int (nI x)), (3, .int (nI y))], [.ref o], M)) rfl rfl rfl ?_
  refine ps_get (S' := (47, [(0, .ref o), (1, .int t), (2, .int (nI x)), (3, .int (nI y))], [.ref c], M)) rfl h_o rfl rfl ?_
  refine ps_get (S' := (50, [(0, .ref o), (1, .int t), (2, .int (nI x)), (3, .int (nI y))], [.ref mr], M)) rfl h_c rfl rfl ?_
  refine ps_st (S' := (60, [(0, .ref o), (2, .int (nI x)), (3, .int (nI y))], [.ref mr], M)) rfl rfl rfl ?_
  refine ps_st (S' := (62, [(4, .ref mr), (0, .ref o), (2, .int (nI x)), (3, .int (nI y))], [], M)) rfl rfl rfl ?_
  refine ps_st (S' := (63, [(4, .ref mr), (0, .ref o), (2, .int (nI x)), (3, .int (nI y))], [.ref o], M)) rfl rfl rfl ?_
  refine ps_get (S' := (66, [(4, .ref mr), (0, .ref o), (2, .int (nI x)), (3, .int (nI y))], [.ref c], M)) rfl h_o rfl rfl ?_
  refine ps_get (S' := (69, [(4, .ref mr), (0, .ref o), (2, .int (nI x)), (3, .int (nI y))], [.ref q], M)) rfl h_c rfl rfl ?_
  refine ps_st (S' := (71, [(4, .ref mr), (0, .ref o), (2, .int (nI x)), (3, .int (nI y))], [.ref mr, .ref q], M)) rfl rfl rfl ?_
  refine ps_st (S' := (73, [(4, .ref mr), (0, .ref o), (2, .int (nI x)), (3, .int (nI y))], [.ref mr, .ref mr, .ref q], M)) rfl rfl rfl ?_
  refine ps_aalen (S' := (74, [(4, .ref mr), (0, .ref o), (2, .int (nI x)), (3, .int (nI y))], [.int (nI B.length), .ref mr, .ref q], M)) rfl h_mm rfl ?_
  refine ps_st (S' := (75, [(4, .ref mr), (0, .ref o), (2, .int (nI x)), (3, .int (nI y))], [.int (nI x), .int (nI B.length), .ref mr, .ref q], M)) rfl rfl rfl ?_
  refine ps_st (S' := (76, [(4, .ref mr), (0, .ref o), (2, .int (nI x)), (3, .int (nI y))], [.int (nI y), .int (nI x), .int (nI B.length), .ref mr, .ref q], M)) rfl rfl rfl ?_
  refine pl_call (a := [.ref q, .ref mr, .int (nI B.length), .int (nI x), .int (nI y)]) (rest := []) rfl rfl rfl (dk_sameMember (f := f) (n := n) (N := N) (q := q) (E := E) (B := B) (G := G) (mm := mr) (kk := kk) (c0 := B.length) (x := x) (y := y) (hV) (hM) (⟨Nat.le_refl _, hBl⟩) (hx) (hy)) (fun v7 M8 q9 => ?_)
  rcases q9 with q9 | q9
  · skip
    obtain ⟨q76_s, rfl, rfl⟩ := q9
    show pl _ _ _ (79, [(4, .ref mr), (0, .ref o), (2, .int (nI x)), (3, .int (nI y))], [.int (-1)], M) _
    exact ps_ret rfl rfl (⟨by rw [q76_s]; rfl, rfl⟩)
  · skip
    obtain ⟨k10, q76_s, q76_k, rfl, rfl⟩ := q9
    show pl _ _ _ (79, [(4, .ref mr), (0, .ref o), (2, .int (nI x)), (3, .int (nI y))], [.int (nI k10)], M) _
    exact ps_reti rfl (⟨by rw [q76_s]; rfl, rfl⟩)
theorem dk_find {g : xe_G} {M : mi_H} {ko : Option (Nat × (Nat → Int32))} {kv : Value} {cm o fl : Nat} {cn wp t x y : Int32} (hx : M.1 o = some (ob 11 [.ref cm, .int cn, .ref fl, kv, .int wp])) (hK : KPC g ko kv cm M) : pt (mT g) 10 [.ref o, .int t, .int x, .int y] M (fun v M' => v = some (.int (fdK ko t x y)) ∧ M = M') := by
  cases ko with
  | none =>
    have e : kv = .null := hK
    subst e
    exact dk_find0 hx
  | some r =>
    obtain ⟨c, da, rfl, ⟨b, q, N, E, p1, pF, pM, pA, w, h1, h2, h3, h4, h5, rfl, -, -, fr, mr, G1, G2, k1, k2, bc, K, rfl, m1, m2, -, m3, m4, -⟩, -, -⟩ := hK
    rw [fdK_is h5]
    have h0 := tg_0 (whole_in h5)
    unfold fdI
    by_cases hx1 : tg r.2 E x.toNatClampNeg = 1
    · by_cases hy1 : tg r.2 E y.toNatClampNeg = 1
      · rw [if_pos ⟨hx1, hy1⟩]
        obtain ⟨hL9, H, m, qq, F, cc, hP9, hT9, -, hb9, hVF, -⟩ := id h4
        obtain ⟨ex, lx⟩ := tg_nn hb9.1 hVF.2.1 h0 hx1
        obtain ⟨ey, ly⟩ := tg_nn hb9.1 hVF.2.1 h0 hy1
        obtain ⟨i, ei⟩ : ∃ i, i = x.toNatClampNeg := ⟨_, rfl⟩
        obtain ⟨j, ej⟩ : ∃ j, j = y.toNatClampNeg := ⟨_, rfl⟩
        rw [← ei] at ex lx hx1 ⊢
        rw [← ej] at ey ly hy1 ⊢
        subst ex
        subst ey
        by_cases ht : t = 0
        · rw [if_pos ht]
          exact dk_findF hx h1 h4 lx ly hx1 hy1 m1 (mbs_len m3) ht
        · rw [if_neg ht]
          exact dk_findM hx h1 h4 lx ly hx1 hy1 m2 (mbs_len m4) ht
      · rw [if_neg (fun q => hy1 q.2)]
        exact dk_findB hx h1 h4 h0 hx1 hy1
    · rw [if_neg (fun q => hx1 q.1)]
      exact dk_findA hx h1 h4 h0 hx1
end
section
set_option maxHeartbeats 1000000 in
theorem rd_find0 {g : xe_G} {m0 : Nat} {q : Nat → Nat} {z : Nat × Nat} {I : rI} {R : rR} {M : mi_H} {kn t x y : Int32} (hR : RS g m0 q z I R M) (hi18 : I 18 = some kn)  (hk : kn < 0) : pt (mT g) 207 [.ref m0, .int t, .int x, .int y] M (fun v M' => (∃  (I' : rI) (R' : rR), v = some (.int (-1)) ∧ RS g m0 q z I' R' M' ∧ eqI [0] I I' ∧ eqR [] R R' ∧ I' 0 = some 0)) := by
  refine pt_in (b := mb_207 g) rfl (fun kf => ?_)
  show pl (mT g) kf (mb_207 g).2 (0, [(0, .ref m0), (1, .int t), (2, .int x), (3, .int y)], [], M) _
  have hEI : eqI [0] I I := eqI.rf
  have hER : eqR [] R R := eqR.rf
  refine ps_st (S' := (1, [(0, .ref m0), (1, .int t), (2, .int x), (3, .int y)], [.ref m0], M)) rfl rfl rfl ?_
  refine ps_st (S' := (2, [(0, .ref m0), (1, .int t), (2, .int x), (3, .int y)], [.int 0, .ref m0], M)) rfl rfl rfl ?_
  refine pr_put (j := 0) rfl hR rfl (fun M1 I2 hR3 hi4 hI5 => ?_)
  have hi6 := (hI5 18 (by decide)).trans hi18
  have hEI7 := hEI.put hI5 (by decide)
  show pl _ _ _ (5, [(0, .ref m0), (1, .int t), (2, .int x), (3, .int y)], [], M1) _
  refine ps_st (S' := (6, [(0, .ref m0), (1, .int t), (2, .int x), (3, .int y)], [.ref m0], M1)) rfl rfl rfl ?_
  refine pr_int (j := 18) (S' := (9, [(0, .ref m0), (1, .int t), (2, .int x), (3, .int y)], [.int kn], M1)) rfl hR3 rfl hi6 rfl ?_
  refine ps_if (S1 := (30, [], [], M1)) (S2 := (12, [(0, .ref m0), (1, .int t), (2, .int x), (3, .int y)], [], M1)) rfl rfl rfl (fun c_9 => ?_) (fun c_9 => ?_)
  rotate_left
  · exact absurd (hk) (of_decide_eq_false c_9)
  refine ps_st (S' := (31, [], [.int (-1)], M1)) rfl rfl rfl ?_
  exact ps_ret rfl rfl (⟨I2, R, rfl, hR3, hEI7, hER, hi4⟩)
set_option maxHeartbeats 1000000 in
theorem rd_findA {g : xe_G} {m0 : Nat} {q : Nat → Nat} {z : Nat × Nat} {I : rI} {R : rR} {M : mi_H} {n : Nat} {f : Nat → Int32} {tx : List (List Nat)} {cN : Nat} {A : Nat → Nat} {N mj : Nat} {E : List (Nat × Nat)} {n2 : Nat} {t x y : Int32} (hR : RS g m0 q z I R M) (hi18 : I 18 = some (nI n2)) (hi51 : I 51 = some 0) (hi52 : I 52 = some (nI N)) (hi53 : I 53 = some (nI mj)) (hF : FK n f I R) (hY : SYT tx cN A I R) (hP : RPV f n E tx N I R) (hEP : EP f n E) (hN : N < 65536) (hmj : mj < 65536) (hn2 : n2 ≤ 65540) (h0 : tg f E 0 = 0) (ht : ¬ tg f E x.toNatClampNeg = 1) : pt (mT g) 207 [.ref m0, .int t, .int x, .int y] M (fun v M' => (∃  (I' : rI) (R' : rR), v = some (.int (-1)) ∧ RS g m0 q z I' R' M' ∧ eqI [0] I I' ∧ eqR [] R R' ∧ I' 0 = some 0)) := by
  refine pt_in (b := mb_207 g) rfl (fun kf => ?_)
  show pl (mT g) kf (mb_207 g).2 (0, [(0, .ref m0), (1, .int t), (2, .int x), (3, .int y)], [], M) _
  have hEI : eqI [0] I I := eqI.rf
  have hER : eqR [] R R := eqR.rf
  refine ps_st (S' := (1, [(0, .ref m0), (1, .int t), (2, .int x), (3, .int y)], [.ref m0], M)) rfl rfl rfl ?_
  refine ps_st (S' := (2, [(0, .ref m0), (1, .int t), (2, .int x), (3, .int y)], [.int 0, .ref m0], M)) rfl rfl rfl ?_
  refine pr_put (j := 0) rfl hR rfl (fun M1 I2 hR3 hi4 hI5 => ?_)
  have hi6 := (hI5 18 (by decide)).trans hi18
  have hi7 := (hI5 51 (by decide)).trans hi51
  have hi8 := (hI5 52 (by decide)).trans hi52
  have hi9 := (hI5 53 (by decide)).trans hi53
  have hF_10 := hF.mono (pIx hI5 (by decide)) (fun _ _ => rfl)
  have hY_11 := hY.mono (pIx hI5 (by decide)) (fun _ _ => rfl)
  have hP_12 := hP.mono (pIx hI5 (by decide)) (fun _ _ => rfl)
  have hEI13 := hEI.put hI5 (by decide)
  show pl _ _ _ (5, [(0, .ref m0), (1, .int t), (2, .int x), (3, .int y)], [], M1) _
  refine ps_st (S' := (6, [(0, .ref m0), (1, .int t), (2, .int x), (3, .int y)], [.ref m0], M1)) rfl rfl rfl ?_
  refine pr_int (j := 18) (S' := (9, [(0, .ref m0), (1, .int t), (2, .int x), (3, .int y)], [.int (nI n2)], M1)) rfl hR3 rfl hi6 rfl ?_
  refine ps_if (S1 := (30, [], [], M1)) (S2 := (12, [(0, .ref m0), (1, .int t), (2, .int x), (3, .int y)], [], M1)) rfl rfl rfl (fun c_9 => ?_) (fun c_9 => ?_)
  · exact absurd (of_decide_eq_true c_9) (show ¬ ((nI n2) < 0) from fun h9 => absurd ((lt_nI (p := n2) (n := 0) (by omega) (by decide)).mp h9) (by omega))
  refine ps_st (S' := (13, [(0, .ref m0), (1, .int t), (2, .int x), (3, .int y)], [.ref m0], M1)) rfl rfl rfl ?_
  refine ps_st (S' := (14, [(0, .ref m0), (1, .int t), (2, .int x), (3, .int y)], [.int x, .ref m0], M1)) rfl rfl rfl ?_
  refine pl_call (a := [.ref m0, .int x]) (rest := []) rfl rfl rfl (rd_tagR (n := n) (f := f) (tx := tx) (cN := cN) (A := A) (N := N) (mj := mj) (E := E) (k := x) hR3 hi7 hi8 hi9 hF_10 hY_11 hP_12 (hEP) (hN) (hmj) (h0)) (fun v14 M15 q16 => ?_)
  obtain ⟨rfl, rfl⟩ := q16
  show pl _ _ _ (17, [(0, .ref m0), (1, .int t), (2, .int x), (3, .int y)], [.int (nI (tg f E x.toNatClampNeg))], M1) _
  refine ps_st (S' := (18, [(0, .ref m0), (1, .int t), (2, .int x), (3, .int y)], [.int 1, .int (nI (tg f E x.toNatClampNeg))], M1)) rfl rfl rfl ?_
  refine ps_if2 (S1 := (30, [], [], M1)) (S2 := (21, [(0, .ref m0), (1, .int t), (2, .int x), (3, .int y)], [], M1)) rfl rfl rfl (fun c_18 => ?_) (fun c_18 => ?_)
  rotate_left
  · exact absurd (show ¬ (nI (tg f E x.toNatClampNeg)) = 1 from fun h9 => ht ((eq_nI (p := tg f E x.toNatClampNeg) (n := 1) (Nat.lt_trans (tg_lt _ _ _) (by decide)) (by decide)).mp h9)) (of_decide_eq_false c_18)
  refine ps_st (S' := (31, [], [.int (-1)], M1)) rfl rfl rfl ?_
  exact ps_ret rfl rfl (⟨I2, R, rfl, hR3, hEI13, hER, hi4⟩)
set_option maxHeartbeats 1000000 in
theorem rd_findB {g : xe_G} {m0 : Nat} {q : Nat → Nat} {z : Nat × Nat} {I : rI} {R : rR} {M : mi_H} {n : Nat} {f : Nat → Int32} {tx : List (List Nat)} {cN : Nat} {A : Nat → Nat} {N mj : Nat} {E : List (Nat × Nat)} {n2 : Nat} {t x y : Int32} (hR : RS g m0 q z I R M) (hi18 : I 18 = some (nI n2)) (hi51 : I 51 = some 0) (hi52 : I 52 = some (nI N)) (hi53 : I 53 = some (nI mj)) (hF : FK n f I R) (hY : SYT tx cN A I R) (hP : RPV f n E tx N I R) (hEP : EP f n E) (hN : N < 65536) (hmj : mj < 65536) (hn2 : n2 ≤ 65540) (h0 : tg f E 0 = 0) (hx : tg f E x.toNatClampNeg = 1) (ht : ¬ tg f E y.toNatClampNeg = 1) : pt (mT g) 207 [.ref m0, .int t, .int x, .int y] M (fun v M' => (∃  (I' : rI) (R' : rR), v = some (.int (-1)) ∧ RS g m0 q z I' R' M' ∧ eqI [0] I I' ∧ eqR [] R R' ∧ I' 0 = some 0)) := by
  refine pt_in (b := mb_207 g) rfl (fun kf => ?_)
  show pl (mT g) kf (mb_207 g).2 (0, [(0, .ref m0), (1, .int t), (2, .int x), (3, .int y)], [], M) _
  have hEI : eqI [0] I I := eqI.rf
  have hER : eqR [] R R := eqR.rf
  refine ps_st (S' := (1, [(0, .ref m0), (1, .int t), (2, .int x), (3, .int y)], [.ref m0], M)) rfl rfl rfl ?_
  refine ps_st (S' := (2, [(0, .ref m0), (1, .int t), (2, .int x), (3, .int y)], [.int 0, .ref m0], M)) rfl rfl rfl ?_
  refine pr_put (j := 0) rfl hR rfl (fun M1 I2 hR3 hi4 hI5 => ?_)
  have hi6 := (hI5 18 (by decide)).trans hi18
  have hi7 := (hI5 51 (by decide)).trans hi51
  have hi8 := (hI5 52 (by decide)).trans hi52
  have hi9 := (hI5 53 (by decide)).trans hi53
  have hF_10 := hF.mono (pIx hI5 (by decide)) (fun _ _ => rfl)
  have hY_11 := hY.mono (pIx hI5 (by decide)) (fun _ _ => rfl)
  have hP_12 := hP.mono (pIx hI5 (by decide)) (fun _ _ => rfl)
  have hEI13 := hEI.put hI5 (by decide)
  show pl _ _ _ (5, [(0, .ref m0), (1, .int t), (2, .int x), (3, .int y)], [], M1) _
  refine ps_st (S' := (6, [(0, .ref m0), (1, .int t), (2, .int x), (3, .int y)], [.ref m0], M1)) rfl rfl rfl ?_
  refine pr_int (j := 18) (S' := (9, [(0, .ref m0), (1, .int t), (2, .int x), (3, .int y)], [.int (nI n2)], M1)) rfl hR3 rfl hi6 rfl ?_
  refine ps_if (S1 := (30, [], [], M1)) (S2 := (12, [(0, .ref m0), (1, .int t), (2, .int x), (3, .int y)], [], M1)) rfl rfl rfl (fun c_9 => ?_) (fun c_9 => ?_)
  · exact absurd (of_decide_eq_true c_9) (show ¬ ((nI n2) < 0) from fun h9 => absurd ((lt_nI (p := n2) (n := 0) (by omega) (by decide)).mp h9) (by omega))
  refine ps_st (S' := (13, [(0, .ref m0), (1, .int t), (2, .int x), (3, .int y)], [.ref m0], M1)) rfl rfl rfl ?_
  refine ps_st (S' := (14, [(0, .ref m0), (1, .int t), (2, .int x), (3, .int y)], [.int x, .ref m0], M1)) rfl rfl rfl ?_
  refine pl_call (a := [.ref m0, .int x]) (rest := []) rfl rfl rfl (rd_tagR (n := n) (f := f) (tx := tx) (cN := cN) (A := A) (N := N) (mj := mj) (E := E) (k := x) hR3 hi7 hi8 hi9 hF_10 hY_11 hP_12 (hEP) (hN) (hmj) (h0)) (fun v14 M15 q16 => ?_)
  obtain ⟨rfl, rfl⟩ := q16
  show pl _ _ _ (17, [(0, .ref m0), (1, .int t), (2, .int x), (3, .int y)], [.int (nI (tg f E x.toNatClampNeg))], M1) _
  refine ps_st (S' := (18, [(0, .ref m0), (1, .int t), (2, .int x), (3, .int y)], [.int 1, .int (nI (tg f E x.toNatClampNeg))], M1)) rfl rfl rfl ?_
  refine ps_if2 (S1 := (30, [], [], M1)) (S2 := (21, [(0, .ref m0), (1, .int t), (2, .int x), (3, .int y)], [], M1)) rfl rfl rfl (fun c_18 => ?_) (fun c_18 => ?_)
  · exact absurd (of_decide_eq_true c_18) (fun h9 => h9 ((eq_nI (p := tg f E x.toNatClampNeg) (n := 1) (Nat.lt_trans (tg_lt _ _ _) (by decide)) (by decide)).mpr hx))
  refine ps_st (S' := (22, [(0, .ref m0), (1, .int t), (2, .int x), (3, .int y)], [.ref m0], M1)) rfl rfl rfl ?_
  refine ps_st (S' := (23, [(0, .ref m0), (1, .int t), (2, .int x), (3, .int y)], [.int y, .ref m0], M1)) rfl rfl rfl ?_
  refine pl_call (a := [.ref m0, .int y]) (rest := []) rfl rfl rfl (rd_tagR (n := n) (f := f) (tx := tx) (cN := cN) (A := A) (N := N) (mj := mj) (E := E) (k := y) hR3 hi7 hi8 hi9 hF_10 hY_11 hP_12 (hEP) (hN) (hmj) (h0)) (fun v17 M18 q19 => ?_)
  obtain ⟨rfl, rfl⟩ := q19
  show pl _ _ _ (26, [(0, .ref m0), (1, .int t), (2, .int x), (3, .int y)], [.int (nI (tg f E y.toNatClampNeg))], M1) _
  refine ps_st (S' := (27, [(0, .ref m0), (1, .int t), (2, .int x), (3, .int y)], [.int 1, .int (nI (tg f E y.toNatClampNeg))], M1)) rfl rfl rfl ?_
  refine ps_if2 (S1 := (32, [(0, .ref m0), (1, .int t), (2, .int x), (3, .int y)], [], M1)) (S2 := (30, [], [], M1)) rfl rfl rfl (fun c_27 => ?_) (fun c_27 => ?_)
  · exact absurd (of_decide_eq_true c_27) (fun h9 => ht ((eq_nI (p := tg f E y.toNatClampNeg) (n := 1) (Nat.lt_trans (tg_lt _ _ _) (by decide)) (by decide)).mp h9))
  refine ps_st (S' := (31, [], [.int (-1)], M1)) rfl rfl rfl ?_
  exact ps_ret rfl rfl (⟨I2, R, rfl, hR3, hEI13, hER, hi4⟩)
set_option maxHeartbeats 1000000 in
theorem rd_findF {g : xe_G} {m0 : Nat} {q : Nat → Nat} {z : Nat × Nat} {I : rI} {R : rR} {M : mi_H} {n : Nat} {f : Nat → Int32} {tx : List (List Nat)} {cN : Nat} {A : Nat → Nat} {N mj : Nat} {E : List (Nat × Nat)} {n2 : Nat} {t : Int32} {x y : Nat} {B : List Nat} (hR : RS g m0 q z I R M) (hi18 : I 18 = some (nI n2)) (hi51 : I 51 = some 0) (hi52 : I 52 = some (nI N)) (hi53 : I 53 = some (nI mj)) (hi25 : I 25 = some (nI B.length)) (hF : FK n f I R) (hY : SYT tx cN A I R) (hP : RPV f n E tx N I R) (hN9 : FN 28 29 f n E tx B 0 B.length I R) (hEP : EP f n E) (hN : N < 65536) (hmj : mj < 65536) (hn2 : n2 ≤ 65540) (hx : x < 65536) (hy : y < 65536) (hx1 : tg f E x = 1) (hy1 : tg f E y = 1) (hBl : B.length < 65536) (ht : t = 0) : pt (mT g) 207 [.ref m0, .int t, .int (nI x), .int (nI y)] M (fun v M' => (∃  (I' : rI) (R' : rR), v = some (.int (smI (smeS f n E B x y B.length 0))) ∧ RS g m0 q z I' R' M' ∧ eqI [0] I I' ∧ eqR [] R R' ∧ I' 0 = some 0)) := by
  refine pt_in (b := mb_207 g) rfl (fun kf => ?_)
  show pl (mT g) kf (mb_207 g).2 (0, [(0, .ref m0), (1, .int t), (2, .int (nI x)), (3, .int (nI y))], [], M) _
  have hEI : eqI [0] I I := eqI.rf
  have hER : eqR [] R R := eqR.rf
  have hn := hF.1
  have LL : ∀ (kf : Nat), (∀ (s d i : Nat) (M1 : mi_H) (I1 : rI) (R1 : rR), (RS g m0 q z I1 R1 M1) → (eqI [0] I I1) → (eqR [] R R1) → (I1 0 = some 0) → (I1 25 = some (nI B.length)) → (SYT tx cN A I1 R1) → (FN 28 29 f n E tx B 0 B.length I1 R1) → (s < tx.length ∧ tx.getD s [] = tX f n E x) → (d < tx.length ∧ tx.getD d [] = tX f n E y) → (i ≤ B.length) → (smeS f n E B x y (B.length - i) i = smeS f n E B x y B.length 0) →  pl (mT g) kf (mb_207 g).2 (49, [(0, .ref m0), (1, .int t), (4, .int (nI s)), (5, .int (nI d)), (6, .int (nI i))], [], M1) (fun v M' => (∃  (I' : rI) (R' : rR), v = some (.int (smI (smeS f n E B x y B.length 0))) ∧ RS g m0 q z I' R' M' ∧ eqI [0] I I' ∧ eqR [] R R' ∧ I' 0 = some 0))) := by
    intro kf
    induction kf with
    | zero => exact (by intros; exact pl_0)
    | succ kf ih =>
      intro s d i M1 I1 R1 hR1 hEI1 hER1 hl0 hl25 hY1 hN91 hs hd hi hm
      have htl := hY1.1.2.2.1
      have hs7 := hs.1
      have hd7 := hd.1
      refine ps_st1 (S' := (51, [(0, .ref m0), (1, .int t), (4, .int (nI s)), (5, .int (nI d)), (6, .int (nI i))], [.int (nI i)], M1)) rfl rfl rfl ?_
      refine ps_st (S' := (52, [(0, .ref m0), (1, .int t), (4, .int (nI s)), (5, .int (nI d)), (6, .int (nI i))], [.int t, .int (nI i)], M1)) rfl rfl rfl ?_
      refine ps_if (S1 := (62, [(0, .ref m0), (1, .int t), (4, .int (nI s)), (5, .int (nI d)), (6, .int (nI i))], [.int (nI i)], M1)) (S2 := (55, [(0, .ref m0), (1, .int t), (4, .int (nI s)), (5, .int (nI d)), (6, .int (nI i))], [.int (nI i)], M1)) rfl rfl rfl (fun c_52 => ?_) (fun c_52 => ?_)
      rotate_left
      · exact absurd (ht) (of_decide_eq_false c_52)
      refine ps_st (S' := (63, [(0, .ref m0), (1, .int t), (4, .int (nI s)), (5, .int (nI d)), (6, .int (nI i))], [.ref m0, .int (nI i)], M1)) rfl rfl rfl ?_
      refine pr_int (j := 25) (S' := (66, [(0, .ref m0), (1, .int t), (4, .int (nI s)), (5, .int (nI d)), (6, .int (nI i))], [.int (nI B.length), .int (nI i)], M1)) rfl hR1 rfl hl25 rfl ?_
      refine ps_if2 (S1 := (130, [(0, .ref m0), (1, .int t), (4, .int (nI s)), (5, .int (nI d)), (6, .int (nI i))], [], M1)) (S2 := (69, [(0, .ref m0), (1, .int t), (4, .int (nI s)), (5, .int (nI d)), (6, .int (nI i))], [], M1)) rfl rfl rfl (fun c_66 => ?_) (fun c_66 => ?_)
      · have c_66 : (nI B.length) ≤ (nI i) := of_decide_eq_true c_66
        have n_66 : B.length ≤ i := (le_nI (p := B.length) (n := i) (by omega) (by omega)).mp c_66
        refine ps_st (S' := (131, [(0, .ref m0), (1, .int t), (4, .int (nI s)), (5, .int (nI d)), (6, .int (nI i))], [.int (-1)], M1)) rfl rfl rfl ?_
        exact ps_ret rfl rfl (⟨I1, R1, by
            rw [← hm, show B.length - i = 0 by omega]
            rfl, hR1, hEI1, hER1, hl0⟩)
      · have c_66 : ¬ ((nI B.length) ≤ (nI i)) := of_decide_eq_false c_66
        have n_66 : ¬ (B.length ≤ i) := fun h9 => c_66 ((le_nI (p := B.length) (n := i) (by omega) (by omega)).mpr h9)
        obtain ⟨a9, d9, g1, g2, g3, g4, g5, g6⟩ := hN91 i (by omega)
        rw [Nat.zero_add] at g1 g2
        have g7 := g3.1
        have g8 := g4.1
        have sm1 := sm_sym (k := by2 f (B.getD i 0 + 2)) (m := x) hY1 g3 hs g5 hx1
        have sm2 := sm_sym (k := by2 f (B.getD i 0 + 4)) (m := y) hY1 g4 hd g6 hy1
        refine ps_st (S' := (70, [(0, .ref m0), (1, .int t), (4, .int (nI s)), (5, .int (nI d)), (6, .int (nI i))], [.int t], M1)) rfl rfl rfl ?_
        refine ps_if (S1 := (83, [(0, .ref m0), (1, .int t), (4, .int (nI s)), (5, .int (nI d)), (6, .int (nI i))], [], M1)) (S2 := (73, [(0, .ref m0), (1, .int t), (4, .int (nI s)), (5, .int (nI d)), (6, .int (nI i))], [], M1)) rfl rfl rfl (fun c_70 => ?_) (fun c_70 => ?_)
        rotate_left
        · exact absurd (ht) (of_decide_eq_false c_70)
        refine ps_st (S' := (84, [(0, .ref m0), (1, .int t), (4, .int (nI s)), (5, .int (nI d)), (6, .int (nI i))], [.ref m0], M1)) rfl rfl rfl ?_
        refine pr_ref (j := 28) (S' := (87, [(0, .ref m0), (1, .int t), (4, .int (nI s)), (5, .int (nI d)), (6, .int (nI i))], [.ref (q 28)], M1)) rfl hR1 rfl rfl ?_
        refine ps_st (S' := (89, [(0, .ref m0), (1, .int t), (4, .int (nI s)), (5, .int (nI d)), (6, .int (nI i))], [.int (nI i), .ref (q 28)], M1)) rfl rfl rfl ?_
        refine pr_ld (a := 28) (j := i) (y := (nI a9)) (S' := (90, [(0, .ref m0), (1, .int t), (4, .int (nI s)), (5, .int (nI d)), (6, .int (nI i))], [.int (nI a9)], M1)) rfl hR1 rfl (by omega) (fun _ => g1) rfl (fun i1_89 => ?_)
        refine ps_st (S' := (92, [(0, .ref m0), (1, .int t), (4, .int (nI s)), (5, .int (nI d)), (6, .int (nI i))], [.int (nI s), .int (nI a9)], M1)) rfl rfl rfl ?_
        refine ps_if2 (S1 := (124, [(0, .ref m0), (1, .int t), (4, .int (nI s)), (5, .int (nI d)), (6, .int (nI i))], [], M1)) (S2 := (95, [(0, .ref m0), (1, .int t), (4, .int (nI s)), (5, .int (nI d)), (6, .int (nI i))], [], M1)) rfl rfl rfl (fun c_92 => ?_) (fun c_92 => ?_)
        · have c_92 : ¬ (nI a9) = (nI s) := of_decide_eq_true c_92
          have n_92 : ¬ (a9 = s) := fun h9 => c_92 ((eq_nI (p := a9) (n := s) (by omega) (by omega)).mpr h9)
          refine ps_st (S' := (127, [(6, .int ((nI i) + 1)), (0, .ref m0), (1, .int t), (4, .int (nI s)), (5, .int (nI d))], [], M1)) rfl rfl rfl ?_
          rw [nI_add1 (p := i) (k := 1) (x := 1) rfl (by omega)]
          show pl _ _ _ (_, [(6, .int (nI (i + 1))), (0, .ref m0), (1, .int t), (4, .int (nI s)), (5, .int (nI d))], [], M1) _
          refine ps_st (S' := (49, [(0, .ref m0), (1, .int t), (4, .int (nI s)), (5, .int (nI d)), (6, .int (nI (i + 1)))], [], M1)) rfl rfl rfl ?_
          exact ih (s) (d) (i + 1) M1 I1 R1 hR1 hEI1 hER1 hl0 hl25 hY1 hN91 (hs) (hd) (by omega) (by
              rw [← hm, smeS_st (i := i) (by omega), if_neg (by omega)])
        · have c_92 : ¬ (¬ (nI a9) = (nI s)) := of_decide_eq_false c_92
          have n_92 : a9 = s := (eq_nI (p := a9) (n := s) (by omega) (by omega)).mp (Decidable.not_not.mp c_92)
          refine ps_st (S' := (96, [(0, .ref m0), (1, .int t), (4, .int (nI s)), (5, .int (nI d)), (6, .int (nI i))], [.int t], M1)) rfl rfl rfl ?_
          refine ps_if (S1 := (109, [(0, .ref m0), (1, .int t), (4, .int (nI s)), (5, .int (nI d)), (6, .int (nI i))], [], M1)) (S2 := (99, [(0, .ref m0), (1, .int t), (4, .int (nI s)), (5, .int (nI d)), (6, .int (nI i))], [], M1)) rfl rfl rfl (fun c_96 => ?_) (fun c_96 => ?_)
          rotate_left
          · exact absurd (ht) (of_decide_eq_false c_96)
          refine ps_st (S' := (110, [(0, .ref m0), (1, .int t), (4, .int (nI s)), (5, .int (nI d)), (6, .int (nI i))], [.ref m0], M1)) rfl rfl rfl ?_
          refine pr_ref (j := 29) (S' := (113, [(0, .ref m0), (1, .int t), (4, .int (nI s)), (5, .int (nI d)), (6, .int (nI i))], [.ref (q 29)], M1)) rfl hR1 rfl rfl ?_
          refine ps_st (S' := (115, [(0, .ref m0), (1, .int t), (4, .int (nI s)), (5, .int (nI d)), (6, .int (nI i))], [.int (nI i), .ref (q 29)], M1)) rfl rfl rfl ?_
          refine pr_ld (a := 29) (j := i) (y := (nI d9)) (S' := (116, [(0, .ref m0), (1, .int t), (4, .int (nI s)), (5, .int (nI d)), (6, .int (nI i))], [.int (nI d9)], M1)) rfl hR1 rfl (by omega) (fun _ => g2) rfl (fun i1_115 => ?_)
          refine ps_st (S' := (118, [(0, .ref m0), (1, .int t), (4, .int (nI s)), (5, .int (nI d)), (6, .int (nI i))], [.int (nI d), .int (nI d9)], M1)) rfl rfl rfl ?_
          refine ps_if2 (S1 := (124, [(0, .ref m0), (1, .int t), (4, .int (nI s)), (5, .int (nI d)), (6, .int (nI i))], [], M1)) (S2 := (121, [(0, .ref m0), (1, .int t), (4, .int (nI s)), (5, .int (nI d)), (6, .int (nI i))], [], M1)) rfl rfl rfl (fun c_118 => ?_) (fun c_118 => ?_)
          · have c_118 : ¬ (nI d9) = (nI d) := of_decide_eq_true c_118
            have n_118 : ¬ (d9 = d) := fun h9 => c_118 ((eq_nI (p := d9) (n := d) (by omega) (by omega)).mpr h9)
            refine ps_st (S' := (127, [(6, .int ((nI i) + 1)), (0, .ref m0), (1, .int t), (4, .int (nI s)), (5, .int (nI d))], [], M1)) rfl rfl rfl ?_
            rw [nI_add1 (p := i) (k := 1) (x := 1) rfl (by omega)]
            show pl _ _ _ (_, [(6, .int (nI (i + 1))), (0, .ref m0), (1, .int t), (4, .int (nI s)), (5, .int (nI d))], [], M1) _
            refine ps_st (S' := (49, [(0, .ref m0), (1, .int t), (4, .int (nI s)), (5, .int (nI d)), (6, .int (nI (i + 1)))], [], M1)) rfl rfl rfl ?_
            exact ih (s) (d) (i + 1) M1 I1 R1 hR1 hEI1 hER1 hl0 hl25 hY1 hN91 (hs) (hd) (by omega) (by
                rw [← hm, smeS_st (i := i) (by omega), if_neg (by omega)])
          · have c_118 : ¬ (¬ (nI d9) = (nI d)) := of_decide_eq_false c_118
            have n_118 : d9 = d := (eq_nI (p := d9) (n := d) (by omega) (by omega)).mp (Decidable.not_not.mp c_118)
            refine ps_st (S' := (123, [(0, .ref m0), (1, .int t), (4, .int (nI s)), (5, .int (nI d)), (6, .int (nI i))], [.int (nI i)], M1)) rfl rfl rfl ?_
            exact ps_reti rfl (⟨I1, R1, by
                rw [← hm, smeS_st (i := i) (by omega), if_pos (by omega)]
                rfl, hR1, hEI1, hER1, hl0⟩)
  refine ps_st (S' := (1, [(0, .ref m0), (1, .int t), (2, .int (nI x)), (3, .int (nI y))], [.ref m0], M)) rfl rfl rfl ?_
  refine ps_st (S' := (2, [(0, .ref m0), (1, .int t), (2, .int (nI x)), (3, .int (nI y))], [.int 0, .ref m0], M)) rfl rfl rfl ?_
  refine pr_put (j := 0) rfl hR rfl (fun M1 I2 hR3 hi4 hI5 => ?_)
  have hi6 := (hI5 18 (by decide)).trans hi18
  have hi7 := (hI5 51 (by decide)).trans hi51
  have hi8 := (hI5 52 (by decide)).trans hi52
  have hi9 := (hI5 53 (by decide)).trans hi53
  have hi10 := (hI5 25 (by decide)).trans hi25
  have hF_11 := hF.mono (pIx hI5 (by decide)) (fun _ _ => rfl)
  have hY_12 := hY.mono (pIx hI5 (by decide)) (fun _ _ => rfl)
  have hP_13 := hP.mono (pIx hI5 (by decide)) (fun _ _ => rfl)
  have hN9_14 := hN9.mono (pIx hI5 (by decide)) (fun _ _ => rfl)
  have hEI15 := hEI.put hI5 (by decide)
  show pl _ _ _ (5, [(0, .ref m0), (1, .int t), (2, .int (nI x)), (3, .int (nI y))], [], M1) _
  refine ps_st (S' := (6, [(0, .ref m0), (1, .int t), (2, .int (nI x)), (3, .int (nI y))], [.ref m0], M1)) rfl rfl rfl ?_
  refine pr_int (j := 18) (S' := (9, [(0, .ref m0), (1, .int t), (2, .int (nI x)), (3, .int (nI y))], [.int (nI n2)], M1)) rfl hR3 rfl hi6 rfl ?_
  refine ps_if (S1 := (30, [], [], M1)) (S2 := (12, [(0, .ref m0), (1, .int t), (2, .int (nI x)), (3, .int (nI y))], [], M1)) rfl rfl rfl (fun c_9 => ?_) (fun c_9 => ?_)
  · exact absurd (of_decide_eq_true c_9) (show ¬ ((nI n2) < 0) from fun h9 => absurd ((lt_nI (p := n2) (n := 0) (by omega) (by decide)).mp h9) (by omega))
  refine ps_st (S' := (13, [(0, .ref m0), (1, .int t), (2, .int (nI x)), (3, .int (nI y))], [.ref m0], M1)) rfl rfl rfl ?_
  refine ps_st (S' := (14, [(0, .ref m0), (1, .int t), (2, .int (nI x)), (3, .int (nI y))], [.int (nI x), .ref m0], M1)) rfl rfl rfl ?_
  refine pl_call (a := [.ref m0, .int (nI x)]) (rest := []) rfl rfl rfl (rd_tag (n := n) (f := f) (tx := tx) (cN := cN) (A := A) (N := N) (mj := mj) (E := E) (k := x) hR3 hi7 hi8 hi9 hF_11 hY_12 hP_13 (hEP) (hN) (hmj) (by omega)) (fun v16 M17 q18 => ?_)
  obtain ⟨rfl, rfl⟩ := q18
  show pl _ _ _ (17, [(0, .ref m0), (1, .int t), (2, .int (nI x)), (3, .int (nI y))], [.int (nI (tg f E x))], M1) _
  have htg_14 := tg_lt f E x
  refine ps_st (S' := (18, [(0, .ref m0), (1, .int t), (2, .int (nI x)), (3, .int (nI y))], [.int 1, .int (nI (tg f E x))], M1)) rfl rfl rfl ?_
  refine ps_if2 (S1 := (30, [], [], M1)) (S2 := (21, [(0, .ref m0), (1, .int t), (2, .int (nI x)), (3, .int (nI y))], [], M1)) rfl rfl rfl (fun c_18 => ?_) (fun c_18 => ?_)
  · exact absurd (of_decide_eq_true c_18) (fun h9 => h9 (by rw [hx1]; rfl))
  refine ps_st (S' := (22, [(0, .ref m0), (1, .int t), (2, .int (nI x)), (3, .int (nI y))], [.ref m0], M1)) rfl rfl rfl ?_
  refine ps_st (S' := (23, [(0, .ref m0), (1, .int t), (2, .int (nI x)), (3, .int (nI y))], [.int (nI y), .ref m0], M1)) rfl rfl rfl ?_
  refine pl_call (a := [.ref m0, .int (nI y)]) (rest := []) rfl rfl rfl (rd_tag (n := n) (f := f) (tx := tx) (cN := cN) (A := A) (N := N) (mj := mj) (E := E) (k := y) hR3 hi7 hi8 hi9 hF_11 hY_12 hP_13 (hEP) (hN) (hmj) (by omega)) (fun v19 M20 q21 => ?_)
  obtain ⟨rfl, rfl⟩ := q21
  show pl _ _ _ (26, [(0, .ref m0), (1, .int t), (2, .int (nI x)), (3, .int (nI y))], [.int (nI (tg f E y))], M1) _
  have htg_23 := tg_lt f E y
  refine ps_st (S' := (27, [(0, .ref m0), (1, .int t), (2, .int (nI x)), (3, .int (nI y))], [.int 1, .int (nI (tg f E y))], M1)) rfl rfl rfl ?_
  refine ps_if2 (S1 := (32, [(0, .ref m0), (1, .int t), (2, .int (nI x)), (3, .int (nI y))], [], M1)) (S2 := (30, [], [], M1)) rfl rfl rfl (fun c_27 => ?_) (fun c_27 => ?_)
  rotate_left
  · exact absurd (by rw [hy1]; rfl) (of_decide_eq_false c_27)
  refine ps_st (S' := (33, [(0, .ref m0), (1, .int t), (2, .int (nI x)), (3, .int (nI y))], [.ref m0], M1)) rfl rfl rfl ?_
  refine ps_st (S' := (34, [(0, .ref m0), (1, .int t), (2, .int (nI x)), (3, .int (nI y))], [.int (nI x), .ref m0], M1)) rfl rfl rfl ?_
  refine pl_call (a := [.ref m0, .int (nI x)]) (rest := []) rfl rfl rfl (rd_symOf (n := n) (f := f) (tx := tx) (cN := cN) (A := A) (N := N) (mj := mj) (E := E) (k := x) hR3 hi7 hi8 hi9 hF_11 hY_12 hP_13 (hEP) (hN) (hmj) (by omega)) (fun v22 M23 q24 => ?_)
  obtain ⟨s25, q34_s, rfl, rfl⟩ := q24
  show pl _ _ _ (37, [(0, .ref m0), (1, .int t), (2, .int (nI x)), (3, .int (nI y))], [.int (nI s25)], M1) _
  have hsl_34 := q34_s.1
  have htl_34 := hY_12.1.2.2.1
  refine ps_st (S' := (39, [(4, .int (nI s25)), (0, .ref m0), (1, .int t), (2, .int (nI x)), (3, .int (nI y))], [], M1)) rfl rfl rfl ?_
  refine ps_st (S' := (40, [(4, .int (nI s25)), (0, .ref m0), (1, .int t), (2, .int (nI x)), (3, .int (nI y))], [.ref m0], M1)) rfl rfl rfl ?_
  refine ps_st (S' := (41, [(4, .int (nI s25)), (0, .ref m0), (1, .int t), (2, .int (nI x)), (3, .int (nI y))], [.int (nI y), .ref m0], M1)) rfl rfl rfl ?_
  refine pl_call (a := [.ref m0, .int (nI y)]) (rest := []) rfl rfl rfl (rd_symOf (n := n) (f := f) (tx := tx) (cN := cN) (A := A) (N := N) (mj := mj) (E := E) (k := y) hR3 hi7 hi8 hi9 hF_11 hY_12 hP_13 (hEP) (hN) (hmj) (by omega)) (fun v26 M27 q28 => ?_)
  obtain ⟨s29, q41_s, rfl, rfl⟩ := q28
  show pl _ _ _ (44, [(4, .int (nI s25)), (0, .ref m0), (1, .int t), (2, .int (nI x)), (3, .int (nI y))], [.int (nI s29)], M1) _
  have hsl_41 := q41_s.1
  have htl_41 := hY_12.1.2.2.1
  refine ps_st (S' := (46, [(5, .int (nI s29)), (4, .int (nI s25)), (0, .ref m0), (1, .int t), (2, .int (nI x)), (3, .int (nI y))], [], M1)) rfl rfl rfl ?_
  refine ps_st (S' := (47, [(5, .int (nI s29)), (4, .int (nI s25)), (0, .ref m0), (1, .int t), (2, .int (nI x)), (3, .int (nI y))], [.int 0], M1)) rfl rfl rfl ?_
  refine ps_st (S' := (49, [(0, .ref m0), (1, .int t), (4, .int (nI s25)), (5, .int (nI s29)), (6, .int 0)], [], M1)) rfl rfl rfl ?_
  exact (LL kf) (s25) (s29) (0) M1 I2 R hR3 hEI15 hER hi4 hi10 hY_12 hN9_14 (q34_s) (q41_s) (by omega) (rfl)
set_option maxHeartbeats 1000000 in
theorem rd_findM {g : xe_G} {m0 : Nat} {q : Nat → Nat} {z : Nat × Nat} {I : rI} {R : rR} {M : mi_H} {n : Nat} {f : Nat → Int32} {tx : List (List Nat)} {cN : Nat} {A : Nat → Nat} {N mj : Nat} {E : List (Nat × Nat)} {n2 : Nat} {t : Int32} {x y : Nat} {B : List Nat} (hR : RS g m0 q z I R M) (hi18 : I 18 = some (nI n2)) (hi51 : I 51 = some 0) (hi52 : I 52 = some (nI N)) (hi53 : I 53 = some (nI mj)) (hi26 : I 26 = some (nI B.length)) (hF : FK n f I R) (hY : SYT tx cN A I R) (hP : RPV f n E tx N I R) (hN9 : FN 35 36 f n E tx B 0 B.length I R) (hEP : EP f n E) (hN : N < 65536) (hmj : mj < 65536) (hn2 : n2 ≤ 65540) (hx : x < 65536) (hy : y < 65536) (hx1 : tg f E x = 1) (hy1 : tg f E y = 1) (hBl : B.length < 65536) (ht : ¬ t = 0) : pt (mT g) 207 [.ref m0, .int t, .int (nI x), .int (nI y)] M (fun v M' => (∃  (I' : rI) (R' : rR), v = some (.int (smI (smeS f n E B x y B.length 0))) ∧ RS g m0 q z I' R' M' ∧ eqI [0] I I' ∧ eqR [] R R' ∧ I' 0 = some 0)) := by
  refine pt_in (b := mb_207 g) rfl (fun kf => ?_)
  show pl (mT g) kf (mb_207 g).2 (0, [(0, .ref m0), (1, .int t), (2, .int (nI x)), (3, .int (nI y))], [], M) _
  have hEI : eqI [0] I I := eqI.rf
  have hER : eqR [] R R := eqR.rf
  have hn := hF.1
  have LL : ∀ (kf : Nat), (∀ (s d i : Nat) (M1 : mi_H) (I1 : rI) (R1 : rR), (RS g m0 q z I1 R1 M1) → (eqI [0] I I1) → (eqR [] R R1) → (I1 0 = some 0) → (I1 26 = some (nI B.length)) → (SYT tx cN A I1 R1) → (FN 35 36 f n E tx B 0 B.length I1 R1) → (s < tx.length ∧ tx.getD s [] = tX f n E x) → (d < tx.length ∧ tx.getD d [] = tX f n E y) → (i ≤ B.length) → (smeS f n E B x y (B.length - i) i = smeS f n E B x y B.length 0) →  pl (mT g) kf (mb_207 g).2 (49, [(0, .ref m0), (1, .int t), (4, .int (nI s)), (5, .int (nI d)), (6, .int (nI i))], [], M1) (fun v M' => (∃  (I' : rI) (R' : rR), v = some (.int (smI (smeS f n E B x y B.length 0))) ∧ RS g m0 q z I' R' M' ∧ eqI [0] I I' ∧ eqR [] R R' ∧ I' 0 = some 0))) := by
    intro kf
    induction kf with
    | zero => exact (by intros; exact pl_0)
    | succ kf ih =>
      intro s d i M1 I1 R1 hR1 hEI1 hER1 hl0 hl26 hY1 hN91 hs hd hi hm
      have htl := hY1.1.2.2.1
      have hs7 := hs.1
      have hd7 := hd.1
      refine ps_st1 (S' := (51, [(0, .ref m0), (1, .int t), (4, .int (nI s)), (5, .int (nI d)), (6, .int (nI i))], [.int (nI i)], M1)) rfl rfl rfl ?_
      refine ps_st (S' := (52, [(0, .ref m0), (1, .int t), (4, .int (nI s)), (5, .int (nI d)), (6, .int (nI i))], [.int t, .int (nI i)], M1)) rfl rfl rfl ?_
      refine ps_if (S1 := (62, [(0, .ref m0), (1, .int t), (4, .int (nI s)), (5, .int (nI d)), (6, .int (nI i))], [.int (nI i)], M1)) (S2 := (55, [(0, .ref m0), (1, .int t), (4, .int (nI s)), (5, .int (nI d)), (6, .int (nI i))], [.int (nI i)], M1)) rfl rfl rfl (fun c_52 => ?_) (fun c_52 => ?_)
      · exact absurd (of_decide_eq_true c_52) (ht)
      refine ps_st (S' := (56, [(0, .ref m0), (1, .int t), (4, .int (nI s)), (5, .int (nI d)), (6, .int (nI i))], [.ref m0, .int (nI i)], M1)) rfl rfl rfl ?_
      refine pr_int (j := 26) (S' := (59, [(0, .ref m0), (1, .int t), (4, .int (nI s)), (5, .int (nI d)), (6, .int (nI i))], [.int (nI B.length), .int (nI i)], M1)) rfl hR1 rfl hl26 rfl ?_
      refine ps_st (S' := (66, [(0, .ref m0), (1, .int t), (4, .int (nI s)), (5, .int (nI d)), (6, .int (nI i))], [.int (nI B.length), .int (nI i)], M1)) rfl rfl rfl ?_
      refine ps_if2 (S1 := (130, [(0, .ref m0), (1, .int t), (4, .int (nI s)), (5, .int (nI d)), (6, .int (nI i))], [], M1)) (S2 := (69, [(0, .ref m0), (1, .int t), (4, .int (nI s)), (5, .int (nI d)), (6, .int (nI i))], [], M1)) rfl rfl rfl (fun c_66 => ?_) (fun c_66 => ?_)
      · have c_66 : (nI B.length) ≤ (nI i) := of_decide_eq_true c_66
        have n_66 : B.length ≤ i := (le_nI (p := B.length) (n := i) (by omega) (by omega)).mp c_66
        refine ps_st (S' := (131, [(0, .ref m0), (1, .int t), (4, .int (nI s)), (5, .int (nI d)), (6, .int (nI i))], [.int (-1)], M1)) rfl rfl rfl ?_
        exact ps_ret rfl rfl (⟨I1, R1, by
            rw [← hm, show B.length - i = 0 by omega]
            rfl, hR1, hEI1, hER1, hl0⟩)
      · have c_66 : ¬ ((nI B.length) ≤ (nI i)) := of_decide_eq_false c_66
        have n_66 : ¬ (B.length ≤ i) := fun h9 => c_66 ((le_nI (p := B.length) (n := i) (by omega) (by omega)).mpr h9)
        obtain ⟨a9, d9, g1, g2, g3, g4, g5, g6⟩ := hN91 i (by omega)
        rw [Nat.zero_add] at g1 g2
        have g7 := g3.1
        have g8 := g4.1
        have sm1 := sm_sym (k := by2 f (B.getD i 0 + 2)) (m := x) hY1 g3 hs g5 hx1
        have sm2 := sm_sym (k := by2 f (B.getD i 0 + 4)) (m := y) hY1 g4 hd g6 hy1
        refine ps_st (S' := (70, [(0, .ref m0), (1, .int t), (4, .int (nI s)), (5, .int (nI d)), (6, .int (nI i))], [.int t], M1)) rfl rfl rfl ?_
        refine ps_if (S1 := (83, [(0, .ref m0), (1, .int t), (4, .int (nI s)), (5, .int (nI d)), (6, .int (nI i))], [], M1)) (S2 := (73, [(0, .ref m0), (1, .int t), (4, .int (nI s)), (5, .int (nI d)), (6, .int (nI i))], [], M1)) rfl rfl rfl (fun c_70 => ?_) (fun c_70 => ?_)
        · exact absurd (of_decide_eq_true c_70) (ht)
        refine ps_st (S' := (74, [(0, .ref m0), (1, .int t), (4, .int (nI s)), (5, .int (nI d)), (6, .int (nI i))], [.ref m0], M1)) rfl rfl rfl ?_
        refine pr_ref (j := 35) (S' := (77, [(0, .ref m0), (1, .int t), (4, .int (nI s)), (5, .int (nI d)), (6, .int (nI i))], [.ref (q 35)], M1)) rfl hR1 rfl rfl ?_
        refine ps_st (S' := (79, [(0, .ref m0), (1, .int t), (4, .int (nI s)), (5, .int (nI d)), (6, .int (nI i))], [.int (nI i), .ref (q 35)], M1)) rfl rfl rfl ?_
        refine pr_ld (a := 35) (j := i) (y := (nI a9)) (S' := (80, [(0, .ref m0), (1, .int t), (4, .int (nI s)), (5, .int (nI d)), (6, .int (nI i))], [.int (nI a9)], M1)) rfl hR1 rfl (by omega) (fun _ => g1) rfl (fun i1_79 => ?_)
        refine ps_st (S' := (90, [(0, .ref m0), (1, .int t), (4, .int (nI s)), (5, .int (nI d)), (6, .int (nI i))], [.int (nI a9)], M1)) rfl rfl rfl ?_
        refine ps_st (S' := (92, [(0, .ref m0), (1, .int t), (4, .int (nI s)), (5, .int (nI d)), (6, .int (nI i))], [.int (nI s), .int (nI a9)], M1)) rfl rfl rfl ?_
        refine ps_if2 (S1 := (124, [(0, .ref m0), (1, .int t), (4, .int (nI s)), (5, .int (nI d)), (6, .int (nI i))], [], M1)) (S2 := (95, [(0, .ref m0), (1, .int t), (4, .int (nI s)), (5, .int (nI d)), (6, .int (nI i))], [], M1)) rfl rfl rfl (fun c_92 => ?_) (fun c_92 => ?_)
        · have c_92 : ¬ (nI a9) = (nI s) := of_decide_eq_true c_92
          have n_92 : ¬ (a9 = s) := fun h9 => c_92 ((eq_nI (p := a9) (n := s) (by omega) (by omega)).mpr h9)
          refine ps_st (S' := (127, [(6, .int ((nI i) + 1)), (0, .ref m0), (1, .int t), (4, .int (nI s)), (5, .int (nI d))], [], M1)) rfl rfl rfl ?_
          rw [nI_add1 (p := i) (k := 1) (x := 1) rfl (by omega)]
          show pl _ _ _ (_, [(6, .int (nI (i + 1))), (0, .ref m0), (1, .int t), (4, .int (nI s)), (5, .int (nI d))], [], M1) _
          refine ps_st (S' := (49, [(0, .ref m0), (1, .int t), (4, .int (nI s)), (5, .int (nI d)), (6, .int (nI (i + 1)))], [], M1)) rfl rfl rfl ?_
          exact ih (s) (d) (i + 1) M1 I1 R1 hR1 hEI1 hER1 hl0 hl26 hY1 hN91 (hs) (hd) (by omega) (by
              rw [← hm, smeS_st (i := i) (by omega), if_neg (by omega)])
        · have c_92 : ¬ (¬ (nI a9) = (nI s)) := of_decide_eq_false c_92
          have n_92 : a9 = s := (eq_nI (p := a9) (n := s) (by omega) (by omega)).mp (Decidable.not_not.mp c_92)
          refine ps_st (S' := (96, [(0, .ref m0), (1, .int t), (4, .int (nI s)), (5, .int (nI d)), (6, .int (nI i))], [.int t], M1)) rfl rfl rfl ?_
          refine ps_if (S1 := (109, [(0, .ref m0), (1, .int t), (4, .int (nI s)), (5, .int (nI d)), (6, .int (nI i))], [], M1)) (S2 := (99, [(0, .ref m0), (1, .int t), (4, .int (nI s)), (5, .int (nI d)), (6, .int (nI i))], [], M1)) rfl rfl rfl (fun c_96 => ?_) (fun c_96 => ?_)
          · exact absurd (of_decide_eq_true c_96) (ht)
          refine ps_st (S' := (100, [(0, .ref m0), (1, .int t), (4, .int (nI s)), (5, .int (nI d)), (6, .int (nI i))], [.ref m0], M1)) rfl rfl rfl ?_
          refine pr_ref (j := 36) (S' := (103, [(0, .ref m0), (1, .int t), (4, .int (nI s)), (5, .int (nI d)), (6, .int (nI i))], [.ref (q 36)], M1)) rfl hR1 rfl rfl ?_
          refine ps_st (S' := (105, [(0, .ref m0), (1, .int t), (4, .int (nI s)), (5, .int (nI d)), (6, .int (nI i))], [.int (nI i), .ref (q 36)], M1)) rfl rfl rfl ?_
          refine pr_ld (a := 36) (j := i) (y := (nI d9)) (S' := (106, [(0, .ref m0), (1, .int t), (4, .int (nI s)), (5, .int (nI d)), (6, .int (nI i))], [.int (nI d9)], M1)) rfl hR1 rfl (by omega) (fun _ => g2) rfl (fun i1_105 => ?_)
          refine ps_st (S' := (116, [(0, .ref m0), (1, .int t), (4, .int (nI s)), (5, .int (nI d)), (6, .int (nI i))], [.int (nI d9)], M1)) rfl rfl rfl ?_
          refine ps_st (S' := (118, [(0, .ref m0), (1, .int t), (4, .int (nI s)), (5, .int (nI d)), (6, .int (nI i))], [.int (nI d), .int (nI d9)], M1)) rfl rfl rfl ?_
          refine ps_if2 (S1 := (124, [(0, .ref m0), (1, .int t), (4, .int (nI s)), (5, .int (nI d)), (6, .int (nI i))], [], M1)) (S2 := (121, [(0, .ref m0), (1, .int t), (4, .int (nI s)), (5, .int (nI d)), (6, .int (nI i))], [], M1)) rfl rfl rfl (fun c_118 => ?_) (fun c_118 => ?_)
          · have c_118 : ¬ (nI d9) = (nI d) := of_decide_eq_true c_118
            have n_118 : ¬ (d9 = d) := fun h9 => c_118 ((eq_nI (p := d9) (n := d) (by omega) (by omega)).mpr h9)
            refine ps_st (S' := (127, [(6, .int ((nI i) + 1)), (0, .ref m0), (1, .int t), (4, .int (nI s)), (5, .int (nI d))], [], M1)) rfl rfl rfl ?_
            rw [nI_add1 (p := i) (k := 1) (x := 1) rfl (by omega)]
            show pl _ _ _ (_, [(6, .int (nI (i + 1))), (0, .ref m0), (1, .int t), (4, .int (nI s)), (5, .int (nI d))], [], M1) _
            refine ps_st (S' := (49, [(0, .ref m0), (1, .int t), (4, .int (nI s)), (5, .int (nI d)), (6, .int (nI (i + 1)))], [], M1)) rfl rfl rfl ?_
            exact ih (s) (d) (i + 1) M1 I1 R1 hR1 hEI1 hER1 hl0 hl26 hY1 hN91 (hs) (hd) (by omega) (by
                rw [← hm, smeS_st (i := i) (by omega), if_neg (by omega)])
          · have c_118 : ¬ (¬ (nI d9) = (nI d)) := of_decide_eq_false c_118
            have n_118 : d9 = d := (eq_nI (p := d9) (n := d) (by omega) (by omega)).mp (Decidable.not_not.mp c_118)
            refine ps_st (S' := (123, [(0, .ref m0), (1, .int t), (4, .int (nI s)), (5, .int (nI d)), (6, .int (nI i))], [.int (nI i)], M1)) rfl rfl rfl ?_
            exact ps_reti rfl (⟨I1, R1, by
                rw [← hm, smeS_st (i := i) (by omega), if_pos (by omega)]
                rfl, hR1, hEI1, hER1, hl0⟩)
  refine ps_st (S' := (1, [(0, .ref m0), (1, .int t), (2, .int (nI x)), (3, .int (nI y))], [.ref m0], M)) rfl rfl rfl ?_
  refine ps_st (S' := (2, [(0, .ref m0), (1, .int t), (2, .int (nI x)), (3, .int (nI y))], [.int 0, .ref m0], M)) rfl rfl rfl ?_
  refine pr_put (j := 0) rfl hR rfl (fun M1 I2 hR3 hi4 hI5 => ?_)
  have hi6 := (hI5 18 (by decide)).trans hi18
  have hi7 := (hI5 51 (by decide)).trans hi51
  have hi8 := (hI5 52 (by decide)).trans hi52
  have hi9 := (hI5 53 (by decide)).trans hi53
  have hi10 := (hI5 26 (by decide)).trans hi26
  have hF_11 := hF.mono (pIx hI5 (by decide)) (fun _ _ => rfl)
  have hY_12 := hY.mono (pIx hI5 (by decide)) (fun _ _ => rfl)
  have hP_13 := hP.mono (pIx hI5 (by decide)) (fun _ _ => rfl)
  have hN9_14 := hN9.mono (pIx hI5 (by decide)) (fun _ _ => rfl)
  have hEI15 := hEI.put hI5 (by decide)
  show pl _ _ _ (5, [(0, .ref m0), (1, .int t), (2, .int (nI x)), (3, .int (nI y))], [], M1) _
  refine ps_st (S' := (6, [(0, .ref m0), (1, .int t), (2, .int (nI x)), (3, .int (nI y))], [.ref m0], M1)) rfl rfl rfl ?_
  refine pr_int (j := 18) (S' := (9, [(0, .ref m0), (1, .int t), (2, .int (nI x)), (3, .int (nI y))], [.int (nI n2)], M1)) rfl hR3 rfl hi6 rfl ?_
  refine ps_if (S1 := (30, [], [], M1)) (S2 := (12, [(0, .ref m0), (1, .int t), (2, .int (nI x)), (3, .int (nI y))], [], M1)) rfl rfl rfl (fun c_9 => ?_) (fun c_9 => ?_)
  · exact absurd (of_decide_eq_true c_9) (show ¬ ((nI n2) < 0) from fun h9 => absurd ((lt_nI (p := n2) (n := 0) (by omega) (by decide)).mp h9) (by omega))
  refine ps_st (S' := (13, [(0, .ref m0), (1, .int t), (2, .int (nI x)), (3, .int (nI y))], [.ref m0], M1)) rfl rfl rfl ?_
  refine ps_st (S' := (14, [(0, .ref m0), (1, .int t), (2, .int (nI x)), (3, .int (nI y))], [.int (nI x), .ref m0], M1)) rfl rfl rfl ?_
  refine pl_call (a := [.ref m0, .int (nI x)]) (rest := []) rfl rfl rfl (rd_tag (n := n) (f := f) (tx := tx) (cN := cN) (A := A) (N := N) (mj := mj) (E := E) (k := x) hR3 hi7 hi8 hi9 hF_11 hY_12 hP_13 (hEP) (hN) (hmj) (by omega)) (fun v16 M17 q18 => ?_)
  obtain ⟨rfl, rfl⟩ := q18
  show pl _ _ _ (17, [(0, .ref m0), (1, .int t), (2, .int (nI x)), (3, .int (nI y))], [.int (nI (tg f E x))], M1) _
  have htg_14 := tg_lt f E x
  refine ps_st (S' := (18, [(0, .ref m0), (1, .int t), (2, .int (nI x)), (3, .int (nI y))], [.int 1, .int (nI (tg f E x))], M1)) rfl rfl rfl ?_
  refine ps_if2 (S1 := (30, [], [], M1)) (S2 := (21, [(0, .ref m0), (1, .int t), (2, .int (nI x)), (3, .int (nI y))], [], M1)) rfl rfl rfl (fun c_18 => ?_) (fun c_18 => ?_)
  · exact absurd (of_decide_eq_true c_18) (fun h9 => h9 (by rw [hx1]; rfl))
  refine ps_st (S' := (22, [(0, .ref m0), (1, .int t), (2, .int (nI x)), (3, .int (nI y))], [.ref m0], M1)) rfl rfl rfl ?_
  refine ps_st (S' := (23, [(0, .ref m0), (1, .int t), (2, .int (nI x)), (3, .int (nI y))], [.int (nI y), .ref m0], M1)) rfl rfl rfl ?_
  refine pl_call (a := [.ref m0, .int (nI y)]) (rest := []) rfl rfl rfl (rd_tag (n := n) (f := f) (tx := tx) (cN := cN) (A := A) (N := N) (mj := mj) (E := E) (k := y) hR3 hi7 hi8 hi9 hF_11 hY_12 hP_13 (hEP) (hN) (hmj) (by omega)) (fun v19 M20 q21 => ?_)
  obtain ⟨rfl, rfl⟩ := q21
  show pl _ _ _ (26, [(0, .ref m0), (1, .int t), (2, .int (nI x)), (3, .int (nI y))], [.int (nI (tg f E y))], M1) _
  have htg_23 := tg_lt f E y
  refine ps_st (S' := (27, [(0, .ref m0), (1, .int t), (2, .int (nI x)), (3, .int (nI y))], [.int 1, .int (nI (tg f E y))], M1)) rfl rfl rfl ?_
  refine ps_if2 (S1 := (32, [(0, .ref m0), (1, .int t), (2, .int (nI x)), (3, .int (nI y))], [], M1)) (S2 := (30, [], [], M1)) rfl rfl rfl (fun c_27 => ?_) (fun c_27 => ?_)
  rotate_left
  · exact absurd (by rw [hy1]; rfl) (of_decide_eq_false c_27)
  refine ps_st (S' := (33, [(0, .ref m0), (1, .int t), (2, .int (nI x)), (3, .int (nI y))], [.ref m0], M1)) rfl rfl rfl ?_
  refine ps_st (S' := (34, [(0, .ref m0), (1, .int t), (2, .int (nI x)), (3, .int (nI y))], [.int (nI x), .ref m0], M1)) rfl rfl rfl ?_
  refine pl_call (a := [.ref m0, .int (nI x)]) (rest := []) rfl rfl rfl (rd_symOf (n := n) (f := f) (tx := tx) (cN := cN) (A := A) (N := N) (mj := mj) (E := E) (k := x) hR3 hi7 hi8 hi9 hF_11 hY_12 hP_13 (hEP) (hN) (hmj) (by omega)) (fun v22 M23 q24 => ?_)
  obtain ⟨s25, q34_s, rfl, rfl⟩ := q24
  show pl _ _ _ (37, [(0, .ref m0), (1, .int t), (2, .int (nI x)), (3, .int (nI y))], [.int (nI s25)], M1) _
  have hsl_34 := q34_s.1
  have htl_34 := hY_12.1.2.2.1
  refine ps_st (S' := (39, [(4, .int (nI s25)), (0, .ref m0), (1, .int t), (2, .int (nI x)), (3, .int (nI y))], [], M1)) rfl rfl rfl ?_
  refine ps_st (S' := (40, [(4, .int (nI s25)), (0, .ref m0), (1, .int t), (2, .int (nI x)), (3, .int (nI y))], [.ref m0], M1)) rfl rfl rfl ?_
  refine ps_st (S' := (41, [(4, .int (nI s25)), (0, .ref m0), (1, .int t), (2, .int (nI x)), (3, .int (nI y))], [.int (nI y), .ref m0], M1)) rfl rfl rfl ?_
  refine pl_call (a := [.ref m0, .int (nI y)]) (rest := []) rfl rfl rfl (rd_symOf (n := n) (f := f) (tx := tx) (cN := cN) (A := A) (N := N) (mj := mj) (E := E) (k := y) hR3 hi7 hi8 hi9 hF_11 hY_12 hP_13 (hEP) (hN) (hmj) (by omega)) (fun v26 M27 q28 => ?_)
  obtain ⟨s29, q41_s, rfl, rfl⟩ := q28
  show pl _ _ _ (44, [(4, .int (nI s25)), (0, .ref m0), (1, .int t), (2, .int (nI x)), (3, .int (nI y))], [.int (nI s29)], M1) _
  have hsl_41 := q41_s.1
  have htl_41 := hY_12.1.2.2.1
  refine ps_st (S' := (46, [(5, .int (nI s29)), (4, .int (nI s25)), (0, .ref m0), (1, .int t), (2, .int (nI x)), (3, .int (nI y))], [], M1)) rfl rfl rfl ?_
  refine ps_st (S' := (47, [(5, .int (nI s29)), (4, .int (nI s25)), (0, .ref m0), (1, .int t), (2, .int (nI x)), (3, .int (nI y))], [.int 0], M1)) rfl rfl rfl ?_
  refine ps_st (S' := (49, [(0, .ref m0), (1, .int t), (4, .int (nI s25)), (5, .int (nI s29)), (6, .int 0)], [], M1)) rfl rfl rfl ?_
  exact (LL kf) (s25) (s29) (0) M1 I2 R hR3 hEI15 hER hi4 hi10 hY_12 hN9_14 (q34_s) (q41_s) (by omega) (rfl)
theorem rd_find {g : xe_G} {m0 : Nat} {q : Nat → Nat} {z : Nat × Nat} {I : rI} {R : rR} {M : mi_H} {ko : Option (Nat × (Nat → Int32))} {t x y : Int32} (hR : RS g m0 q z I R M) (hK : KPR ko I R) : pt (mT g) 207 [.ref m0, .int t, .int x, .int y] M (fun v M' => ∃ (I' : rI) (R' : rR), v = some (.int (fdK ko t x y)) ∧ RS g m0 q z I' R' M' ∧ eqI [0] I I' ∧ eqR [] R R' ∧ I' 0 = some 0) := by
  cases ko with
  | none =>
    obtain ⟨kn, h1, h2⟩ := hK
    exact rd_find0 hR h1 h2
  | some r =>
    obtain ⟨h1, h2, -, -, tx, cN, A, E, N, mj, p1, pF, pM, pA, k1, k2, k3, k4, k5, k6, k7, rfl, rfl, m1, m2, m3, m4, m5, m6, -⟩ := hK
    rw [fdK_is k7]
    have hN := by2_lt r.2 8
    have hpl := whole_in k7
    have hEP := (EP_of hpl).1
    have h0 := tg_0 hpl
    unfold fdI
    by_cases hx1 : tg r.2 E x.toNatClampNeg = 1
    · by_cases hy1 : tg r.2 E y.toNatClampNeg = 1
      · rw [if_pos ⟨hx1, hy1⟩]
        have hlo : ∀ j, by2 r.2 8 ≤ j → tg r.2 E j = 0 := fun j hj => by
          unfold tg
          rw [lk_hi k3.1 (Or.inr hj)]
        obtain ⟨ex, lx⟩ := tg_nn (by omega) hlo h0 hx1
        obtain ⟨ey, ly⟩ := tg_nn (by omega) hlo h0 hy1
        obtain ⟨i, ei⟩ : ∃ i, i = x.toNatClampNeg := ⟨_, rfl⟩
        obtain ⟨j, ej⟩ : ∃ j, j = y.toNatClampNeg := ⟨_, rfl⟩
        rw [← ei] at ex lx hx1 ⊢
        rw [← ej] at ey ly hy1 ⊢
        subst ex
        subst ey
        by_cases ht : t = 0
        · rw [if_pos ht]
          exact rd_findF hR h1 k4 k5 k6 m1 k1 k2 k3 m3 hEP hN (by2_lt _ _) h2 lx ly hx1 hy1 (mbs_len m5) ht
        · rw [if_neg ht]
          exact rd_findM hR h1 k4 k5 k6 m2 k1 k2 k3 m4 hEP hN (by2_lt _ _) h2 lx ly hx1 hy1 (mbs_len m6) ht
      · rw [if_neg (fun q => hy1 q.2)]
        exact rd_findB hR h1 k4 k5 k6 k1 k2 k3 hEP hN (by2_lt _ _) h2 h0 hx1 hy1
    · rw [if_neg (fun q => hx1 q.1)]
      exact rd_findA hR h1 k4 k5 k6 k1 k2 k3 hEP hN (by2_lt _ _) h2 h0 hx1
end
section
/-! a bootstrap's parts, as both sides tell them (my own text) -/
section BSA
variable {f : Nat → Int32} {n : Nat} {E : List (Nat × Nat)}
/-- where the bootstrap number i is -/
def bsP (f : Nat → Int32) : Nat → Nat → Nat
  | 0, p => p
  | i + 1, p => bsP f i (p + 4 + 2 * by2 f (p + 2))
theorem bsP_st {c i p : Nat} (h : i < c) : bsP f (c - i) p = bsP f (c - (i + 1)) (p + 4 + 2 * by2 f (p + 2)) := by
  rw [show c - i = (c - (i + 1)) + 1 by omega]
  rfl
def bsV (f : Nat → Int32) (p u : Nat) : Int32 := if u = 0 then nI (by2 f p) else nI (by2 f (p + 2 + 2 * u))
def bsI (f : Nat → Int32) (bc bp : Nat) (i t : Int32) : Int32 := if i < 0 ∨ nI bc ≤ i then -1 else if t < 0 ∨ nI (by2 f (bsP f i.toNatClampNeg bp + 2)) < t then -1 else bsV f (bsP f i.toNatClampNeg bp) t.toNatClampNeg
/-- what is kept tells it -/
def bsK (ko : Option (Nat × (Nat → Int32))) (i t : Int32) : Int32 := match ko with
  | none => -1
  | some r => match s_whole r.2 r.1 with
    | .inl _ => -1
    | .inr w => match clS r.2 r.1 w.1 (by2 r.2 w.2.1) (by2 r.2 6) (by2 r.2 w.2.2.2.2) (w.2.2.2.2 + 2) 0 0 with
      | .inl _ => -1
      | .inr bc => bsI r.2 bc (clU r.2 r.1 w.1 (by2 r.2 6) (by2 r.2 w.2.2.2.2) (w.2.2.2.2 + 2) (0, 0, 0, 0, 0, -1)).2.1 i t
theorem bsK_is {r : Nat × (Nat → Int32)} {i t : Int32} {p1 pF pM pA bc : Nat} {K : KT} (h : s_whole r.2 r.1 = .inr (E, p1, pF, pM, pA)) (hB : clS r.2 r.1 E (by2 r.2 p1) (by2 r.2 6) (by2 r.2 pA) (pA + 2) 0 0 = .inr bc) (hU : clU r.2 r.1 E (by2 r.2 6) (by2 r.2 pA) (pA + 2) (0, 0, 0, 0, 0, -1) = K) : bsK (some r) i t = bsI r.2 bc K.2.1 i t := by
  show (match s_whole r.2 r.1 with | .inl _ => (-1 : Int32) | .inr w => match clS r.2 r.1 w.1 (by2 r.2 w.2.1) (by2 r.2 6) (by2 r.2 w.2.2.2.2) (w.2.2.2.2 + 2) 0 0 with | .inl _ => (-1 : Int32) | .inr bc => bsI r.2 bc (clU r.2 r.1 w.1 (by2 r.2 6) (by2 r.2 w.2.2.2.2) (w.2.2.2.2 + 2) (0, 0, 0, 0, 0, -1)).2.1 i t) = _
  rw [h]
  dsimp only
  rw [hB]
  dsimp only
  rw [hU]
/-- bootstraps lie well in the file -/
theorem cl_boot {x mj : Nat} : ∀ {c p s b b' e0 : Nat} {K : KT}, s_atts f n c p = .inr e0 → (b = 0 ∨ (8 ≤ K.2.1 ∧ ∃ e, e ≤ n ∧ s_bsE f e b K.2.1 = some e)) → clS f n E x mj c p s b = .inr b' → (b' = 0 ∨ (8 ≤ (clU f n E mj c p K).2.1 ∧ ∃ e, e ≤ n ∧ s_bsE f e b' (clU f n E mj c p K).2.1 = some e)) := by
  intro c
  induction c with
  | zero => intro p s b b' e0 K _ hb h; cases h; exact hb
  | succ c ih =>
    intro p s b b' e0 K ha hb h
    unfold s_atts at ha
    split at ha
    · cases ha
    · split at ha
      · cases ha
      · split at ha
        · cases ha
        · rename_i hn3
          unfold clS at h
          split at h
          · cases h
          · split at h
            · cases h
            · rename_i hfe
              split at h
              · cases h
              · cases h
              · refine ih (K := stU f (ckN f n E mj (by2 f p)) p K) ha ?_ h
                by_cases hk : ckN f n E mj (by2 f p) = 6
                · refine Or.inr ⟨by rw [show (stU f (ckN f n E mj (by2 f p)) p K).2.1 = p + 8 from if_pos hk]; omega, p + 6 + by4 f (p + 2), by omega, ?_⟩
                  have h1 : s_fe f (ckN f n E mj (by2 f p)) (p + 6) (p + 6 + by4 f (p + 2)) = some (p + 6 + by4 f (p + 2)) := Decidable.byContradiction (fun q => hfe ⟨by omega, q⟩)
                  rw [if_pos hk, show (stU f (ckN f n E mj (by2 f p)) p K).2.1 = p + 8 from if_pos hk]
                  exact (s_fe_in h1).2.2.2.2.1 hk
                · rw [if_neg hk, show (stU f (ckN f n E mj (by2 f p)) p K).2.1 = K.2.1 from if_neg hk]
                  exact hb
theorem cl_bt {x mj pA bc : Nat} {K : KT} (ha : s_attributes f n pA = .inr n) (hB : clS f n E x mj (by2 f pA) (pA + 2) 0 0 = .inr bc) (hU : clU f n E mj (by2 f pA) (pA + 2) (0, 0, 0, 0, 0, -1) = K) : bc = 0 ∨ (8 ≤ K.2.1 ∧ ∃ e, e ≤ n ∧ s_bsE f e bc K.2.1 = some e) := by
  rw [← hU]
  unfold s_attributes at ha
  split at ha
  · cases ha
  · exact cl_boot ha (Or.inl rfl) hB
end BSA
set_option maxHeartbeats 1000000 in
theorem dk_bsN {g : xe_G} {M : mi_H} {f : Nat → Int32} {n q c b da fr mr bc bp : Nat} {u2 u3 u4 u5 x8 x9 x10 x13 x14 x15 x16 : Int32} {i t : Int32} (h_c : M.1 c = some (ob 3 [.ref b, .ref q, .int u2, .int u3, .int u4, .int u5, .ref fr, .ref mr, .int x8, .int x9, .int x10, .int (nI bc), .int (nI bp), .int x13, .int x14, .int x15, .int x16])) (hi : i < 0 ∨ nI bc ≤ i) : pt (mT g) 70 [.ref c, .int i, .int t] M (fun v M' => (v = some (.int (-1)) ∧ M = M')) := by
  refine pt_in (b := mb_70 g) rfl (fun kf => ?_)
  show pl (mT g) kf (mb_70 g).2 (0, [(0, .ref c), (1, .int i), (2, .int t)], [], M) _
  refine ps_st (S' := (1, [(0, .ref c), (1, .int i), (2, .int t)], [.int i], M)) rfl rfl rfl ?_
  refine ps_if (S1 := (12, [], [], M)) (S2 := (4, [(0, .ref c), (1, .int i), (2, .int t)], [], M)) rfl rfl rfl (fun c_1 => ?_) (fun c_1 => ?_)
  · have c_1 : i < 0 := of_decide_eq_true c_1
    refine ps_st (S' := (13, [], [.int (-1)], M)) rfl rfl rfl ?_
    exact ps_ret rfl rfl (⟨rfl, rfl⟩)
  · have c_1 : ¬ (i < 0) := of_decide_eq_false c_1
    refine ps_st (S' := (5, [(0, .ref c), (1, .int i), (2, .int t)], [.int i], M)) rfl rfl rfl ?_
    refine ps_st (S' := (6, [(0, .ref c), (1, .int i), (2, .int t)], [.ref c, .int i], M)) rfl rfl rfl ?_
    refine ps_get (S' := (9, [(0, .ref c), (1, .int i), (2, .int t)], [.int (nI bc), .int i], M)) rfl h_c rfl rfl ?_
    refine ps_if2 (S1 := (14, [(0, .ref c), (1, .int i), (2, .int t)], [], M)) (S2 := (12, [], [], M)) rfl rfl rfl (fun c_9 => ?_) (fun c_9 => ?_)
    · exact absurd (of_decide_eq_true c_9) (Int32.not_lt.mpr (hi.resolve_left c_1))
    refine ps_st (S' := (13, [], [.int (-1)], M)) rfl rfl rfl ?_
    exact ps_ret rfl rfl (⟨rfl, rfl⟩)
set_option maxHeartbeats 1000000 in
theorem dk_bsB {g : xe_G} {M : mi_H} {f : Nat → Int32} {n q c b da fr mr bc bp : Nat} {u2 u3 u4 u5 x8 x9 x10 x13 x14 x15 x16 : Int32} {j e : Nat} {t : Int32} (h_c : M.1 c = some (ob 3 [.ref b, .ref q, .int u2, .int u3, .int u4, .int u5, .ref fr, .ref mr, .int x8, .int x9, .int x10, .int (nI bc), .int (nI bp), .int x13, .int x14, .int x15, .int x16])) (h_b : M.1 b = some (ob 1 [.ref da])) (h_da : M.1 da = some (ar .byte n f)) (hn : n ≤ 65540) (hbc : bc < 65536) (hj : j < bc) (he : e ≤ n) (hbs : s_bsE f e bc bp = some e) (hb9 : t < 0 ∨ nI (by2 f (bsP f j bp + 2)) < t) : pt (mT g) 70 [.ref c, .int (nI j), .int t] M (fun v M' => (v = some (.int (-1)) ∧ M = M')) := by
  refine pt_in (b := mb_70 g) rfl (fun kf => ?_)
  show pl (mT g) kf (mb_70 g).2 (0, [(0, .ref c), (1, .int (nI j)), (2, .int t)], [], M) _
  have hin8 := s_bsE_in (c := bc) (i := 0) (p := bp) hbs (by omega)
  have LL : ∀ (kf : Nat), (∀ (a p : Nat), (a ≤ j) → (s_bsE f e (bc - a) p = some e) → (bsP f (j - a) p = bsP f j bp) →  pl (mT g) kf (mb_70 g).2 (22, [(0, .ref c), (1, .int (nI j)), (2, .int t), (3, .int (nI p)), (4, .int (nI a))], [], M) (fun v M' => (v = some (.int (-1)) ∧ M = M'))) := by
    intro kf
    induction kf with
    | zero => exact (by intros; exact pl_0)
    | succ kf ih =>
      intro a p ha hf hp
      have hin9 := s_bsE_in (i := a) (p := p) hf (by omega)
      refine ps_st1 (S' := (24, [(0, .ref c), (1, .int (nI j)), (2, .int t), (3, .int (nI p)), (4, .int (nI a))], [.int (nI a)], M)) rfl rfl rfl ?_
      refine ps_st (S' := (25, [(0, .ref c), (1, .int (nI j)), (2, .int t), (3, .int (nI p)), (4, .int (nI a))], [.int (nI j), .int (nI a)], M)) rfl rfl rfl ?_
      refine ps_if2 (S1 := (51, [(0, .ref c), (1, .int (nI j)), (2, .int t), (3, .int (nI p)), (4, .int (nI a))], [], M)) (S2 := (28, [(0, .ref c), (1, .int (nI j)), (2, .int t), (3, .int (nI p)), (4, .int (nI a))], [], M)) rfl rfl rfl (fun c_25 => ?_) (fun c_25 => ?_)
      · have c_25 : (nI j) ≤ (nI a) := of_decide_eq_true c_25
        have n_25 : j ≤ a := (le_nI (p := j) (n := a) (by omega) (by omega)).mp c_25
        have eP : p = bsP f j bp := by rw [← hp, show j - a = 0 by omega]; rfl
        rw [← eP] at hb9
        refine ps_st (S' := (52, [(0, .ref c), (1, .int (nI j)), (2, .int t), (3, .int (nI p)), (4, .int (nI a))], [.int t], M)) rfl rfl rfl ?_
        refine ps_if (S1 := (69, [], [], M)) (S2 := (55, [(0, .ref c), (1, .int (nI j)), (2, .int t), (3, .int (nI p)), (4, .int (nI a))], [], M)) rfl rfl rfl (fun c_52 => ?_) (fun c_52 => ?_)
        · have c_52 : t < 0 := of_decide_eq_true c_52
          refine ps_st (S' := (70, [], [.int (-1)], M)) rfl rfl rfl ?_
          exact ps_ret rfl rfl (⟨rfl, rfl⟩)
        · have c_52 : ¬ (t < 0) := of_decide_eq_false c_52
          refine ps_st (S' := (56, [(0, .ref c), (1, .int (nI j)), (2, .int t), (3, .int (nI p)), (4, .int (nI a))], [.int t], M)) rfl rfl rfl ?_
          refine ps_st (S' := (57, [(0, .ref c), (1, .int (nI j)), (2, .int t), (3, .int (nI p)), (4, .int (nI a))], [.ref c, .int t], M)) rfl rfl rfl ?_
          refine ps_get (S' := (60, [(0, .ref c), (1, .int (nI j)), (2, .int t), (3, .int (nI p)), (4, .int (nI a))], [.ref b, .int t], M)) rfl h_c rfl rfl ?_
          refine ps_st (S' := (61, [(0, .ref c), (1, .int (nI j)), (2, .int t), (3, .int (nI p)), (4, .int (nI a))], [.int (nI p), .ref b, .int t], M)) rfl rfl rfl ?_
          refine ps_st (S' := (62, [(0, .ref c), (1, .int (nI j)), (2, .int t), (3, .int (nI p)), (4, .int (nI a))], [.int 2, .int (nI p), .ref b, .int t], M)) rfl rfl rfl ?_
          refine ps_st (S' := (63, [(0, .ref c), (1, .int (nI j)), (2, .int t), (3, .int (nI p)), (4, .int (nI a))], [.int ((nI p) + 2), .ref b, .int t], M)) rfl rfl rfl ?_
          rw [nI_add1 (p := p) (k := 2) (x := 2) rfl (by omega)]
          show pl _ _ _ (_, [(0, .ref c), (1, .int (nI j)), (2, .int t), (3, .int (nI p)), (4, .int (nI a))], [.int (nI (p + 2)), .ref b, .int t], M) _
          refine pl_call (a := [.ref b, .int (nI (p + 2))]) (rest := [.int t]) rfl rfl rfl (dk_u2 (f := f) (n := n) (b := b) (da := da) (p := (p + 2)) h_b h_da (hn) (by omega)) (fun v1 M2 q3 => ?_)
          obtain ⟨rfl, rfl⟩ := q3
          show pl _ _ _ (66, [(0, .ref c), (1, .int (nI j)), (2, .int t), (3, .int (nI p)), (4, .int (nI a))], [.int (nI (by2 f (p + 2))), .int t], M) _
          have hu_63 := by2_lt f (p + 2)
          refine ps_if2 (S1 := (71, [(0, .ref c), (1, .int (nI j)), (2, .int t), (3, .int (nI p)), (4, .int (nI a))], [], M)) (S2 := (69, [], [], M)) rfl rfl rfl (fun c_66 => ?_) (fun c_66 => ?_)
          · exact absurd (of_decide_eq_true c_66) (Int32.not_le.mpr (hb9.resolve_left c_52))
          refine ps_st (S' := (70, [], [.int (-1)], M)) rfl rfl rfl ?_
          exact ps_ret rfl rfl (⟨rfl, rfl⟩)
      · have c_25 : ¬ ((nI j) ≤ (nI a)) := of_decide_eq_false c_25
        have n_25 : ¬ (j ≤ a) := fun h9 => c_25 ((le_nI (p := j) (n := a) (by omega) (by omega)).mpr h9)
        refine ps_st (S' := (29, [(0, .ref c), (1, .int (nI j)), (2, .int t), (3, .int (nI p)), (4, .int (nI a))], [.int (nI p)], M)) rfl rfl rfl ?_
        refine ps_st (S' := (30, [(0, .ref c), (1, .int (nI j)), (2, .int t), (3, .int (nI p)), (4, .int (nI a))], [.int 4, .int (nI p)], M)) rfl rfl rfl ?_
        refine ps_st (S' := (31, [(0, .ref c), (1, .int (nI j)), (2, .int t), (3, .int (nI p)), (4, .int (nI a))], [.int 2, .int 4, .int (nI p)], M)) rfl rfl rfl ?_
        refine ps_st (S' := (32, [(0, .ref c), (1, .int (nI j)), (2, .int t), (3, .int (nI p)), (4, .int (nI a))], [.ref c, .int 2, .int 4, .int (nI p)], M)) rfl rfl rfl ?_
        refine ps_get (S' := (35, [(0, .ref c), (1, .int (nI j)), (2, .int t), (3, .int (nI p)), (4, .int (nI a))], [.ref b, .int 2, .int 4, .int (nI p)], M)) rfl h_c rfl rfl ?_
        refine ps_st (S' := (36, [(0, .ref c), (1, .int (nI j)), (2, .int t), (3, .int (nI p)), (4, .int (nI a))], [.int (nI p), .ref b, .int 2, .int 4, .int (nI p)], M)) rfl rfl rfl ?_
        refine ps_st (S' := (37, [(0, .ref c), (1, .int (nI j)), (2, .int t), (3, .int (nI p)), (4, .int (nI a))], [.int 2, .int (nI p), .ref b, .int 2, .int 4, .int (nI p)], M)) rfl rfl rfl ?_
        refine ps_st (S' := (38, [(0, .ref c), (1, .int (nI j)), (2, .int t), (3, .int (nI p)), (4, .int (nI a))], [.int ((nI p) + 2), .ref b, .int 2, .int 4, .int (nI p)], M)) rfl rfl rfl ?_
        rw [nI_add1 (p := p) (k := 2) (x := 2) rfl (by omega)]
        show pl _ _ _ (_, [(0, .ref c), (1, .int (nI j)), (2, .int t), (3, .int (nI p)), (4, .int (nI a))], [.int (nI (p + 2)), .ref b, .int 2, .int 4, .int (nI p)], M) _
        refine pl_call (a := [.ref b, .int (nI (p + 2))]) (rest := [.int 2, .int 4, .int (nI p)]) rfl rfl rfl (dk_u2 (f := f) (n := n) (b := b) (da := da) (p := (p + 2)) h_b h_da (hn) (by omega)) (fun v4 M5 q6 => ?_)
        obtain ⟨rfl, rfl⟩ := q6
        show pl _ _ _ (41, [(0, .ref c), (1, .int (nI j)), (2, .int t), (3, .int (nI p)), (4, .int (nI a))], [.int (nI (by2 f (p + 2))), .int 2, .int 4, .int (nI p)], M) _
        have hu_38 := by2_lt f (p + 2)
        refine ps_st (S' := (42, [(0, .ref c), (1, .int (nI j)), (2, .int t), (3, .int (nI p)), (4, .int (nI a))], [.int (2 * (nI (by2 f (p + 2)))), .int 4, .int (nI p)], M)) rfl rfl rfl ?_
        rw [nI_mul1 (p := 2) (k := by2 f (p + 2)) (x := 2) (y := (nI (by2 f (p + 2)))) rfl rfl (by omega)]
        show pl _ _ _ (_, [(0, .ref c), (1, .int (nI j)), (2, .int t), (3, .int (nI p)), (4, .int (nI a))], [.int (nI (2 * (by2 f (p + 2)))), .int 4, .int (nI p)], M) _
        refine ps_st (S' := (43, [(0, .ref c), (1, .int (nI j)), (2, .int t), (3, .int (nI p)), (4, .int (nI a))], [.int (4 + (nI (2 * (by2 f (p + 2))))), .int (nI p)], M)) rfl rfl rfl ?_
        rw [nI_add2 (p := 4) (k := 2 * (by2 f (p + 2))) (x := 4) (y := (nI (2 * (by2 f (p + 2))))) rfl rfl (by omega)]
        show pl _ _ _ (_, [(0, .ref c), (1, .int (nI j)), (2, .int t), (3, .int (nI p)), (4, .int (nI a))], [.int (nI (4 + 2 * (by2 f (p + 2)))), .int (nI p)], M) _
        refine ps_st (S' := (44, [(0, .ref c), (1, .int (nI j)), (2, .int t), (3, .int (nI p)), (4, .int (nI a))], [.int ((nI p) + (nI (4 + 2 * (by2 f (p + 2)))))], M)) rfl rfl rfl ?_
        rw [nI_add1 (p := p) (k := 4 + 2 * (by2 f (p + 2))) (x := (nI (4 + 2 * (by2 f (p + 2))))) rfl (by omega)]
        rw [show nI (p + (4 + 2 * (by2 f (p + 2)))) = nI (p + 4 + 2 * (by2 f (p + 2))) from congrArg nI (by omega)]
        show pl _ _ _ (_, [(0, .ref c), (1, .int (nI j)), (2, .int t), (3, .int (nI p)), (4, .int (nI a))], [.int (nI (p + 4 + 2 * (by2 f (p + 2))))], M) _
        refine ps_st (S' := (45, [(3, .int (nI (p + 4 + 2 * (by2 f (p + 2))))), (0, .ref c), (1, .int (nI j)), (2, .int t), (4, .int (nI a))], [], M)) rfl rfl rfl ?_
        refine ps_st (S' := (48, [(4, .int ((nI a) + 1)), (3, .int (nI (p + 4 + 2 * (by2 f (p + 2))))), (0, .ref c), (1, .int (nI j)), (2, .int t)], [], M)) rfl rfl rfl ?_
        rw [nI_add1 (p := a) (k := 1) (x := 1) rfl (by omega)]
        show pl _ _ _ (_, [(4, .int (nI (a + 1))), (3, .int (nI (p + 4 + 2 * (by2 f (p + 2))))), (0, .ref c), (1, .int (nI j)), (2, .int t)], [], M) _
        refine ps_st (S' := (22, [(0, .ref c), (1, .int (nI j)), (2, .int t), (3, .int (nI (p + 4 + 2 * (by2 f (p + 2))))), (4, .int (nI (a + 1)))], [], M)) rfl rfl rfl ?_
        exact ih (a + 1) (p + 4 + 2 * by2 f (p + 2))  (by omega) (hin9.2.2) (by
            rw [← hp, bsP_st (i := a) (by omega)])
  refine ps_st (S' := (1, [(0, .ref c), (1, .int (nI j)), (2, .int t)], [.int (nI j)], M)) rfl rfl rfl ?_
  refine ps_if (S1 := (12, [], [], M)) (S2 := (4, [(0, .ref c), (1, .int (nI j)), (2, .int t)], [], M)) rfl rfl rfl (fun c_1 => ?_) (fun c_1 => ?_)
  · exact absurd (of_decide_eq_true c_1) (show ¬ ((nI j) < 0) from fun h9 => absurd ((lt_nI (p := j) (n := 0) (by omega) (by decide)).mp h9) (by omega))
  refine ps_st (S' := (5, [(0, .ref c), (1, .int (nI j)), (2, .int t)], [.int (nI j)], M)) rfl rfl rfl ?_
  refine ps_st (S' := (6, [(0, .ref c), (1, .int (nI j)), (2, .int t)], [.ref c, .int (nI j)], M)) rfl rfl rfl ?_
  refine ps_get (S' := (9, [(0, .ref c), (1, .int (nI j)), (2, .int t)], [.int (nI bc), .int (nI j)], M)) rfl h_c rfl rfl ?_
  refine ps_if2 (S1 := (14, [(0, .ref c), (1, .int (nI j)), (2, .int t)], [], M)) (S2 := (12, [], [], M)) rfl rfl rfl (fun c_9 => ?_) (fun c_9 => ?_)
  rotate_left
  · exact absurd ((lt_nI (by omega) (by omega)).mpr hj) (of_decide_eq_false c_9)
  refine ps_st (S' := (15, [(0, .ref c), (1, .int (nI j)), (2, .int t)], [.ref c], M)) rfl rfl rfl ?_
  refine ps_get (S' := (18, [(0, .ref c), (1, .int (nI j)), (2, .int t)], [.int (nI bp)], M)) rfl h_c rfl rfl ?_
  refine ps_st (S' := (19, [(3, .int (nI bp)), (0, .ref c), (1, .int (nI j)), (2, .int t)], [], M)) rfl rfl rfl ?_
  refine ps_st (S' := (20, [(3, .int (nI bp)), (0, .ref c), (1, .int (nI j)), (2, .int t)], [.int 0], M)) rfl rfl rfl ?_
  refine ps_st (S' := (22, [(0, .ref c), (1, .int (nI j)), (2, .int t), (3, .int (nI bp)), (4, .int 0)], [], M)) rfl rfl rfl ?_
  exact (LL kf) (0) (bp)  (by omega) (hbs) (rfl)
set_option maxHeartbeats 1000000 in
theorem dk_bsG {g : xe_G} {M : mi_H} {f : Nat → Int32} {n q c b da fr mr bc bp : Nat} {u2 u3 u4 u5 x8 x9 x10 x13 x14 x15 x16 : Int32} {j e u : Nat} (h_c : M.1 c = some (ob 3 [.ref b, .ref q, .int u2, .int u3, .int u4, .int u5, .ref fr, .ref mr, .int x8, .int x9, .int x10, .int (nI bc), .int (nI bp), .int x13, .int x14, .int x15, .int x16])) (h_b : M.1 b = some (ob 1 [.ref da])) (h_da : M.1 da = some (ar .byte n f)) (hn : n ≤ 65540) (hbc : bc < 65536) (hj : j < bc) (he : e ≤ n) (hbs : s_bsE f e bc bp = some e) (hu : u ≤ by2 f (bsP f j bp + 2)) : pt (mT g) 70 [.ref c, .int (nI j), .int (nI u)] M (fun v M' => (v = some (.int (bsV f (bsP f j bp) u)) ∧ M = M')) := by
  refine pt_in (b := mb_70 g) rfl (fun kf => ?_)
  show pl (mT g) kf (mb_70 g).2 (0, [(0, .ref c), (1, .int (nI j)), (2, .int (nI u))], [], M) _
  have hin8 := s_bsE_in (c := bc) (i := 0) (p := bp) hbs (by omega)
  have hu7 := by2_lt f (bsP f j bp + 2)
  have LL : ∀ (kf : Nat), (∀ (a p : Nat), (a ≤ j) → (s_bsE f e (bc - a) p = some e) → (bsP f (j - a) p = bsP f j bp) →  pl (mT g) kf (mb_70 g).2 (22, [(0, .ref c), (1, .int (nI j)), (2, .int (nI u)), (3, .int (nI p)), (4, .int (nI a))], [], M) (fun v M' => (v = some (.int (bsV f (bsP f j bp) u)) ∧ M = M'))) := by
    intro kf
    induction kf with
    | zero => exact (by intros; exact pl_0)
    | succ kf ih =>
      intro a p ha hf hp
      have hin9 := s_bsE_in (i := a) (p := p) hf (by omega)
      refine ps_st1 (S' := (24, [(0, .ref c), (1, .int (nI j)), (2, .int (nI u)), (3, .int (nI p)), (4, .int (nI a))], [.int (nI a)], M)) rfl rfl rfl ?_
      refine ps_st (S' := (25, [(0, .ref c), (1, .int (nI j)), (2, .int (nI u)), (3, .int (nI p)), (4, .int (nI a))], [.int (nI j), .int (nI a)], M)) rfl rfl rfl ?_
      refine ps_if2 (S1 := (51, [(0, .ref c), (1, .int (nI j)), (2, .int (nI u)), (3, .int (nI p)), (4, .int (nI a))], [], M)) (S2 := (28, [(0, .ref c), (1, .int (nI j)), (2, .int (nI u)), (3, .int (nI p)), (4, .int (nI a))], [], M)) rfl rfl rfl (fun c_25 => ?_) (fun c_25 => ?_)
      · have c_25 : (nI j) ≤ (nI a) := of_decide_eq_true c_25
        have n_25 : j ≤ a := (le_nI (p := j) (n := a) (by omega) (by omega)).mp c_25
        have eP : p = bsP f j bp := by rw [← hp, show j - a = 0 by omega]; rfl
        rw [← eP] at hu
        have hu8 := by2_lt f (p + 2)
        refine ps_st (S' := (52, [(0, .ref c), (1, .int (nI j)), (2, .int (nI u)), (3, .int (nI p)), (4, .int (nI a))], [.int (nI u)], M)) rfl rfl rfl ?_
        refine ps_if (S1 := (69, [], [], M)) (S2 := (55, [(0, .ref c), (1, .int (nI j)), (2, .int (nI u)), (3, .int (nI p)), (4, .int (nI a))], [], M)) rfl rfl rfl (fun c_52 => ?_) (fun c_52 => ?_)
        · exact absurd (of_decide_eq_true c_52) (show ¬ ((nI u) < 0) from fun h9 => absurd ((lt_nI (p := u) (n := 0) (by omega) (by decide)).mp h9) (by omega))
        refine ps_st (S' := (56, [(0, .ref c), (1, .int (nI j)), (2, .int (nI u)), (3, .int (nI p)), (4, .int (nI a))], [.int (nI u)], M)) rfl rfl rfl ?_
        refine ps_st (S' := (57, [(0, .ref c), (1, .int (nI j)), (2, .int (nI u)), (3, .int (nI p)), (4, .int (nI a))], [.ref c, .int (nI u)], M)) rfl rfl rfl ?_
        refine ps_get (S' := (60, [(0, .ref c), (1, .int (nI j)), (2, .int (nI u)), (3, .int (nI p)), (4, .int (nI a))], [.ref b, .int (nI u)], M)) rfl h_c rfl rfl ?_
        refine ps_st (S' := (61, [(0, .ref c), (1, .int (nI j)), (2, .int (nI u)), (3, .int (nI p)), (4, .int (nI a))], [.int (nI p), .ref b, .int (nI u)], M)) rfl rfl rfl ?_
        refine ps_st (S' := (62, [(0, .ref c), (1, .int (nI j)), (2, .int (nI u)), (3, .int (nI p)), (4, .int (nI a))], [.int 2, .int (nI p), .ref b, .int (nI u)], M)) rfl rfl rfl ?_
        refine ps_st (S' := (63, [(0, .ref c), (1, .int (nI j)), (2, .int (nI u)), (3, .int (nI p)), (4, .int (nI a))], [.int ((nI p) + 2), .ref b, .int (nI u)], M)) rfl rfl rfl ?_
        rw [nI_add1 (p := p) (k := 2) (x := 2) rfl (by omega)]
        show pl _ _ _ (_, [(0, .ref c), (1, .int (nI j)), (2, .int (nI u)), (3, .int (nI p)), (4, .int (nI a))], [.int (nI (p + 2)), .ref b, .int (nI u)], M) _
        refine pl_call (a := [.ref b, .int (nI (p + 2))]) (rest := [.int (nI u)]) rfl rfl rfl (dk_u2 (f := f) (n := n) (b := b) (da := da) (p := (p + 2)) h_b h_da (hn) (by omega)) (fun v1 M2 q3 => ?_)
        obtain ⟨rfl, rfl⟩ := q3
        show pl _ _ _ (66, [(0, .ref c), (1, .int (nI j)), (2, .int (nI u)), (3, .int (nI p)), (4, .int (nI a))], [.int (nI (by2 f (p + 2))), .int (nI u)], M) _
        have hu_63 := by2_lt f (p + 2)
        refine ps_if2 (S1 := (71, [(0, .ref c), (1, .int (nI j)), (2, .int (nI u)), (3, .int (nI p)), (4, .int (nI a))], [], M)) (S2 := (69, [], [], M)) rfl rfl rfl (fun c_66 => ?_) (fun c_66 => ?_)
        rotate_left
        · exact absurd ((le_nI (p := u) (n := by2 f (p + 2)) (by omega) (Nat.lt_trans (by2_lt _ _) (by decide))).mpr hu) (of_decide_eq_false c_66)
        refine ps_st (S' := (72, [(0, .ref c), (1, .int (nI j)), (2, .int (nI u)), (3, .int (nI p)), (4, .int (nI a))], [.ref c], M)) rfl rfl rfl ?_
        refine ps_get (S' := (75, [(0, .ref c), (1, .int (nI j)), (2, .int (nI u)), (3, .int (nI p)), (4, .int (nI a))], [.ref b], M)) rfl h_c rfl rfl ?_
        refine ps_st (S' := (76, [(0, .ref c), (1, .int (nI j)), (2, .int (nI u)), (3, .int (nI p)), (4, .int (nI a))], [.int (nI u), .ref b], M)) rfl rfl rfl ?_
        refine ps_if (S1 := (83, [(0, .ref c), (1, .int (nI j)), (2, .int (nI u)), (3, .int (nI p)), (4, .int (nI a))], [.ref b], M)) (S2 := (79, [(0, .ref c), (1, .int (nI j)), (2, .int (nI u)), (3, .int (nI p)), (4, .int (nI a))], [.ref b], M)) rfl rfl rfl (fun c_76 => ?_) (fun c_76 => ?_)
        · have c_76 : ¬ (nI u) = 0 := of_decide_eq_true c_76
          have n_76 : ¬ (u = 0) := fun h9 => c_76 ((eq_nI (p := u) (n := 0) (by omega) (by decide)).mpr h9)
          refine ps_st (S' := (84, [(0, .ref c), (1, .int (nI j)), (2, .int (nI u)), (3, .int (nI p)), (4, .int (nI a))], [.int (nI p), .ref b], M)) rfl rfl rfl ?_
          refine ps_st (S' := (85, [(0, .ref c), (1, .int (nI j)), (2, .int (nI u)), (3, .int (nI p)), (4, .int (nI a))], [.int 2, .int (nI p), .ref b], M)) rfl rfl rfl ?_
          refine ps_st (S' := (86, [(0, .ref c), (1, .int (nI j)), (2, .int (nI u)), (3, .int (nI p)), (4, .int (nI a))], [.int ((nI p) + 2), .ref b], M)) rfl rfl rfl ?_
          rw [nI_add1 (p := p) (k := 2) (x := 2) rfl (by omega)]
          show pl _ _ _ (_, [(0, .ref c), (1, .int (nI j)), (2, .int (nI u)), (3, .int (nI p)), (4, .int (nI a))], [.int (nI (p + 2)), .ref b], M) _
          refine ps_st (S' := (87, [(0, .ref c), (1, .int (nI j)), (2, .int (nI u)), (3, .int (nI p)), (4, .int (nI a))], [.int 2, .int (nI (p + 2)), .ref b], M)) rfl rfl rfl ?_
          refine ps_st (S' := (88, [(0, .ref c), (1, .int (nI j)), (2, .int (nI u)), (3, .int (nI p)), (4, .int (nI a))], [.int (nI u), .int 2, .int (nI (p + 2)), .ref b], M)) rfl rfl rfl ?_
          refine ps_st (S' := (89, [(0, .ref c), (1, .int (nI j)), (2, .int (nI u)), (3, .int (nI p)), (4, .int (nI a))], [.int (2 * (nI u)), .int (nI (p + 2)), .ref b], M)) rfl rfl rfl ?_
          rw [nI_mul1 (p := 2) (k := u) (x := 2) (y := (nI u)) rfl rfl (by omega)]
          show pl _ _ _ (_, [(0, .ref c), (1, .int (nI j)), (2, .int (nI u)), (3, .int (nI p)), (4, .int (nI a))], [.int (nI (2 * u)), .int (nI (p + 2)), .ref b], M) _
          refine ps_st (S' := (90, [], [.int ((nI (p + 2)) + (nI (2 * u))), .ref b], M)) rfl rfl rfl ?_
          rw [nI_add1 (p := p + 2) (k := 2 * u) (x := (nI (2 * u))) rfl (by omega)]
          show pl _ _ _ (_, [], [.int (nI (p + 2 + 2 * u)), .ref b], M) _
          refine pl_call (a := [.ref b, .int (nI (p + 2 + 2 * u))]) (rest := []) rfl rfl rfl (dk_u2 (f := f) (n := n) (b := b) (da := da) (p := (p + 2 + 2 * u)) h_b h_da (hn) (by omega)) (fun v4 M5 q6 => ?_)
          obtain ⟨rfl, rfl⟩ := q6
          show pl _ _ _ (93, [], [.int (nI (by2 f (p + 2 + 2 * u)))], M) _
          have hu_90 := by2_lt f (p + 2 + 2 * u)
          exact ps_reti rfl (⟨congrArg (fun x => some (Value.int x)) (show (nI (by2 f (p + 2 + 2 * u))) = bsV f (bsP f j bp) u from by rw [← eP]; unfold bsV; rw [if_neg (by omega)]), rfl⟩)
        · have c_76 : ¬ (¬ (nI u) = 0) := of_decide_eq_false c_76
          have n_76 : u = 0 := (eq_nI (p := u) (n := 0) (by omega) (by decide)).mp (Decidable.not_not.mp c_76)
          refine ps_st (S' := (80, [(0, .ref c), (1, .int (nI j)), (2, .int (nI u)), (3, .int (nI p)), (4, .int (nI a))], [.int (nI p), .ref b], M)) rfl rfl rfl ?_
          refine ps_st (S' := (90, [], [.int (nI p), .ref b], M)) rfl rfl rfl ?_
          refine pl_call (a := [.ref b, .int (nI p)]) (rest := []) rfl rfl rfl (dk_u2 (f := f) (n := n) (b := b) (da := da) (p := (p)) h_b h_da (hn) (by omega)) (fun v7 M8 q9 => ?_)
          obtain ⟨rfl, rfl⟩ := q9
          show pl _ _ _ (93, [], [.int (nI (by2 f (p)))], M) _
          have hu_90 := by2_lt f (p)
          exact ps_reti rfl (⟨congrArg (fun x => some (Value.int x)) (show (nI (by2 f (p))) = bsV f (bsP f j bp) u from by rw [← eP]; unfold bsV; rw [if_pos (by omega)]), rfl⟩)
      · have c_25 : ¬ ((nI j) ≤ (nI a)) := of_decide_eq_false c_25
        have n_25 : ¬ (j ≤ a) := fun h9 => c_25 ((le_nI (p := j) (n := a) (by omega) (by omega)).mpr h9)
        refine ps_st (S' := (29, [(0, .ref c), (1, .int (nI j)), (2, .int (nI u)), (3, .int (nI p)), (4, .int (nI a))], [.int (nI p)], M)) rfl rfl rfl ?_
        refine ps_st (S' := (30, [(0, .ref c), (1, .int (nI j)), (2, .int (nI u)), (3, .int (nI p)), (4, .int (nI a))], [.int 4, .int (nI p)], M)) rfl rfl rfl ?_
        refine ps_st (S' := (31, [(0, .ref c), (1, .int (nI j)), (2, .int (nI u)), (3, .int (nI p)), (4, .int (nI a))], [.int 2, .int 4, .int (nI p)], M)) rfl rfl rfl ?_
        refine ps_st (S' := (32, [(0, .ref c), (1, .int (nI j)), (2, .int (nI u)), (3, .int (nI p)), (4, .int (nI a))], [.ref c, .int 2, .int 4, .int (nI p)], M)) rfl rfl rfl ?_
        refine ps_get (S' := (35, [(0, .ref c), (1, .int (nI j)), (2, .int (nI u)), (3, .int (nI p)), (4, .int (nI a))], [.ref b, .int 2, .int 4, .int (nI p)], M)) rfl h_c rfl rfl ?_
        refine ps_st (S' := (36, [(0, .ref c), (1, .int (nI j)), (2, .int (nI u)), (3, .int (nI p)), (4, .int (nI a))], [.int (nI p), .ref b, .int 2, .int 4, .int (nI p)], M)) rfl rfl rfl ?_
        refine ps_st (S' := (37, [(0, .ref c), (1, .int (nI j)), (2, .int (nI u)), (3, .int (nI p)), (4, .int (nI a))], [.int 2, .int (nI p), .ref b, .int 2, .int 4, .int (nI p)], M)) rfl rfl rfl ?_
        refine ps_st (S' := (38, [(0, .ref c), (1, .int (nI j)), (2, .int (nI u)), (3, .int (nI p)), (4, .int (nI a))], [.int ((nI p) + 2), .ref b, .int 2, .int 4, .int (nI p)], M)) rfl rfl rfl ?_
        rw [nI_add1 (p := p) (k := 2) (x := 2) rfl (by omega)]
        show pl _ _ _ (_, [(0, .ref c), (1, .int (nI j)), (2, .int (nI u)), (3, .int (nI p)), (4, .int (nI a))], [.int (nI (p + 2)), .ref b, .int 2, .int 4, .int (nI p)], M) _
        refine pl_call (a := [.ref b, .int (nI (p + 2))]) (rest := [.int 2, .int 4, .int (nI p)]) rfl rfl rfl (dk_u2 (f := f) (n := n) (b := b) (da := da) (p := (p + 2)) h_b h_da (hn) (by omega)) (fun v10 M11 q12 => ?_)
        obtain ⟨rfl, rfl⟩ := q12
        show pl _ _ _ (41, [(0, .ref c), (1, .int (nI j)), (2, .int (nI u)), (3, .int (nI p)), (4, .int (nI a))], [.int (nI (by2 f (p + 2))), .int 2, .int 4, .int (nI p)], M) _
        have hu_38 := by2_lt f (p + 2)
        refine ps_st (S' := (42, [(0, .ref c), (1, .int (nI j)), (2, .int (nI u)), (3, .int (nI p)), (4, .int (nI a))], [.int (2 * (nI (by2 f (p + 2)))), .int 4, .int (nI p)], M)) rfl rfl rfl ?_
        rw [nI_mul1 (p := 2) (k := by2 f (p + 2)) (x := 2) (y := (nI (by2 f (p + 2)))) rfl rfl (by omega)]
        show pl _ _ _ (_, [(0, .ref c), (1, .int (nI j)), (2, .int (nI u)), (3, .int (nI p)), (4, .int (nI a))], [.int (nI (2 * (by2 f (p + 2)))), .int 4, .int (nI p)], M) _
        refine ps_st (S' := (43, [(0, .ref c), (1, .int (nI j)), (2, .int (nI u)), (3, .int (nI p)), (4, .int (nI a))], [.int (4 + (nI (2 * (by2 f (p + 2))))), .int (nI p)], M)) rfl rfl rfl ?_
        rw [nI_add2 (p := 4) (k := 2 * (by2 f (p + 2))) (x := 4) (y := (nI (2 * (by2 f (p + 2))))) rfl rfl (by omega)]
        show pl _ _ _ (_, [(0, .ref c), (1, .int (nI j)), (2, .int (nI u)), (3, .int (nI p)), (4, .int (nI a))], [.int (nI (4 + 2 * (by2 f (p + 2)))), .int (nI p)], M) _
        refine ps_st (S' := (44, [(0, .ref c), (1, .int (nI j)), (2, .int (nI u)), (3, .int (nI p)), (4, .int (nI a))], [.int ((nI p) + (nI (4 + 2 * (by2 f (p + 2)))))], M)) rfl rfl rfl ?_
        rw [nI_add1 (p := p) (k := 4 + 2 * (by2 f (p + 2))) (x := (nI (4 + 2 * (by2 f (p + 2))))) rfl (by omega)]
        rw [show nI (p + (4 + 2 * (by2 f (p + 2)))) = nI (p + 4 + 2 * (by2 f (p + 2))) from congrArg nI (by omega)]
        show pl _ _ _ (_, [(0, .ref c), (1, .int (nI j)), (2, .int (nI u)), (3, .int (nI p)), (4, .int (nI a))], [.int (nI (p + 4 + 2 * (by2 f (p + 2))))], M) _
        refine ps_st (S' := (45, [(3, .int (nI (p + 4 + 2 * (by2 f (p + 2))))), (0, .ref c), (1, .int (nI j)), (2, .int (nI u)), (4, .int (nI a))], [], M)) rfl rfl rfl ?_
        refine ps_st (S' := (48, [(4, .int ((nI a) + 1)), (3, .int (nI (p + 4 + 2 * (by2 f (p + 2))))), (0, .ref c), (1, .int (nI j)), (2, .int (nI u))], [], M)) rfl rfl rfl ?_
        rw [nI_add1 (p := a) (k := 1) (x := 1) rfl (by omega)]
        show pl _ _ _ (_, [(4, .int (nI (a + 1))), (3, .int (nI (p + 4 + 2 * (by2 f (p + 2))))), (0, .ref c), (1, .int (nI j)), (2, .int (nI u))], [], M) _
        refine ps_st (S' := (22, [(0, .ref c), (1, .int (nI j)), (2, .int (nI u)), (3, .int (nI (p + 4 + 2 * (by2 f (p + 2))))), (4, .int (nI (a + 1)))], [], M)) rfl rfl rfl ?_
        exact ih (a + 1) (p + 4 + 2 * by2 f (p + 2))  (by omega) (hin9.2.2) (by
            rw [← hp, bsP_st (i := a) (by omega)])
  refine ps_st (S' := (1, [(0, .ref c), (1, .int (nI j)), (2, .int (nI u))], [.int (nI j)], M)) rfl rfl rfl ?_
  refine ps_if (S1 := (12, [], [], M)) (S2 := (4, [(0, .ref c), (1, .int (nI j)), (2, .int (nI u))], [], M)) rfl rfl rfl (fun c_1 => ?_) (fun c_1 => ?_)
  · exact absurd (of_decide_eq_true c_1) (show ¬ ((nI j) < 0) from fun h9 => absurd ((lt_nI (p := j) (n := 0) (by omega) (by decide)).mp h9) (by omega))
  refine ps_st (S' := (5, [(0, .ref c), (1, .int (nI j)), (2, .int (nI u))], [.int (nI j)], M)) rfl rfl rfl ?_
  refine ps_st (S' := (6, [(0, .ref c), (1, .int (nI j)), (2, .int (nI u))], [.ref c, .int (nI j)], M)) rfl rfl rfl ?_
  refine ps_get (S' := (9, [(0, .ref c), (1, .int (nI j)), (2, .int (nI u))], [.int (nI bc), .int (nI j)], M)) rfl h_c rfl rfl ?_
  refine ps_if2 (S1 := (14, [(0, .ref c), (1, .int (nI j)), (2, .int (nI u))], [], M)) (S2 := (12, [], [], M)) rfl rfl rfl (fun c_9 => ?_) (fun c_9 => ?_)
  rotate_left
  · exact absurd ((lt_nI (by omega) (by omega)).mpr hj) (of_decide_eq_false c_9)
  refine ps_st (S' := (15, [(0, .ref c), (1, .int (nI j)), (2, .int (nI u))], [.ref c], M)) rfl rfl rfl ?_
  refine ps_get (S' := (18, [(0, .ref c), (1, .int (nI j)), (2, .int (nI u))], [.int (nI bp)], M)) rfl h_c rfl rfl ?_
  refine ps_st (S' := (19, [(3, .int (nI bp)), (0, .ref c), (1, .int (nI j)), (2, .int (nI u))], [], M)) rfl rfl rfl ?_
  refine ps_st (S' := (20, [(3, .int (nI bp)), (0, .ref c), (1, .int (nI j)), (2, .int (nI u))], [.int 0], M)) rfl rfl rfl ?_
  refine ps_st (S' := (22, [(0, .ref c), (1, .int (nI j)), (2, .int (nI u)), (3, .int (nI bp)), (4, .int 0)], [], M)) rfl rfl rfl ?_
  exact (LL kf) (0) (bp)  (by omega) (hbs) (rfl)
set_option maxHeartbeats 1000000 in
theorem dk_bootstrap0 {g : xe_G} {M : mi_H} {o ca fl : Nat} {cn wp i t : Int32} (h_o : M.1 o = some (ob 11 [.ref ca, .int cn, .ref fl, .null, .int wp]))  : pt (mT g) 2 [.ref o, .int i, .int t] M (fun v M' => (v = some (.int (-1)) ∧ M = M')) := by
  refine pt_in (b := mb_2 g) rfl (fun kf => ?_)
  show pl (mT g) kf (mb_2 g).2 (0, [(0, .ref o), (1, .int i), (2, .int t)], [], M) _
  refine ps_st (S' := (1, [(0, .ref o), (1, .int i), (2, .int t)], [.ref o], M)) rfl rfl rfl ?_
  refine ps_get (S' := (4, [(0, .ref o), (1, .int i), (2, .int t)], [.null], M)) rfl h_o rfl rfl ?_
  refine ps_st (S' := (7, [(0, .ref o), (1, .int i), (2, .int t)], [], M)) rfl rfl rfl ?_
  refine ps_st (S' := (8, [(0, .ref o), (1, .int i), (2, .int t)], [.int (-1)], M)) rfl rfl rfl ?_
  refine ps_st (S' := (20, [], [.int (-1)], M)) rfl rfl rfl ?_
  exact ps_ret rfl rfl (⟨rfl, rfl⟩)
theorem dk_bsPart {g : xe_G} {M : mi_H} {f : Nat → Int32} {n q c b da fr mr bc bp : Nat} {u2 u3 u4 u5 x8 x9 x10 x13 x14 x15 x16 : Int32} {i t : Int32} (h_c : M.1 c = some (ob 3 [.ref b, .ref q, .int u2, .int u3, .int u4, .int u5, .ref fr, .ref mr, .int x8, .int x9, .int x10, .int (nI bc), .int (nI bp), .int x13, .int x14, .int x15, .int x16])) (h_b : M.1 b = some (ob 1 [.ref da])) (h_da : M.1 da = some (ar .byte n f)) (hn : n ≤ 65540) (hbc : bc < 65536) (hbs : bc = 0 ∨ (8 ≤ bp ∧ ∃ e, e ≤ n ∧ s_bsE f e bc bp = some e)) : pt (mT g) 70 [.ref c, .int i, .int t] M (fun v M' => (v = some (.int (bsI f bc bp i t)) ∧ M = M')) := by
  unfold bsI
  by_cases hi : i < 0 ∨ nI bc ≤ i
  · rw [if_pos hi]
    exact dk_bsN (f := f) (n := n) (da := da) h_c hi
  · rw [if_neg hi]
    obtain ⟨ei, hj⟩ := i32_in (by omega) hi
    obtain ⟨j, ej⟩ : ∃ j, j = i.toNatClampNeg := ⟨_, rfl⟩
    rw [← ej] at ei hj ⊢
    subst ei
    rcases hbs with h9 | ⟨-, e, he, hbs⟩
    · omega
    · by_cases ht : t < 0 ∨ nI (by2 f (bsP f j bp + 2)) < t
      · rw [if_pos ht]
        exact dk_bsB h_c h_b h_da hn hbc hj he hbs ht
      · rw [if_neg ht]
        have hu7 := by2_lt f (bsP f j bp + 2)
        have h0 : ¬ t < 0 := fun q => ht (Or.inl q)
        have et := i32_nn h0
        have hle : t.toNatClampNeg ≤ by2 f (bsP f j bp + 2) := by
          have h1 := Int32.le_iff_toInt_le.mp (Int32.not_lt.mp (fun q => ht (Or.inr q)))
          rw [nI_val (by omega)] at h1
          have h2 := i32_to h0
          omega
        obtain ⟨u, eu⟩ : ∃ u, u = t.toNatClampNeg := ⟨_, rfl⟩
        rw [← eu] at et hle ⊢
        subst et
        exact dk_bsG h_c h_b h_da hn hbc hj he hbs hle
set_option maxHeartbeats 1000000 in
theorem dk_bootstrapK {g : xe_G} {M : mi_H} {f : Nat → Int32} {n q c b da fr mr bc bp : Nat} {u2 u3 u4 u5 x8 x9 x10 x13 x14 x15 x16 : Int32} {o ca fl : Nat} {cn wp i t : Int32} (h_o : M.1 o = some (ob 11 [.ref ca, .int cn, .ref fl, .ref c, .int wp])) (h_c : M.1 c = some (ob 3 [.ref b, .ref q, .int u2, .int u3, .int u4, .int u5, .ref fr, .ref mr, .int x8, .int x9, .int x10, .int (nI bc), .int (nI bp), .int x13, .int x14, .int x15, .int x16])) (h_b : M.1 b = some (ob 1 [.ref da])) (h_da : M.1 da = some (ar .byte n f)) (hn : n ≤ 65540) (hbc : bc < 65536) (hbs : bc = 0 ∨ (8 ≤ bp ∧ ∃ e, e ≤ n ∧ s_bsE f e bc bp = some e)) : pt (mT g) 2 [.ref o, .int i, .int t] M (fun v M' => (v = some (.int (bsI f bc bp i t)) ∧ M = M')) := by
  refine pt_in (b := mb_2 g) rfl (fun kf => ?_)
  show pl (mT g) kf (mb_2 g).2 (0, [(0, .ref o), (1, .int i), (2, .int t)], [], M) _
  refine ps_st (S' := (1, [(0, .ref o), (1, .int i), (2, .int t)], [.ref o], M)) rfl rfl rfl ?_
  refine ps_get (S' := (4, [(0, .ref o), (1, .int i), (2, .int t)], [.ref c], M)) rfl h_o rfl rfl ?_
  refine ps_st (S' := (11, [(0, .ref o), (1, .int i), (2, .int t)], [], M)) rfl rfl rfl ?_
  refine ps_st (S' := (12, [(0, .ref o), (1, .int i), (2, .int t)], [.ref o], M)) rfl rfl rfl ?_
  refine ps_get (S' := (15, [(0, .ref o), (1, .int i), (2, .int t)], [.ref c], M)) rfl h_o rfl rfl ?_
  refine ps_st (S' := (16, [(0, .ref o), (1, .int i), (2, .int t)], [.int i, .ref c], M)) rfl rfl rfl ?_
  refine ps_st (S' := (17, [(0, .ref o), (1, .int i), (2, .int t)], [.int t, .int i, .ref c], M)) rfl rfl rfl ?_
  refine pl_call (a := [.ref c, .int i, .int t]) (rest := []) rfl rfl rfl (dk_bsPart (f := f) (n := n) (q := q) (c := c) (b := b) (da := da) (fr := fr) (mr := mr) (bc := bc) (bp := bp) (u2 := u2) (u3 := u3) (u4 := u4) (u5 := u5) (x8 := x8) (x9 := x9) (x10 := x10) (x13 := x13) (x14 := x14) (x15 := x15) (x16 := x16) (i := i) (t := t) h_c h_b h_da (hn) (hbc) (hbs)) (fun v1 M2 q3 => ?_)
  obtain ⟨rfl, rfl⟩ := q3
  show pl _ _ _ (20, [], [.int (bsI f bc bp i t)], M) _
  exact ps_reti rfl (⟨rfl, rfl⟩)
theorem dk_bootstrap {g : xe_G} {M : mi_H} {ko : Option (Nat × (Nat → Int32))} {kv : Value} {cm o fl : Nat} {cn wp i t : Int32} (hx : M.1 o = some (ob 11 [.ref cm, .int cn, .ref fl, kv, .int wp])) (hK : KPC g ko kv cm M) : pt (mT g) 2 [.ref o, .int i, .int t] M (fun v M' => v = some (.int (bsK ko i t)) ∧ M = M') := by
  cases ko with
  | none =>
    have e : kv = .null := hK
    subst e
    exact dk_bootstrap0 hx
  | some r =>
    obtain ⟨c, da, rfl, ⟨b, q, N, E, p1, pF, pM, pA, w, h1, h2, h3, h4, h5, rfl, -, h7, fr, mr, G1, G2, k1, k2, bc, K, rfl, m1, m2, m3, m4, m5, m6, m7, m8, -⟩, -, -⟩ := hK
    rw [bsK_is h5 m7 m8]
    exact dk_bootstrapK hx h1 h2 h3 h7 (clS_bc m7) (cl_bt m6 m7 m8)
end
section
set_option maxHeartbeats 1000000 in
theorem rd_bootstrap0 {g : xe_G} {m0 : Nat} {q : Nat → Nat} {z : Nat × Nat} {I : rI} {R : rR} {M : mi_H} {kn i t : Int32} (hR : RS g m0 q z I R M) (hi18 : I 18 = some kn)  (hk : kn < 0) : pt (mT g) 184 [.ref m0, .int i, .int t] M (fun v M' => (∃  (I' : rI) (R' : rR), v = some (.int (-1)) ∧ RS g m0 q z I' R' M' ∧ eqI [0] I I' ∧ eqR [] R R' ∧ I' 0 = some 0)) := by
  refine pt_in (b := mb_184 g) rfl (fun kf => ?_)
  show pl (mT g) kf (mb_184 g).2 (0, [(0, .ref m0), (1, .int i), (2, .int t)], [], M) _
  have hEI : eqI [0] I I := eqI.rf
  have hER : eqR [] R R := eqR.rf
  refine ps_st (S' := (1, [(0, .ref m0), (1, .int i), (2, .int t)], [.ref m0], M)) rfl rfl rfl ?_
  refine ps_st (S' := (2, [(0, .ref m0), (1, .int i), (2, .int t)], [.int 0, .ref m0], M)) rfl rfl rfl ?_
  refine pr_put (j := 0) rfl hR rfl (fun M1 I2 hR3 hi4 hI5 => ?_)
  have hi6 := (hI5 18 (by decide)).trans hi18
  have hEI7 := hEI.put hI5 (by decide)
  show pl _ _ _ (5, [(0, .ref m0), (1, .int i), (2, .int t)], [], M1) _
  refine ps_st (S' := (6, [(0, .ref m0), (1, .int i), (2, .int t)], [.ref m0], M1)) rfl rfl rfl ?_
  refine pr_int (j := 18) (S' := (9, [(0, .ref m0), (1, .int i), (2, .int t)], [.int kn], M1)) rfl hR3 rfl hi6 rfl ?_
  refine ps_if (S1 := (28, [], [], M1)) (S2 := (12, [(0, .ref m0), (1, .int i), (2, .int t)], [], M1)) rfl rfl rfl (fun c_9 => ?_) (fun c_9 => ?_)
  rotate_left
  · exact absurd (hk) (of_decide_eq_false c_9)
  refine ps_st (S' := (29, [], [.int (-1)], M1)) rfl rfl rfl ?_
  exact ps_ret rfl rfl (⟨I2, R, rfl, hR3, hEI7, hER, hi4⟩)
set_option maxHeartbeats 1000000 in
theorem rd_bootstrapN {g : xe_G} {m0 : Nat} {q : Nat → Nat} {z : Nat × Nat} {I : rI} {R : rR} {M : mi_H} {n2 bc : Nat} {i t : Int32} (hR : RS g m0 q z I R M) (hi18 : I 18 = some (nI n2)) (hi71 : I 71 = some (nI bc))  (hn2 : n2 ≤ 65540) (hi : (i < 0 ∨ nI bc ≤ i) ∨ t < 0) : pt (mT g) 184 [.ref m0, .int i, .int t] M (fun v M' => (∃  (I' : rI) (R' : rR), v = some (.int (-1)) ∧ RS g m0 q z I' R' M' ∧ eqI [0] I I' ∧ eqR [] R R' ∧ I' 0 = some 0)) := by
  refine pt_in (b := mb_184 g) rfl (fun kf => ?_)
  show pl (mT g) kf (mb_184 g).2 (0, [(0, .ref m0), (1, .int i), (2, .int t)], [], M) _
  have hEI : eqI [0] I I := eqI.rf
  have hER : eqR [] R R := eqR.rf
  refine ps_st (S' := (1, [(0, .ref m0), (1, .int i), (2, .int t)], [.ref m0], M)) rfl rfl rfl ?_
  refine ps_st (S' := (2, [(0, .ref m0), (1, .int i), (2, .int t)], [.int 0, .ref m0], M)) rfl rfl rfl ?_
  refine pr_put (j := 0) rfl hR rfl (fun M1 I2 hR3 hi4 hI5 => ?_)
  have hi6 := (hI5 18 (by decide)).trans hi18
  have hi7 := (hI5 71 (by decide)).trans hi71
  have hEI8 := hEI.put hI5 (by decide)
  show pl _ _ _ (5, [(0, .ref m0), (1, .int i), (2, .int t)], [], M1) _
  refine ps_st (S' := (6, [(0, .ref m0), (1, .int i), (2, .int t)], [.ref m0], M1)) rfl rfl rfl ?_
  refine pr_int (j := 18) (S' := (9, [(0, .ref m0), (1, .int i), (2, .int t)], [.int (nI n2)], M1)) rfl hR3 rfl hi6 rfl ?_
  refine ps_if (S1 := (28, [], [], M1)) (S2 := (12, [(0, .ref m0), (1, .int i), (2, .int t)], [], M1)) rfl rfl rfl (fun c_9 => ?_) (fun c_9 => ?_)
  · exact absurd (of_decide_eq_true c_9) (show ¬ ((nI n2) < 0) from fun h9 => absurd ((lt_nI (p := n2) (n := 0) (by omega) (by decide)).mp h9) (by omega))
  refine ps_st (S' := (13, [(0, .ref m0), (1, .int i), (2, .int t)], [.int i], M1)) rfl rfl rfl ?_
  refine ps_if (S1 := (28, [], [], M1)) (S2 := (16, [(0, .ref m0), (1, .int i), (2, .int t)], [], M1)) rfl rfl rfl (fun c_13 => ?_) (fun c_13 => ?_)
  · have c_13 : i < 0 := of_decide_eq_true c_13
    refine ps_st (S' := (29, [], [.int (-1)], M1)) rfl rfl rfl ?_
    exact ps_ret rfl rfl (⟨I2, R, rfl, hR3, hEI8, hER, hi4⟩)
  · have c_13 : ¬ (i < 0) := of_decide_eq_false c_13
    refine ps_st (S' := (17, [(0, .ref m0), (1, .int i), (2, .int t)], [.int i], M1)) rfl rfl rfl ?_
    refine ps_st (S' := (18, [(0, .ref m0), (1, .int i), (2, .int t)], [.ref m0, .int i], M1)) rfl rfl rfl ?_
    refine pr_int (j := 71) (S' := (21, [(0, .ref m0), (1, .int i), (2, .int t)], [.int (nI bc), .int i], M1)) rfl hR3 rfl hi7 rfl ?_
    refine ps_if2 (S1 := (28, [], [], M1)) (S2 := (24, [(0, .ref m0), (1, .int i), (2, .int t)], [], M1)) rfl rfl rfl (fun c_21 => ?_) (fun c_21 => ?_)
    · have c_21 : (nI bc) ≤ i := of_decide_eq_true c_21
      refine ps_st (S' := (29, [], [.int (-1)], M1)) rfl rfl rfl ?_
      exact ps_ret rfl rfl (⟨I2, R, rfl, hR3, hEI8, hER, hi4⟩)
    · have c_21 : ¬ ((nI bc) ≤ i) := of_decide_eq_false c_21
      refine ps_st (S' := (25, [(0, .ref m0), (1, .int i), (2, .int t)], [.int t], M1)) rfl rfl rfl ?_
      refine ps_if (S1 := (30, [(0, .ref m0), (1, .int i), (2, .int t)], [], M1)) (S2 := (28, [], [], M1)) rfl rfl rfl (fun c_25 => ?_) (fun c_25 => ?_)
      · have c_25 : 0 ≤ t := of_decide_eq_true c_25
        exact absurd hi (fun h9 => h9.elim (fun h8 => h8.elim c_13 c_21) (fun h8 => absurd h8 (Int32.not_lt.mpr c_25)))
      · have c_25 : ¬ (0 ≤ t) := of_decide_eq_false c_25
        refine ps_st (S' := (29, [], [.int (-1)], M1)) rfl rfl rfl ?_
        exact ps_ret rfl rfl (⟨I2, R, rfl, hR3, hEI8, hER, hi4⟩)
set_option maxHeartbeats 1000000 in
theorem rd_bootstrapB {g : xe_G} {m0 : Nat} {q : Nat → Nat} {z : Nat × Nat} {I : rI} {R : rR} {M : mi_H} {n : Nat} {f : Nat → Int32} {n2 bc bp j e : Nat} {t : Int32} (hR : RS g m0 q z I R M) (hi18 : I 18 = some (nI n2)) (hi71 : I 71 = some (nI bc)) (hi70 : I 70 = some (nI (bp - 2))) (hF : FK n f I R) (hn2 : n2 ≤ 65540) (hbp : 8 ≤ bp) (hbc : bc < 65536) (hj : j < bc) (he : e ≤ n) (hbs : s_bsE f e bc bp = some e) (ht0 : ¬ t < 0) (hb9 : nI (by2 f (bsP f j bp + 2)) < t) : pt (mT g) 184 [.ref m0, .int (nI j), .int t] M (fun v M' => (∃  (I' : rI) (R' : rR), v = some (.int (-1)) ∧ RS g m0 q z I' R' M' ∧ eqI [0] I I' ∧ eqR [] R R' ∧ I' 0 = some 0)) := by
  refine pt_in (b := mb_184 g) rfl (fun kf => ?_)
  show pl (mT g) kf (mb_184 g).2 (0, [(0, .ref m0), (1, .int (nI j)), (2, .int t)], [], M) _
  have hEI : eqI [0] I I := eqI.rf
  have hER : eqR [] R R := eqR.rf
  have hn := hF.1
  have hin8 := s_bsE_in (c := bc) (i := 0) (p := bp) hbs (by omega)
  have LL : ∀ (kf : Nat), (∀ (a p : Nat) (M1 : mi_H) (I1 : rI) (R1 : rR), (RS g m0 q z I1 R1 M1) → (eqI [0] I I1) → (eqR [] R R1) → (I1 0 = some 0) → (FK n f I1 R1) → (a ≤ j) → (s_bsE f e (bc - a) p = some e) → (bsP f (j - a) p = bsP f j bp) →  pl (mT g) kf (mb_184 g).2 (40, [(0, .ref m0), (1, .int (nI j)), (2, .int t), (3, .int (nI p)), (4, .int (nI a))], [], M1) (fun v M' => (∃  (I' : rI) (R' : rR), v = some (.int (-1)) ∧ RS g m0 q z I' R' M' ∧ eqI [0] I I' ∧ eqR [] R R' ∧ I' 0 = some 0))) := by
    intro kf
    induction kf with
    | zero => exact (by intros; exact pl_0)
    | succ kf ih =>
      intro a p M1 I1 R1 hR1 hEI1 hER1 hl0 hF1 ha hf hp
      have hn := hF1.1
      have hin9 := s_bsE_in (i := a) (p := p) hf (by omega)
      refine ps_st1 (S' := (42, [(0, .ref m0), (1, .int (nI j)), (2, .int t), (3, .int (nI p)), (4, .int (nI a))], [.int (nI a)], M1)) rfl rfl rfl ?_
      refine ps_st (S' := (43, [(0, .ref m0), (1, .int (nI j)), (2, .int t), (3, .int (nI p)), (4, .int (nI a))], [.int (nI j), .int (nI a)], M1)) rfl rfl rfl ?_
      refine ps_if2 (S1 := (66, [(0, .ref m0), (1, .int (nI j)), (2, .int t), (3, .int (nI p)), (4, .int (nI a))], [], M1)) (S2 := (46, [(0, .ref m0), (1, .int (nI j)), (2, .int t), (3, .int (nI p)), (4, .int (nI a))], [], M1)) rfl rfl rfl (fun c_43 => ?_) (fun c_43 => ?_)
      · have c_43 : (nI j) ≤ (nI a) := of_decide_eq_true c_43
        have n_43 : j ≤ a := (le_nI (p := j) (n := a) (by omega) (by omega)).mp c_43
        have eP : p = bsP f j bp := by rw [← hp, show j - a = 0 by omega]; rfl
        rw [← eP] at hb9
        have hu8 := by2_lt f (p + 2)
        refine ps_st (S' := (67, [(0, .ref m0), (1, .int (nI j)), (2, .int t), (3, .int (nI p)), (4, .int (nI a))], [.int t], M1)) rfl rfl rfl ?_
        refine ps_if (S1 := (76, [(0, .ref m0), (1, .int (nI j)), (2, .int t), (3, .int (nI p)), (4, .int (nI a))], [], M1)) (S2 := (70, [(0, .ref m0), (1, .int (nI j)), (2, .int t), (3, .int (nI p)), (4, .int (nI a))], [], M1)) rfl rfl rfl (fun c_67 => ?_) (fun c_67 => ?_)
        rotate_left
        · exact absurd (show ¬ t = 0 from fun h9 => absurd hb9 (by rw [h9]; exact nI_n0 (by omega))) (of_decide_eq_false c_67)
        refine ps_st (S' := (77, [(0, .ref m0), (1, .int (nI j)), (2, .int t), (3, .int (nI p)), (4, .int (nI a))], [.int t], M1)) rfl rfl rfl ?_
        refine ps_st (S' := (78, [(0, .ref m0), (1, .int (nI j)), (2, .int t), (3, .int (nI p)), (4, .int (nI a))], [.ref m0, .int t], M1)) rfl rfl rfl ?_
        refine ps_st (S' := (79, [(0, .ref m0), (1, .int (nI j)), (2, .int t), (3, .int (nI p)), (4, .int (nI a))], [.int (nI p), .ref m0, .int t], M1)) rfl rfl rfl ?_
        refine ps_st (S' := (80, [(0, .ref m0), (1, .int (nI j)), (2, .int t), (3, .int (nI p)), (4, .int (nI a))], [.int 2, .int (nI p), .ref m0, .int t], M1)) rfl rfl rfl ?_
        refine ps_st (S' := (81, [(0, .ref m0), (1, .int (nI j)), (2, .int t), (3, .int (nI p)), (4, .int (nI a))], [.int ((nI p) + 2), .ref m0, .int t], M1)) rfl rfl rfl ?_
        rw [nI_add1 (p := p) (k := 2) (x := 2) rfl (by omega)]
        show pl _ _ _ (_, [(0, .ref m0), (1, .int (nI j)), (2, .int t), (3, .int (nI p)), (4, .int (nI a))], [.int (nI (p + 2)), .ref m0, .int t], M1) _
        refine pl_call (a := [.ref m0, .int (nI (p + 2))]) (rest := [.int t]) rfl rfl rfl (rd_u2 (n := n) (f := f) (p := (p + 2)) hR1 hF1 (by omega)) (fun v1 M2 q3 => ?_)
        obtain ⟨rfl, rfl⟩ := q3
        show pl _ _ _ (84, [(0, .ref m0), (1, .int (nI j)), (2, .int t), (3, .int (nI p)), (4, .int (nI a))], [.int (nI (by2 f (p + 2))), .int t], M1) _
        have hu_81 := by2_lt f (p + 2)
        refine ps_if2 (S1 := (91, [(0, .ref m0), (1, .int (nI j)), (2, .int t), (3, .int (nI p)), (4, .int (nI a))], [], M1)) (S2 := (87, [(0, .ref m0), (1, .int (nI j)), (2, .int t), (3, .int (nI p)), (4, .int (nI a))], [], M1)) rfl rfl rfl (fun c_84 => ?_) (fun c_84 => ?_)
        · exact absurd (of_decide_eq_true c_84) (Int32.not_le.mpr hb9)
        refine ps_st (S' := (88, [(0, .ref m0), (1, .int (nI j)), (2, .int t), (3, .int (nI p)), (4, .int (nI a))], [.int (-1)], M1)) rfl rfl rfl ?_
        refine ps_st (S' := (102, [], [.int (-1)], M1)) rfl rfl rfl ?_
        exact ps_ret rfl rfl (⟨I1, R1, rfl, hR1, hEI1, hER1, hl0⟩)
      · have c_43 : ¬ ((nI j) ≤ (nI a)) := of_decide_eq_false c_43
        have n_43 : ¬ (j ≤ a) := fun h9 => c_43 ((le_nI (p := j) (n := a) (by omega) (by omega)).mpr h9)
        refine ps_st (S' := (47, [(0, .ref m0), (1, .int (nI j)), (2, .int t), (3, .int (nI p)), (4, .int (nI a))], [.int (nI p)], M1)) rfl rfl rfl ?_
        refine ps_st (S' := (48, [(0, .ref m0), (1, .int (nI j)), (2, .int t), (3, .int (nI p)), (4, .int (nI a))], [.int 4, .int (nI p)], M1)) rfl rfl rfl ?_
        refine ps_st (S' := (49, [(0, .ref m0), (1, .int (nI j)), (2, .int t), (3, .int (nI p)), (4, .int (nI a))], [.int 2, .int 4, .int (nI p)], M1)) rfl rfl rfl ?_
        refine ps_st (S' := (50, [(0, .ref m0), (1, .int (nI j)), (2, .int t), (3, .int (nI p)), (4, .int (nI a))], [.ref m0, .int 2, .int 4, .int (nI p)], M1)) rfl rfl rfl ?_
        refine ps_st (S' := (51, [(0, .ref m0), (1, .int (nI j)), (2, .int t), (3, .int (nI p)), (4, .int (nI a))], [.int (nI p), .ref m0, .int 2, .int 4, .int (nI p)], M1)) rfl rfl rfl ?_
        refine ps_st (S' := (52, [(0, .ref m0), (1, .int (nI j)), (2, .int t), (3, .int (nI p)), (4, .int (nI a))], [.int 2, .int (nI p), .ref m0, .int 2, .int 4, .int (nI p)], M1)) rfl rfl rfl ?_
        refine ps_st (S' := (53, [(0, .ref m0), (1, .int (nI j)), (2, .int t), (3, .int (nI p)), (4, .int (nI a))], [.int ((nI p) + 2), .ref m0, .int 2, .int 4, .int (nI p)], M1)) rfl rfl rfl ?_
        rw [nI_add1 (p := p) (k := 2) (x := 2) rfl (by omega)]
        show pl _ _ _ (_, [(0, .ref m0), (1, .int (nI j)), (2, .int t), (3, .int (nI p)), (4, .int (nI a))], [.int (nI (p + 2)), .ref m0, .int 2, .int 4, .int (nI p)], M1) _
        refine pl_call (a := [.ref m0, .int (nI (p + 2))]) (rest := [.int 2, .int 4, .int (nI p)]) rfl rfl rfl (rd_u2 (n := n) (f := f) (p := (p + 2)) hR1 hF1 (by omega)) (fun v4 M5 q6 => ?_)
        obtain ⟨rfl, rfl⟩ := q6
        show pl _ _ _ (56, [(0, .ref m0), (1, .int (nI j)), (2, .int t), (3, .int (nI p)), (4, .int (nI a))], [.int (nI (by2 f (p + 2))), .int 2, .int 4, .int (nI p)], M1) _
        have hu_53 := by2_lt f (p + 2)
        refine ps_st (S' := (57, [(0, .ref m0), (1, .int (nI j)), (2, .int t), (3, .int (nI p)), (4, .int (nI a))], [.int (2 * (nI (by2 f (p + 2)))), .int 4, .int (nI p)], M1)) rfl rfl rfl ?_
        rw [nI_mul1 (p := 2) (k := by2 f (p + 2)) (x := 2) (y := (nI (by2 f (p + 2)))) rfl rfl (by omega)]
        show pl _ _ _ (_, [(0, .ref m0), (1, .int (nI j)), (2, .int t), (3, .int (nI p)), (4, .int (nI a))], [.int (nI (2 * (by2 f (p + 2)))), .int 4, .int (nI p)], M1) _
        refine ps_st (S' := (58, [(0, .ref m0), (1, .int (nI j)), (2, .int t), (3, .int (nI p)), (4, .int (nI a))], [.int (4 + (nI (2 * (by2 f (p + 2))))), .int (nI p)], M1)) rfl rfl rfl ?_
        rw [nI_add2 (p := 4) (k := 2 * (by2 f (p + 2))) (x := 4) (y := (nI (2 * (by2 f (p + 2))))) rfl rfl (by omega)]
        show pl _ _ _ (_, [(0, .ref m0), (1, .int (nI j)), (2, .int t), (3, .int (nI p)), (4, .int (nI a))], [.int (nI (4 + 2 * (by2 f (p + 2)))), .int (nI p)], M1) _
        refine ps_st (S' := (59, [(0, .ref m0), (1, .int (nI j)), (2, .int t), (3, .int (nI p)), (4, .int (nI a))], [.int ((nI p) + (nI (4 + 2 * (by2 f (p + 2)))))], M1)) rfl rfl rfl ?_
        rw [nI_add1 (p := p) (k := 4 + 2 * (by2 f (p + 2))) (x := (nI (4 + 2 * (by2 f (p + 2))))) rfl (by omega)]
        rw [show nI (p + (4 + 2 * (by2 f (p + 2)))) = nI (p + 4 + 2 * (by2 f (p + 2))) from congrArg nI (by omega)]
        show pl _ _ _ (_, [(0, .ref m0), (1, .int (nI j)), (2, .int t), (3, .int (nI p)), (4, .int (nI a))], [.int (nI (p + 4 + 2 * (by2 f (p + 2))))], M1) _
        refine ps_st (S' := (60, [(3, .int (nI (p + 4 + 2 * (by2 f (p + 2))))), (0, .ref m0), (1, .int (nI j)), (2, .int t), (4, .int (nI a))], [], M1)) rfl rfl rfl ?_
        refine ps_st (S' := (63, [(4, .int ((nI a) + 1)), (3, .int (nI (p + 4 + 2 * (by2 f (p + 2))))), (0, .ref m0), (1, .int (nI j)), (2, .int t)], [], M1)) rfl rfl rfl ?_
        rw [nI_add1 (p := a) (k := 1) (x := 1) rfl (by omega)]
        show pl _ _ _ (_, [(4, .int (nI (a + 1))), (3, .int (nI (p + 4 + 2 * (by2 f (p + 2))))), (0, .ref m0), (1, .int (nI j)), (2, .int t)], [], M1) _
        refine ps_st (S' := (40, [(0, .ref m0), (1, .int (nI j)), (2, .int t), (3, .int (nI (p + 4 + 2 * (by2 f (p + 2))))), (4, .int (nI (a + 1)))], [], M1)) rfl rfl rfl ?_
        exact ih (a + 1) (p + 4 + 2 * by2 f (p + 2)) M1 I1 R1 hR1 hEI1 hER1 hl0 hF1 (by omega) (hin9.2.2) (by
            rw [← hp, bsP_st (i := a) (by omega)])
  refine ps_st (S' := (1, [(0, .ref m0), (1, .int (nI j)), (2, .int t)], [.ref m0], M)) rfl rfl rfl ?_
  refine ps_st (S' := (2, [(0, .ref m0), (1, .int (nI j)), (2, .int t)], [.int 0, .ref m0], M)) rfl rfl rfl ?_
  refine pr_put (j := 0) rfl hR rfl (fun M7 I8 hR9 hi10 hI11 => ?_)
  have hi12 := (hI11 18 (by decide)).trans hi18
  have hi13 := (hI11 71 (by decide)).trans hi71
  have hi14 := (hI11 70 (by decide)).trans hi70
  have hF_15 := hF.mono (pIx hI11 (by decide)) (fun _ _ => rfl)
  have hEI16 := hEI.put hI11 (by decide)
  show pl _ _ _ (5, [(0, .ref m0), (1, .int (nI j)), (2, .int t)], [], M7) _
  refine ps_st (S' := (6, [(0, .ref m0), (1, .int (nI j)), (2, .int t)], [.ref m0], M7)) rfl rfl rfl ?_
  refine pr_int (j := 18) (S' := (9, [(0, .ref m0), (1, .int (nI j)), (2, .int t)], [.int (nI n2)], M7)) rfl hR9 rfl hi12 rfl ?_
  refine ps_if (S1 := (28, [], [], M7)) (S2 := (12, [(0, .ref m0), (1, .int (nI j)), (2, .int t)], [], M7)) rfl rfl rfl (fun c_9 => ?_) (fun c_9 => ?_)
  · exact absurd (of_decide_eq_true c_9) (show ¬ ((nI n2) < 0) from fun h9 => absurd ((lt_nI (p := n2) (n := 0) (by omega) (by decide)).mp h9) (by omega))
  refine ps_st (S' := (13, [(0, .ref m0), (1, .int (nI j)), (2, .int t)], [.int (nI j)], M7)) rfl rfl rfl ?_
  refine ps_if (S1 := (28, [], [], M7)) (S2 := (16, [(0, .ref m0), (1, .int (nI j)), (2, .int t)], [], M7)) rfl rfl rfl (fun c_13 => ?_) (fun c_13 => ?_)
  · exact absurd (of_decide_eq_true c_13) (nI_n0 (by omega))
  refine ps_st (S' := (17, [(0, .ref m0), (1, .int (nI j)), (2, .int t)], [.int (nI j)], M7)) rfl rfl rfl ?_
  refine ps_st (S' := (18, [(0, .ref m0), (1, .int (nI j)), (2, .int t)], [.ref m0, .int (nI j)], M7)) rfl rfl rfl ?_
  refine pr_int (j := 71) (S' := (21, [(0, .ref m0), (1, .int (nI j)), (2, .int t)], [.int (nI bc), .int (nI j)], M7)) rfl hR9 rfl hi13 rfl ?_
  refine ps_if2 (S1 := (28, [], [], M7)) (S2 := (24, [(0, .ref m0), (1, .int (nI j)), (2, .int t)], [], M7)) rfl rfl rfl (fun c_21 => ?_) (fun c_21 => ?_)
  · exact absurd (of_decide_eq_true c_21) (Int32.not_le.mpr ((lt_nI (by omega) (by omega)).mpr hj))
  refine ps_st (S' := (25, [(0, .ref m0), (1, .int (nI j)), (2, .int t)], [.int t], M7)) rfl rfl rfl ?_
  refine ps_if (S1 := (30, [(0, .ref m0), (1, .int (nI j)), (2, .int t)], [], M7)) (S2 := (28, [], [], M7)) rfl rfl rfl (fun c_25 => ?_) (fun c_25 => ?_)
  rotate_left
  · exact absurd (Int32.not_lt.mp ht0) (of_decide_eq_false c_25)
  refine ps_st (S' := (31, [(0, .ref m0), (1, .int (nI j)), (2, .int t)], [.ref m0], M7)) rfl rfl rfl ?_
  refine pr_int (j := 70) (S' := (34, [(0, .ref m0), (1, .int (nI j)), (2, .int t)], [.int (nI (bp - 2))], M7)) rfl hR9 rfl hi14 rfl ?_
  refine ps_st (S' := (35, [(0, .ref m0), (1, .int (nI j)), (2, .int t)], [.int 2, .int (nI (bp - 2))], M7)) rfl rfl rfl ?_
  refine ps_st (S' := (36, [(0, .ref m0), (1, .int (nI j)), (2, .int t)], [.int ((nI (bp - 2)) + 2)], M7)) rfl rfl rfl ?_
  rw [nI_add1 (p := bp - 2) (k := 2) (x := 2) rfl (by omega)]
  show pl _ _ _ (_, [(0, .ref m0), (1, .int (nI j)), (2, .int t)], [.int (nI (bp - 2 + 2))], M7) _
  refine ps_st (S' := (37, [(3, .int (nI (bp - 2 + 2))), (0, .ref m0), (1, .int (nI j)), (2, .int t)], [], M7)) rfl rfl rfl ?_
  rw [show bp - 2 + 2 = bp by omega]
  show pl _ _ _ (37, [(3, .int (nI bp)), (0, .ref m0), (1, .int (nI j)), (2, .int t)], [], M7) _
  refine ps_st (S' := (38, [(3, .int (nI bp)), (0, .ref m0), (1, .int (nI j)), (2, .int t)], [.int 0], M7)) rfl rfl rfl ?_
  refine ps_st (S' := (40, [(0, .ref m0), (1, .int (nI j)), (2, .int t), (3, .int (nI bp)), (4, .int 0)], [], M7)) rfl rfl rfl ?_
  exact (LL kf) (0) (bp) M7 I8 R hR9 hEI16 hER hi10 hF_15 (by omega) (hbs) (rfl)
set_option maxHeartbeats 1000000 in
theorem rd_bootstrapG {g : xe_G} {m0 : Nat} {q : Nat → Nat} {z : Nat × Nat} {I : rI} {R : rR} {M : mi_H} {n : Nat} {f : Nat → Int32} {n2 bc bp j e u : Nat} (hR : RS g m0 q z I R M) (hi18 : I 18 = some (nI n2)) (hi71 : I 71 = some (nI bc)) (hi70 : I 70 = some (nI (bp - 2))) (hF : FK n f I R) (hn2 : n2 ≤ 65540) (hbp : 8 ≤ bp) (hbc : bc < 65536) (hj : j < bc) (he : e ≤ n) (hbs : s_bsE f e bc bp = some e) (hu : u ≤ by2 f (bsP f j bp + 2)) : pt (mT g) 184 [.ref m0, .int (nI j), .int (nI u)] M (fun v M' => (∃  (I' : rI) (R' : rR), v = some (.int (bsV f (bsP f j bp) u)) ∧ RS g m0 q z I' R' M' ∧ eqI [0] I I' ∧ eqR [] R R' ∧ I' 0 = some 0)) := by
  refine pt_in (b := mb_184 g) rfl (fun kf => ?_)
  show pl (mT g) kf (mb_184 g).2 (0, [(0, .ref m0), (1, .int (nI j)), (2, .int (nI u))], [], M) _
  have hEI : eqI [0] I I := eqI.rf
  have hER : eqR [] R R := eqR.rf
  have hn := hF.1
  have hin8 := s_bsE_in (c := bc) (i := 0) (p := bp) hbs (by omega)
  have hu7 := by2_lt f (bsP f j bp + 2)
  have LL : ∀ (kf : Nat), (∀ (a p : Nat) (M1 : mi_H) (I1 : rI) (R1 : rR), (RS g m0 q z I1 R1 M1) → (eqI [0] I I1) → (eqR [] R R1) → (I1 0 = some 0) → (FK n f I1 R1) → (a ≤ j) → (s_bsE f e (bc - a) p = some e) → (bsP f (j - a) p = bsP f j bp) →  pl (mT g) kf (mb_184 g).2 (40, [(0, .ref m0), (1, .int (nI j)), (2, .int (nI u)), (3, .int (nI p)), (4, .int (nI a))], [], M1) (fun v M' => (∃  (I' : rI) (R' : rR), v = some (.int (bsV f (bsP f j bp) u)) ∧ RS g m0 q z I' R' M' ∧ eqI [0] I I' ∧ eqR [] R R' ∧ I' 0 = some 0))) := by
    intro kf
    induction kf with
    | zero => exact (by intros; exact pl_0)
    | succ kf ih =>
      intro a p M1 I1 R1 hR1 hEI1 hER1 hl0 hF1 ha hf hp
      have hn := hF1.1
      have hin9 := s_bsE_in (i := a) (p := p) hf (by omega)
      refine ps_st1 (S' := (42, [(0, .ref m0), (1, .int (nI j)), (2, .int (nI u)), (3, .int (nI p)), (4, .int (nI a))], [.int (nI a)], M1)) rfl rfl rfl ?_
      refine ps_st (S' := (43, [(0, .ref m0), (1, .int (nI j)), (2, .int (nI u)), (3, .int (nI p)), (4, .int (nI a))], [.int (nI j), .int (nI a)], M1)) rfl rfl rfl ?_
      refine ps_if2 (S1 := (66, [(0, .ref m0), (1, .int (nI j)), (2, .int (nI u)), (3, .int (nI p)), (4, .int (nI a))], [], M1)) (S2 := (46, [(0, .ref m0), (1, .int (nI j)), (2, .int (nI u)), (3, .int (nI p)), (4, .int (nI a))], [], M1)) rfl rfl rfl (fun c_43 => ?_) (fun c_43 => ?_)
      · have c_43 : (nI j) ≤ (nI a) := of_decide_eq_true c_43
        have n_43 : j ≤ a := (le_nI (p := j) (n := a) (by omega) (by omega)).mp c_43
        have eP : p = bsP f j bp := by rw [← hp, show j - a = 0 by omega]; rfl
        rw [← eP] at hu
        have hu8 := by2_lt f (p + 2)
        refine ps_st (S' := (67, [(0, .ref m0), (1, .int (nI j)), (2, .int (nI u)), (3, .int (nI p)), (4, .int (nI a))], [.int (nI u)], M1)) rfl rfl rfl ?_
        refine ps_if (S1 := (76, [(0, .ref m0), (1, .int (nI j)), (2, .int (nI u)), (3, .int (nI p)), (4, .int (nI a))], [], M1)) (S2 := (70, [(0, .ref m0), (1, .int (nI j)), (2, .int (nI u)), (3, .int (nI p)), (4, .int (nI a))], [], M1)) rfl rfl rfl (fun c_67 => ?_) (fun c_67 => ?_)
        · have c_67 : ¬ (nI u) = 0 := of_decide_eq_true c_67
          have n_67 : ¬ (u = 0) := fun h9 => c_67 ((eq_nI (p := u) (n := 0) (by omega) (by decide)).mpr h9)
          refine ps_st (S' := (77, [(0, .ref m0), (1, .int (nI j)), (2, .int (nI u)), (3, .int (nI p)), (4, .int (nI a))], [.int (nI u)], M1)) rfl rfl rfl ?_
          refine ps_st (S' := (78, [(0, .ref m0), (1, .int (nI j)), (2, .int (nI u)), (3, .int (nI p)), (4, .int (nI a))], [.ref m0, .int (nI u)], M1)) rfl rfl rfl ?_
          refine ps_st (S' := (79, [(0, .ref m0), (1, .int (nI j)), (2, .int (nI u)), (3, .int (nI p)), (4, .int (nI a))], [.int (nI p), .ref m0, .int (nI u)], M1)) rfl rfl rfl ?_
          refine ps_st (S' := (80, [(0, .ref m0), (1, .int (nI j)), (2, .int (nI u)), (3, .int (nI p)), (4, .int (nI a))], [.int 2, .int (nI p), .ref m0, .int (nI u)], M1)) rfl rfl rfl ?_
          refine ps_st (S' := (81, [(0, .ref m0), (1, .int (nI j)), (2, .int (nI u)), (3, .int (nI p)), (4, .int (nI a))], [.int ((nI p) + 2), .ref m0, .int (nI u)], M1)) rfl rfl rfl ?_
          rw [nI_add1 (p := p) (k := 2) (x := 2) rfl (by omega)]
          show pl _ _ _ (_, [(0, .ref m0), (1, .int (nI j)), (2, .int (nI u)), (3, .int (nI p)), (4, .int (nI a))], [.int (nI (p + 2)), .ref m0, .int (nI u)], M1) _
          refine pl_call (a := [.ref m0, .int (nI (p + 2))]) (rest := [.int (nI u)]) rfl rfl rfl (rd_u2 (n := n) (f := f) (p := (p + 2)) hR1 hF1 (by omega)) (fun v1 M2 q3 => ?_)
          obtain ⟨rfl, rfl⟩ := q3
          show pl _ _ _ (84, [(0, .ref m0), (1, .int (nI j)), (2, .int (nI u)), (3, .int (nI p)), (4, .int (nI a))], [.int (nI (by2 f (p + 2))), .int (nI u)], M1) _
          have hu_81 := by2_lt f (p + 2)
          refine ps_if2 (S1 := (91, [(0, .ref m0), (1, .int (nI j)), (2, .int (nI u)), (3, .int (nI p)), (4, .int (nI a))], [], M1)) (S2 := (87, [(0, .ref m0), (1, .int (nI j)), (2, .int (nI u)), (3, .int (nI p)), (4, .int (nI a))], [], M1)) rfl rfl rfl (fun c_84 => ?_) (fun c_84 => ?_)
          rotate_left
          · exact absurd ((le_nI (p := u) (n := by2 f (p + 2)) (by omega) (Nat.lt_trans (by2_lt _ _) (by decide))).mpr hu) (of_decide_eq_false c_84)
          refine ps_st (S' := (92, [(0, .ref m0), (1, .int (nI j)), (2, .int (nI u)), (3, .int (nI p)), (4, .int (nI a))], [.ref m0], M1)) rfl rfl rfl ?_
          refine ps_st (S' := (93, [(0, .ref m0), (1, .int (nI j)), (2, .int (nI u)), (3, .int (nI p)), (4, .int (nI a))], [.int (nI p), .ref m0], M1)) rfl rfl rfl ?_
          refine ps_st (S' := (94, [(0, .ref m0), (1, .int (nI j)), (2, .int (nI u)), (3, .int (nI p)), (4, .int (nI a))], [.int 2, .int (nI p), .ref m0], M1)) rfl rfl rfl ?_
          refine ps_st (S' := (95, [(0, .ref m0), (1, .int (nI j)), (2, .int (nI u)), (3, .int (nI p)), (4, .int (nI a))], [.int ((nI p) + 2), .ref m0], M1)) rfl rfl rfl ?_
          rw [nI_add1 (p := p) (k := 2) (x := 2) rfl (by omega)]
          show pl _ _ _ (_, [(0, .ref m0), (1, .int (nI j)), (2, .int (nI u)), (3, .int (nI p)), (4, .int (nI a))], [.int (nI (p + 2)), .ref m0], M1) _
          refine ps_st (S' := (96, [(0, .ref m0), (1, .int (nI j)), (2, .int (nI u)), (3, .int (nI p)), (4, .int (nI a))], [.int 2, .int (nI (p + 2)), .ref m0], M1)) rfl rfl rfl ?_
          refine ps_st (S' := (97, [(0, .ref m0), (1, .int (nI j)), (2, .int (nI u)), (3, .int (nI p)), (4, .int (nI a))], [.int (nI u), .int 2, .int (nI (p + 2)), .ref m0], M1)) rfl rfl rfl ?_
          refine ps_st (S' := (98, [(0, .ref m0), (1, .int (nI j)), (2, .int (nI u)), (3, .int (nI p)), (4, .int (nI a))], [.int (2 * (nI u)), .int (nI (p + 2)), .ref m0], M1)) rfl rfl rfl ?_
          rw [nI_mul1 (p := 2) (k := u) (x := 2) (y := (nI u)) rfl rfl (by omega)]
          show pl _ _ _ (_, [(0, .ref m0), (1, .int (nI j)), (2, .int (nI u)), (3, .int (nI p)), (4, .int (nI a))], [.int (nI (2 * u)), .int (nI (p + 2)), .ref m0], M1) _
          refine ps_st (S' := (99, [(0, .ref m0), (1, .int (nI j)), (2, .int (nI u)), (3, .int (nI p)), (4, .int (nI a))], [.int ((nI (p + 2)) + (nI (2 * u))), .ref m0], M1)) rfl rfl rfl ?_
          rw [nI_add1 (p := p + 2) (k := 2 * u) (x := (nI (2 * u))) rfl (by omega)]
          show pl _ _ _ (_, [(0, .ref m0), (1, .int (nI j)), (2, .int (nI u)), (3, .int (nI p)), (4, .int (nI a))], [.int (nI (p + 2 + 2 * u)), .ref m0], M1) _
          refine pl_call (a := [.ref m0, .int (nI (p + 2 + 2 * u))]) (rest := []) rfl rfl rfl (rd_u2 (n := n) (f := f) (p := (p + 2 + 2 * u)) hR1 hF1 (by omega)) (fun v4 M5 q6 => ?_)
          obtain ⟨rfl, rfl⟩ := q6
          show pl _ _ _ (102, [], [.int (nI (by2 f (p + 2 + 2 * u)))], M1) _
          have hu_99 := by2_lt f (p + 2 + 2 * u)
          exact ps_reti rfl (⟨I1, R1, congrArg (fun x => some (Value.int x)) (show (nI (by2 f (p + 2 + 2 * u))) = bsV f (bsP f j bp) u from by rw [← eP]; unfold bsV; rw [if_neg (by omega)]), hR1, hEI1, hER1, hl0⟩)
        · have c_67 : ¬ (¬ (nI u) = 0) := of_decide_eq_false c_67
          have n_67 : u = 0 := (eq_nI (p := u) (n := 0) (by omega) (by decide)).mp (Decidable.not_not.mp c_67)
          refine ps_st (S' := (71, [(0, .ref m0), (1, .int (nI j)), (2, .int (nI u)), (3, .int (nI p)), (4, .int (nI a))], [.ref m0], M1)) rfl rfl rfl ?_
          refine ps_st (S' := (72, [(0, .ref m0), (1, .int (nI j)), (2, .int (nI u)), (3, .int (nI p)), (4, .int (nI a))], [.int (nI p), .ref m0], M1)) rfl rfl rfl ?_
          refine pl_call (a := [.ref m0, .int (nI p)]) (rest := []) rfl rfl rfl (rd_u2 (n := n) (f := f) (p := p) hR1 hF1 (by omega)) (fun v7 M8 q9 => ?_)
          obtain ⟨rfl, rfl⟩ := q9
          show pl _ _ _ (75, [(0, .ref m0), (1, .int (nI j)), (2, .int (nI u)), (3, .int (nI p)), (4, .int (nI a))], [.int (nI (by2 f p))], M1) _
          have hu_72 := by2_lt f p
          exact ps_reti rfl (⟨I1, R1, congrArg (fun x => some (Value.int x)) (show (nI (by2 f p)) = bsV f (bsP f j bp) u from by rw [← eP]; unfold bsV; rw [if_pos (by omega)]), hR1, hEI1, hER1, hl0⟩)
      · have c_43 : ¬ ((nI j) ≤ (nI a)) := of_decide_eq_false c_43
        have n_43 : ¬ (j ≤ a) := fun h9 => c_43 ((le_nI (p := j) (n := a) (by omega) (by omega)).mpr h9)
        refine ps_st (S' := (47, [(0, .ref m0), (1, .int (nI j)), (2, .int (nI u)), (3, .int (nI p)), (4, .int (nI a))], [.int (nI p)], M1)) rfl rfl rfl ?_
        refine ps_st (S' := (48, [(0, .ref m0), (1, .int (nI j)), (2, .int (nI u)), (3, .int (nI p)), (4, .int (nI a))], [.int 4, .int (nI p)], M1)) rfl rfl rfl ?_
        refine ps_st (S' := (49, [(0, .ref m0), (1, .int (nI j)), (2, .int (nI u)), (3, .int (nI p)), (4, .int (nI a))], [.int 2, .int 4, .int (nI p)], M1)) rfl rfl rfl ?_
        refine ps_st (S' := (50, [(0, .ref m0), (1, .int (nI j)), (2, .int (nI u)), (3, .int (nI p)), (4, .int (nI a))], [.ref m0, .int 2, .int 4, .int (nI p)], M1)) rfl rfl rfl ?_
        refine ps_st (S' := (51, [(0, .ref m0), (1, .int (nI j)), (2, .int (nI u)), (3, .int (nI p)), (4, .int (nI a))], [.int (nI p), .ref m0, .int 2, .int 4, .int (nI p)], M1)) rfl rfl rfl ?_
        refine ps_st (S' := (52, [(0, .ref m0), (1, .int (nI j)), (2, .int (nI u)), (3, .int (nI p)), (4, .int (nI a))], [.int 2, .int (nI p), .ref m0, .int 2, .int 4, .int (nI p)], M1)) rfl rfl rfl ?_
        refine ps_st (S' := (53, [(0, .ref m0), (1, .int (nI j)), (2, .int (nI u)), (3, .int (nI p)), (4, .int (nI a))], [.int ((nI p) + 2), .ref m0, .int 2, .int 4, .int (nI p)], M1)) rfl rfl rfl ?_
        rw [nI_add1 (p := p) (k := 2) (x := 2) rfl (by omega)]
        show pl _ _ _ (_, [(0, .ref m0), (1, .int (nI j)), (2, .int (nI u)), (3, .int (nI p)), (4, .int (nI a))], [.int (nI (p + 2)), .ref m0, .int 2, .int 4, .int (nI p)], M1) _
        refine pl_call (a := [.ref m0, .int (nI (p + 2))]) (rest := [.int 2, .int 4, .int (nI p)]) rfl rfl rfl (rd_u2 (n := n) (f := f) (p := (p + 2)) hR1 hF1 (by omega)) (fun v10 M11 q12 => ?_)
        obtain ⟨rfl, rfl⟩ := q12
        show pl _ _ _ (56, [(0, .ref m0), (1, .int (nI j)), (2, .int (nI u)), (3, .int (nI p)), (4, .int (nI a))], [.int (nI (by2 f (p + 2))), .int 2, .int 4, .int (nI p)], M1) _
        have hu_53 := by2_lt f (p + 2)
        refine ps_st (S' := (57, [(0, .ref m0), (1, .int (nI j)), (2, .int (nI u)), (3, .int (nI p)), (4, .int (nI a))], [.int (2 * (nI (by2 f (p + 2)))), .int 4, .int (nI p)], M1)) rfl rfl rfl ?_
        rw [nI_mul1 (p := 2) (k := by2 f (p + 2)) (x := 2) (y := (nI (by2 f (p + 2)))) rfl rfl (by omega)]
        show pl _ _ _ (_, [(0, .ref m0), (1, .int (nI j)), (2, .int (nI u)), (3, .int (nI p)), (4, .int (nI a))], [.int (nI (2 * (by2 f (p + 2)))), .int 4, .int (nI p)], M1) _
        refine ps_st (S' := (58, [(0, .ref m0), (1, .int (nI j)), (2, .int (nI u)), (3, .int (nI p)), (4, .int (nI a))], [.int (4 + (nI (2 * (by2 f (p + 2))))), .int (nI p)], M1)) rfl rfl rfl ?_
        rw [nI_add2 (p := 4) (k := 2 * (by2 f (p + 2))) (x := 4) (y := (nI (2 * (by2 f (p + 2))))) rfl rfl (by omega)]
        show pl _ _ _ (_, [(0, .ref m0), (1, .int (nI j)), (2, .int (nI u)), (3, .int (nI p)), (4, .int (nI a))], [.int (nI (4 + 2 * (by2 f (p + 2)))), .int (nI p)], M1) _
        refine ps_st (S' := (59, [(0, .ref m0), (1, .int (nI j)), (2, .int (nI u)), (3, .int (nI p)), (4, .int (nI a))], [.int ((nI p) + (nI (4 + 2 * (by2 f (p + 2)))))], M1)) rfl rfl rfl ?_
        rw [nI_add1 (p := p) (k := 4 + 2 * (by2 f (p + 2))) (x := (nI (4 + 2 * (by2 f (p + 2))))) rfl (by omega)]
        rw [show nI (p + (4 + 2 * (by2 f (p + 2)))) = nI (p + 4 + 2 * (by2 f (p + 2))) from congrArg nI (by omega)]
        show pl _ _ _ (_, [(0, .ref m0), (1, .int (nI j)), (2, .int (nI u)), (3, .int (nI p)), (4, .int (nI a))], [.int (nI (p + 4 + 2 * (by2 f (p + 2))))], M1) _
        refine ps_st (S' := (60, [(3, .int (nI (p + 4 + 2 * (by2 f (p + 2))))), (0, .ref m0), (1, .int (nI j)), (2, .int (nI u)), (4, .int (nI a))], [], M1)) rfl rfl rfl ?_
        refine ps_st (S' := (63, [(4, .int ((nI a) + 1)), (3, .int (nI (p + 4 + 2 * (by2 f (p + 2))))), (0, .ref m0), (1, .int (nI j)), (2, .int (nI u))], [], M1)) rfl rfl rfl ?_
        rw [nI_add1 (p := a) (k := 1) (x := 1) rfl (by omega)]
        show pl _ _ _ (_, [(4, .int (nI (a + 1))), (3, .int (nI (p + 4 + 2 * (by2 f (p + 2))))), (0, .ref m0), (1, .int (nI j)), (2, .int (nI u))], [], M1) _
        refine ps_st (S' := (40, [(0, .ref m0), (1, .int (nI j)), (2, .int (nI u)), (3, .int (nI (p + 4 + 2 * (by2 f (p + 2))))), (4, .int (nI (a + 1)))], [], M1)) rfl rfl rfl ?_
        exact ih (a + 1) (p + 4 + 2 * by2 f (p + 2)) M1 I1 R1 hR1 hEI1 hER1 hl0 hF1 (by omega) (hin9.2.2) (by
            rw [← hp, bsP_st (i := a) (by omega)])
  refine ps_st (S' := (1, [(0, .ref m0), (1, .int (nI j)), (2, .int (nI u))], [.ref m0], M)) rfl rfl rfl ?_
  refine ps_st (S' := (2, [(0, .ref m0), (1, .int (nI j)), (2, .int (nI u))], [.int 0, .ref m0], M)) rfl rfl rfl ?_
  refine pr_put (j := 0) rfl hR rfl (fun M13 I14 hR15 hi16 hI17 => ?_)
  have hi19 := (hI17 18 (by decide)).trans hi18
  have hi20 := (hI17 71 (by decide)).trans hi71
  have hi21 := (hI17 70 (by decide)).trans hi70
  have hF_22 := hF.mono (pIx hI17 (by decide)) (fun _ _ => rfl)
  have hEI23 := hEI.put hI17 (by decide)
  show pl _ _ _ (5, [(0, .ref m0), (1, .int (nI j)), (2, .int (nI u))], [], M13) _
  refine ps_st (S' := (6, [(0, .ref m0), (1, .int (nI j)), (2, .int (nI u))], [.ref m0], M13)) rfl rfl rfl ?_
  refine pr_int (j := 18) (S' := (9, [(0, .ref m0), (1, .int (nI j)), (2, .int (nI u))], [.int (nI n2)], M13)) rfl hR15 rfl hi19 rfl ?_
  refine ps_if (S1 := (28, [], [], M13)) (S2 := (12, [(0, .ref m0), (1, .int (nI j)), (2, .int (nI u))], [], M13)) rfl rfl rfl (fun c_9 => ?_) (fun c_9 => ?_)
  · exact absurd (of_decide_eq_true c_9) (show ¬ ((nI n2) < 0) from fun h9 => absurd ((lt_nI (p := n2) (n := 0) (by omega) (by decide)).mp h9) (by omega))
  refine ps_st (S' := (13, [(0, .ref m0), (1, .int (nI j)), (2, .int (nI u))], [.int (nI j)], M13)) rfl rfl rfl ?_
  refine ps_if (S1 := (28, [], [], M13)) (S2 := (16, [(0, .ref m0), (1, .int (nI j)), (2, .int (nI u))], [], M13)) rfl rfl rfl (fun c_13 => ?_) (fun c_13 => ?_)
  · exact absurd (of_decide_eq_true c_13) (show ¬ ((nI j) < 0) from fun h9 => absurd ((lt_nI (p := j) (n := 0) (by omega) (by decide)).mp h9) (by omega))
  refine ps_st (S' := (17, [(0, .ref m0), (1, .int (nI j)), (2, .int (nI u))], [.int (nI j)], M13)) rfl rfl rfl ?_
  refine ps_st (S' := (18, [(0, .ref m0), (1, .int (nI j)), (2, .int (nI u))], [.ref m0, .int (nI j)], M13)) rfl rfl rfl ?_
  refine pr_int (j := 71) (S' := (21, [(0, .ref m0), (1, .int (nI j)), (2, .int (nI u))], [.int (nI bc), .int (nI j)], M13)) rfl hR15 rfl hi20 rfl ?_
  refine ps_if2 (S1 := (28, [], [], M13)) (S2 := (24, [(0, .ref m0), (1, .int (nI j)), (2, .int (nI u))], [], M13)) rfl rfl rfl (fun c_21 => ?_) (fun c_21 => ?_)
  · exact absurd (of_decide_eq_true c_21) (Int32.not_le.mpr ((lt_nI (by omega) (by omega)).mpr hj))
  refine ps_st (S' := (25, [(0, .ref m0), (1, .int (nI j)), (2, .int (nI u))], [.int (nI u)], M13)) rfl rfl rfl ?_
  refine ps_if (S1 := (30, [(0, .ref m0), (1, .int (nI j)), (2, .int (nI u))], [], M13)) (S2 := (28, [], [], M13)) rfl rfl rfl (fun c_25 => ?_) (fun c_25 => ?_)
  rotate_left
  · exact absurd ((le_nI (p := 0) (n := u) (by decide) (by omega)).mpr (by omega)) (of_decide_eq_false c_25)
  refine ps_st (S' := (31, [(0, .ref m0), (1, .int (nI j)), (2, .int (nI u))], [.ref m0], M13)) rfl rfl rfl ?_
  refine pr_int (j := 70) (S' := (34, [(0, .ref m0), (1, .int (nI j)), (2, .int (nI u))], [.int (nI (bp - 2))], M13)) rfl hR15 rfl hi21 rfl ?_
  refine ps_st (S' := (35, [(0, .ref m0), (1, .int (nI j)), (2, .int (nI u))], [.int 2, .int (nI (bp - 2))], M13)) rfl rfl rfl ?_
  refine ps_st (S' := (36, [(0, .ref m0), (1, .int (nI j)), (2, .int (nI u))], [.int ((nI (bp - 2)) + 2)], M13)) rfl rfl rfl ?_
  rw [nI_add1 (p := bp - 2) (k := 2) (x := 2) rfl (by omega)]
  show pl _ _ _ (_, [(0, .ref m0), (1, .int (nI j)), (2, .int (nI u))], [.int (nI (bp - 2 + 2))], M13) _
  refine ps_st (S' := (37, [(3, .int (nI (bp - 2 + 2))), (0, .ref m0), (1, .int (nI j)), (2, .int (nI u))], [], M13)) rfl rfl rfl ?_
  rw [show bp - 2 + 2 = bp by omega]
  show pl _ _ _ (37, [(3, .int (nI bp)), (0, .ref m0), (1, .int (nI j)), (2, .int (nI u))], [], M13) _
  refine ps_st (S' := (38, [(3, .int (nI bp)), (0, .ref m0), (1, .int (nI j)), (2, .int (nI u))], [.int 0], M13)) rfl rfl rfl ?_
  refine ps_st (S' := (40, [(0, .ref m0), (1, .int (nI j)), (2, .int (nI u)), (3, .int (nI bp)), (4, .int 0)], [], M13)) rfl rfl rfl ?_
  exact (LL kf) (0) (bp) M13 I14 R hR15 hEI23 hER hi16 hF_22 (by omega) (hbs) (rfl)
theorem rd_bootstrap {g : xe_G} {m0 : Nat} {q : Nat → Nat} {z : Nat × Nat} {I : rI} {R : rR} {M : mi_H} {ko : Option (Nat × (Nat → Int32))} {i t : Int32} (hR : RS g m0 q z I R M) (hK : KPR ko I R) : pt (mT g) 184 [.ref m0, .int i, .int t] M (fun v M' => ∃ (I' : rI) (R' : rR), v = some (.int (bsK ko i t)) ∧ RS g m0 q z I' R' M' ∧ eqI [0] I I' ∧ eqR [] R R' ∧ I' 0 = some 0) := by
  cases ko with
  | none =>
    obtain ⟨kn, h1, h2⟩ := hK
    exact rd_bootstrap0 hR h1 h2
  | some r =>
    obtain ⟨h1, h2, -, -, tx, cN, A, E, N, mj, p1, pF, pM, pA, k1, k2, k3, k4, k5, k6, k7, rfl, rfl, m1, m2, m3, m4, m5, m6, m7, m8, -, bc, K, m9, m10, g1, g2, g3, g4, g5, g6, g7⟩ := hK
    rw [bsK_is k7 m9 m10]
    unfold bsI
    by_cases hi : i < 0 ∨ nI bc ≤ i
    · rw [if_pos hi]
      exact rd_bootstrapN hR h1 g1 h2 (Or.inl hi)
    · rw [if_neg hi]
      have hbc := clS_bc m9
      obtain ⟨ei, hj⟩ := i32_in (by omega) hi
      obtain ⟨j, ej⟩ : ∃ j, j = i.toNatClampNeg := ⟨_, rfl⟩
      rw [← ej] at ei hj ⊢
      rcases cl_bt m8 m9 m10 with h9 | ⟨hbp, e, he, hbs⟩
      · omega
      · have g8 : I 70 = some (nI (K.2.1 - 2)) := by
          rw [g6]
          unfold b7
          rw [if_neg (by omega)]
        by_cases ht : t < 0 ∨ nI (by2 r.2 (bsP r.2 j K.2.1 + 2)) < t
        · rw [if_pos ht]
          by_cases h0 : t < 0
          · exact rd_bootstrapN hR h1 g1 h2 (Or.inr h0)
          · rw [ei]
            exact rd_bootstrapB hR h1 g1 g8 k1 h2 hbp hbc hj he hbs h0 (ht.resolve_left h0)
        · rw [if_neg ht]
          have hu7 := by2_lt r.2 (bsP r.2 j K.2.1 + 2)
          have h0 : ¬ t < 0 := fun q => ht (Or.inl q)
          have et := i32_nn h0
          have hle : t.toNatClampNeg ≤ by2 r.2 (bsP r.2 j K.2.1 + 2) := by
            have h1 := Int32.le_iff_toInt_le.mp (Int32.not_lt.mp (fun q => ht (Or.inr q)))
            rw [nI_val (by omega)] at h1
            have h2 := i32_to h0
            omega
          obtain ⟨u, eu⟩ : ∃ u, u = t.toNatClampNeg := ⟨_, rfl⟩
          rw [← eu] at et hle ⊢
          rw [ei, et]
          exact rd_bootstrapG hR h1 g1 g8 k1 h2 hbp hbc hj he hbs hle
end
section
/-! the counts, as both sides tell them (my own text) -/
section CNA
variable {f : Nat → Int32} {n N : Nat} {E : List (Nat × Nat)}
def cnV (f : Nat → Int32) (n : Nat) (E : List (Nat × Nat)) (p1 pF pM bc : Nat) (K : KT) (w : Nat) : Int32 :=
  if w = 0 then nI (by2 f 8) else if w = 1 then nI (mbs f n (by2 f pF) (pF + 2)).length else if w = 2 then nI (mbs f n (by2 f pM) (pM + 2)).length else if w = 3 then nI (by2 f (p1 + 6)) else if w = 4 then nI bc else if w = 5 then nI K.1 else if w = 6 then nI (by2 f p1) else if w = 7 then nI (by2 f 6) else if w = 8 then nI (by2 f 4) else if w = 9 then nI (by2 f (p1 + 2)) else if w = 10 then nI (by2 f (p1 + 4)) else if w = 11 then nI (chL f n E) else if w = 12 then nI K.2.2.1 else if w = 13 then nI K.2.2.2.1 else if w = 14 then nI K.2.2.2.2.1 else K.2.2.2.2.2
/-- what is kept tells it -/
def cnK (ko : Option (Nat × (Nat → Int32))) (w : Int32) : Int32 := match ko with
  | none => -1
  | some r => match s_whole r.2 r.1 with
    | .inl _ => -1
    | .inr y => match clS r.2 r.1 y.1 (by2 r.2 y.2.1) (by2 r.2 6) (by2 r.2 y.2.2.2.2) (y.2.2.2.2 + 2) 0 0 with
      | .inl _ => -1
      | .inr bc => cnV r.2 r.1 y.1 y.2.1 y.2.2.1 y.2.2.2.1 bc (clU r.2 r.1 y.1 (by2 r.2 6) (by2 r.2 y.2.2.2.2) (y.2.2.2.2 + 2) (0, 0, 0, 0, 0, -1)) w.toNatClampNeg
theorem cnK_is {r : Nat × (Nat → Int32)} {w : Int32} {p1 pF pM pA bc : Nat} {K : KT} (h : s_whole r.2 r.1 = .inr (E, p1, pF, pM, pA)) (hB : clS r.2 r.1 E (by2 r.2 p1) (by2 r.2 6) (by2 r.2 pA) (pA + 2) 0 0 = .inr bc) (hU : clU r.2 r.1 E (by2 r.2 6) (by2 r.2 pA) (pA + 2) (0, 0, 0, 0, 0, -1) = K) : cnK (some r) w = cnV r.2 r.1 E p1 pF pM bc K w.toNatClampNeg := by
  show (match s_whole r.2 r.1 with | .inl _ => (-1 : Int32) | .inr y => match clS r.2 r.1 y.1 (by2 r.2 y.2.1) (by2 r.2 6) (by2 r.2 y.2.2.2.2) (y.2.2.2.2 + 2) 0 0 with | .inl _ => (-1 : Int32) | .inr bc => cnV r.2 r.1 y.1 y.2.1 y.2.2.1 y.2.2.2.1 bc (clU r.2 r.1 y.1 (by2 r.2 6) (by2 r.2 y.2.2.2.2) (y.2.2.2.2 + 2) (0, 0, 0, 0, 0, -1)) w.toNatClampNeg) = _
  rw [h]
  dsimp only
  rw [hB]
  dsimp only
  rw [hU]
theorem i32_16 {w : Int32} (h0 : ¬ w < 0) (h1 : w ≤ 15) : w = nI w.toNatClampNeg ∧ w.toNatClampNeg < 16 := by
  have a := Int32.le_iff_toInt_le.mp h1
  have e : (15 : Int32).toInt = 15 := rfl
  have b := i32_to h0
  exact ⟨i32_nn h0, by omega⟩
/-- the same number, entry by entry -/
def chX (f : Nat → Int32) (n : Nat) (E : List (Nat × Nat)) : Nat → Nat
  | 0 => 0
  | k + 1 => chX f n E k + (tX f n E k).length
theorem chX_ext {E' : List (Nat × Nat)} : ∀ {m : Nat}, (∀ j, j < m → lk E' j = lk E j) → chX f n E' m = chX f n E m := by
  intro m
  induction m with
  | zero => intro _; rfl
  | succ m ih =>
    intro h
    show chX f n E' m + (tX f n E' m).length = chX f n E m + (tX f n E m).length
    rw [ih (fun j hj => h j (by omega))]
    unfold tX
    rw [h m (by omega)]
theorem lk_app {k p : Nat} : ∀ {E : List (Nat × Nat)} {j : Nat}, lk (E ++ [(k, p)]) j = match lk E j with
    | some x => some x
    | none => if k = j then some p else none := by
  intro E
  induction E with
  | nil => intro j; rfl
  | cons q r ih =>
    intro j
    show (if q.1 = j then some q.2 else lk (r ++ [(k, p)]) j) = match (if q.1 = j then some q.2 else lk r j) with
      | some x => some x
      | none => if k = j then some p else none
    by_cases h : q.1 = j
    · rw [if_pos h, if_pos h]
    · rw [if_neg h, if_neg h, ih]
theorem tx_ch9 {p k : Nat} (h : lk E k = some p) : (tX f n E k).length = chE f n p := by
  unfold tX chE
  rw [h]
  dsimp only
  by_cases h1 : by1 f p = 1
  · rw [if_pos h1, if_pos h1]
    cases s_utf f n (p + 1) with
    | inl e => rfl
    | inr l => rfl
  · rw [if_neg h1, if_neg h1]
    rfl
theorem chX_pool {mj : Nat} : ∀ {r k p p' : Nat} {E0 E : List (Nat × Nat)}, N - k ≤ r → k ≤ N → (∀ q ∈ E0, q.1 < k) → chX f n E0 k = chL f n E0 → s_ents f n mj N r k p E0 = .inr (p', E) → chX f n E N = chL f n E := by
  intro r
  induction r with
  | zero =>
    intro k p p' E0 E hr hk h0 hc h
    cases h
    rw [show N = k by omega]
    exact hc
  | succ r ih =>
    intro k p p' E0 E hr hk h0 hc h
    unfold s_ents at h
    split at h
    · cases h
      rw [show N = k by omega]
      exact hc
    · cases he : s_entry f n mj N k p with
      | inl e => rw [he] at h; cases h
      | inr y =>
        obtain ⟨p2, x⟩ := y
        rw [he] at h
        have hno : lk E0 k = none := by
          cases hl : lk E0 k with
          | none => rfl
          | some x =>
            have := h0 _ (lk_in hl)
            omega
        have hlk : lk (E0 ++ [(k, p)]) k = some p := by
          rw [lk_app, hno]
          dsimp only
          rw [if_pos rfl]
        have h1 : chX f n (E0 ++ [(k, p)]) (k + 1) = chL f n (E0 ++ [(k, p)]) := by
          show chX f n (E0 ++ [(k, p)]) k + (tX f n (E0 ++ [(k, p)]) k).length = _
          rw [chX_ext (E := E0) (fun j hj => by
            rw [lk_app]
            cases lk E0 j with
            | none =>
              dsimp only
              rw [if_neg (by omega)]
            | some x => rfl), hc, tx_ch9 hlk, chL_app]
          rfl
        have hq : ∀ m, k + 1 ≤ m → ∀ q ∈ E0 ++ [(k, p)], q.1 < m := fun m hm q hq => by
          rcases List.mem_append.mp hq with hq | hq
          · have := h0 q hq
            omega
          · have e : q = (k, p) := by simpa using hq
            rw [e]
            exact hm
        by_cases hw : by1 f p = 5 ∨ by1 f p = 6
        · rw [if_pos hw] at h
          have hk2 : ¬ N ≤ k + 1 := by
            unfold s_entry at he
            split at he
            · cases he
            · split at he
              · cases he
              · split at he
                · cases he
                · rename_i h9
                  exact fun q => h9 ⟨hw, q⟩
          refine ih (by omega) (by omega) (hq _ (by omega)) ?_ h
          show chX f n (E0 ++ [(k, p)]) (k + 1) + (tX f n (E0 ++ [(k, p)]) (k + 1)).length = _
          have hn2 : lk (E0 ++ [(k, p)]) (k + 1) = none := by
            cases hl : lk (E0 ++ [(k, p)]) (k + 1) with
            | none => rfl
            | some x =>
              have := hq (k + 1) (Nat.le_refl _) _ (lk_in hl)
              omega
          rw [h1, show (tX f n (E0 ++ [(k, p)]) (k + 1)).length = 0 by unfold tX; rw [hn2]; rfl]
          rfl
        · rw [if_neg hw] at h
          exact ih (by omega) (by omega) (hq _ (Nat.le_refl _)) h1 h
theorem chX_all {mj p' : Nat} (h : s_pool f n mj = .inr (p', E)) : chX f n E (by2 f 8) = chL f n E := by
  unfold s_pool at h
  split at h
  · cases h
  · split at h
    · cases h
    · refine chX_pool (k := 1) (E0 := []) (by omega) (by omega) (fun q hq => by cases hq) ?_ h
      rfl
theorem utf_len {p : Nat} {l : List Nat} (h : s_utf f n p = .inr l) : l.length ≤ by2 f p := by
  unfold s_utf at h
  split at h
  · cases h
  · split at h
    · cases h
    · cases ht : s_text f (p + 2 + by2 f p) (by2 f p) (p + 2) [] with
      | inl w => rw [ht] at h; cases h
      | inr l' =>
        rw [ht] at h
        cases h
        have := s_text_len ht
        simpa using this
theorem chE_le {p mj k p' : Nat} {x : (List Nat) ⊕ (Option (Nat × Nat))} (h : s_entry f n mj N k p = .inr (p', x)) : chE f n p + p ≤ p' := by
  have h1 := s_entry_le h
  unfold chE
  by_cases h2 : by1 f p = 1
  · rw [if_pos h2]
    unfold s_entry at h
    split at h
    · cases h
    · split at h
      · cases h
      · split at h
        · cases h
        · try rw [if_pos h2] at h
          cases hu : s_utf f n (p + 1) with
          | inl e => rw [hu] at h; cases h
          | inr l =>
            rw [hu] at h
            have h3 := utf_len hu
            cases h
            dsimp only
            omega
  · rw [if_neg h2]
    omega
theorem chL_le {mj : Nat} : ∀ {r k p p' : Nat} {E0 E : List (Nat × Nat)}, chL f n E0 ≤ p → s_ents f n mj N r k p E0 = .inr (p', E) → chL f n E ≤ p' := by
  intro r
  induction r with
  | zero => intro k p p' E0 E h0 h; cases h; exact h0
  | succ r ih =>
    intro k p p' E0 E h0 h
    unfold s_ents at h
    split at h
    · cases h; exact h0
    · cases he : s_entry f n mj N k p with
      | inl e => rw [he] at h; cases h
      | inr y =>
        obtain ⟨p2, x⟩ := y
        rw [he] at h
        refine ih ?_ h
        rw [chL_app]
        have h1 := chE_le he
        unfold chE at h1
        omega
theorem chL_pool {mj p' : Nat} (h : s_pool f n mj = .inr (p', E)) : chL f n E ≤ p' := by
  unfold s_pool at h
  split at h
  · cases h
  · split at h
    · cases h
    · exact chL_le (Nat.zero_le _) h
theorem chX_mono : ∀ {m k : Nat}, k ≤ m → chX f n E k ≤ chX f n E m := by
  intro m
  induction m with
  | zero => intro k hk; rw [show k = 0 by omega]; exact Nat.le_refl _
  | succ m ih =>
    intro k hk
    by_cases h : k = m + 1
    · rw [h]
      exact Nat.le_refl _
    · have := ih (k := k) (by omega)
      show chX f n E k ≤ chX f n E m + _
      omega
end CNA
set_option maxHeartbeats 1000000 in
theorem dk_anum4 {g : xe_G} {M : mi_H} {f : Nat → Int32} {n N q c b da fr mr p1 l1 l2 q1 q2 q3 q4 q5 q6 : Nat} {R1 R2 : Nat → Value} {cc u2 u3 u5 x8 x9 x10 x11 x12 x13 x14 x15 x16 : Int32} (h_c : M.1 c = some (ob 3 [.ref b, .ref q, .int u2, .int u3, .int (nI p1), .int u5, .ref fr, .ref mr, .int x8, .int x9, .int x10, .int x11, .int x12, .int x13, .int x14, .int x15, .int x16]))  : pt (mT g) 69 [.ref c, .int 4] M (fun v M' => (v = some (.int x11) ∧ M = M')) := by
  refine pt_in (b := mb_69 g) rfl (fun kf => ?_)
  show pl (mT g) kf (mb_69 g).2 (0, [(0, .ref c), (1, .int 4)], [], M) _
  refine ps_st (S' := (1, [(0, .ref c), (1, .int 4)], [.int 4], M)) rfl rfl rfl ?_
  refine ps_st (S' := (60, [(0, .ref c), (1, .int 4)], [], M)) rfl rfl rfl ?_
  refine ps_st (S' := (61, [(0, .ref c), (1, .int 4)], [.ref c], M)) rfl rfl rfl ?_
  refine ps_get (S' := (64, [(0, .ref c), (1, .int 4)], [.int x11], M)) rfl h_c rfl rfl ?_
  exact ps_reti rfl (⟨rfl, rfl⟩)
set_option maxHeartbeats 1000000 in
theorem dk_anum5 {g : xe_G} {M : mi_H} {f : Nat → Int32} {n N q c b da fr mr p1 l1 l2 q1 q2 q3 q4 q5 q6 : Nat} {R1 R2 : Nat → Value} {cc u2 u3 u5 x8 x9 x10 x11 x12 x13 x14 x15 x16 : Int32} (h_c : M.1 c = some (ob 3 [.ref b, .ref q, .int u2, .int u3, .int (nI p1), .int u5, .ref fr, .ref mr, .int x8, .int x9, .int x10, .int x11, .int x12, .int x13, .int x14, .int x15, .int x16]))  : pt (mT g) 69 [.ref c, .int 5] M (fun v M' => (v = some (.int x10) ∧ M = M')) := by
  refine pt_in (b := mb_69 g) rfl (fun kf => ?_)
  show pl (mT g) kf (mb_69 g).2 (0, [(0, .ref c), (1, .int 5)], [], M) _
  refine ps_st (S' := (1, [(0, .ref c), (1, .int 5)], [.int 5], M)) rfl rfl rfl ?_
  refine ps_st (S' := (65, [(0, .ref c), (1, .int 5)], [], M)) rfl rfl rfl ?_
  refine ps_st (S' := (66, [(0, .ref c), (1, .int 5)], [.ref c], M)) rfl rfl rfl ?_
  refine ps_get (S' := (69, [(0, .ref c), (1, .int 5)], [.int x10], M)) rfl h_c rfl rfl ?_
  exact ps_reti rfl (⟨rfl, rfl⟩)
set_option maxHeartbeats 1000000 in
theorem dk_anum12 {g : xe_G} {M : mi_H} {f : Nat → Int32} {n N q c b da fr mr p1 l1 l2 q1 q2 q3 q4 q5 q6 : Nat} {R1 R2 : Nat → Value} {cc u2 u3 u5 x8 x9 x10 x11 x12 x13 x14 x15 x16 : Int32} (h_c : M.1 c = some (ob 3 [.ref b, .ref q, .int u2, .int u3, .int (nI p1), .int u5, .ref fr, .ref mr, .int x8, .int x9, .int x10, .int x11, .int x12, .int x13, .int x14, .int x15, .int x16]))  : pt (mT g) 69 [.ref c, .int 12] M (fun v M' => (v = some (.int x13) ∧ M = M')) := by
  refine pt_in (b := mb_69 g) rfl (fun kf => ?_)
  show pl (mT g) kf (mb_69 g).2 (0, [(0, .ref c), (1, .int 12)], [], M) _
  refine ps_st (S' := (1, [(0, .ref c), (1, .int 12)], [.int 12], M)) rfl rfl rfl ?_
  refine ps_st (S' := (70, [(0, .ref c), (1, .int 12)], [], M)) rfl rfl rfl ?_
  refine ps_st (S' := (71, [(0, .ref c), (1, .int 12)], [.ref c], M)) rfl rfl rfl ?_
  refine ps_get (S' := (74, [(0, .ref c), (1, .int 12)], [.int x13], M)) rfl h_c rfl rfl ?_
  exact ps_reti rfl (⟨rfl, rfl⟩)
set_option maxHeartbeats 1000000 in
theorem dk_anum13 {g : xe_G} {M : mi_H} {f : Nat → Int32} {n N q c b da fr mr p1 l1 l2 q1 q2 q3 q4 q5 q6 : Nat} {R1 R2 : Nat → Value} {cc u2 u3 u5 x8 x9 x10 x11 x12 x13 x14 x15 x16 : Int32} (h_c : M.1 c = some (ob 3 [.ref b, .ref q, .int u2, .int u3, .int (nI p1), .int u5, .ref fr, .ref mr, .int x8, .int x9, .int x10, .int x11, .int x12, .int x13, .int x14, .int x15, .int x16]))  : pt (mT g) 69 [.ref c, .int 13] M (fun v M' => (v = some (.int x14) ∧ M = M')) := by
  refine pt_in (b := mb_69 g) rfl (fun kf => ?_)
  show pl (mT g) kf (mb_69 g).2 (0, [(0, .ref c), (1, .int 13)], [], M) _
  refine ps_st (S' := (1, [(0, .ref c), (1, .int 13)], [.int 13], M)) rfl rfl rfl ?_
  refine ps_st (S' := (75, [(0, .ref c), (1, .int 13)], [], M)) rfl rfl rfl ?_
  refine ps_st (S' := (76, [(0, .ref c), (1, .int 13)], [.ref c], M)) rfl rfl rfl ?_
  refine ps_get (S' := (79, [(0, .ref c), (1, .int 13)], [.int x14], M)) rfl h_c rfl rfl ?_
  exact ps_reti rfl (⟨rfl, rfl⟩)
set_option maxHeartbeats 1000000 in
theorem dk_anum14 {g : xe_G} {M : mi_H} {f : Nat → Int32} {n N q c b da fr mr p1 l1 l2 q1 q2 q3 q4 q5 q6 : Nat} {R1 R2 : Nat → Value} {cc u2 u3 u5 x8 x9 x10 x11 x12 x13 x14 x15 x16 : Int32} (h_c : M.1 c = some (ob 3 [.ref b, .ref q, .int u2, .int u3, .int (nI p1), .int u5, .ref fr, .ref mr, .int x8, .int x9, .int x10, .int x11, .int x12, .int x13, .int x14, .int x15, .int x16]))  : pt (mT g) 69 [.ref c, .int 14] M (fun v M' => (v = some (.int x15) ∧ M = M')) := by
  refine pt_in (b := mb_69 g) rfl (fun kf => ?_)
  show pl (mT g) kf (mb_69 g).2 (0, [(0, .ref c), (1, .int 14)], [], M) _
  refine ps_st (S' := (1, [(0, .ref c), (1, .int 14)], [.int 14], M)) rfl rfl rfl ?_
  refine ps_st (S' := (80, [(0, .ref c), (1, .int 14)], [], M)) rfl rfl rfl ?_
  refine ps_st (S' := (81, [(0, .ref c), (1, .int 14)], [.ref c], M)) rfl rfl rfl ?_
  refine ps_get (S' := (84, [(0, .ref c), (1, .int 14)], [.int x15], M)) rfl h_c rfl rfl ?_
  exact ps_reti rfl (⟨rfl, rfl⟩)
set_option maxHeartbeats 1000000 in
theorem dk_anum15 {g : xe_G} {M : mi_H} {f : Nat → Int32} {n N q c b da fr mr p1 l1 l2 q1 q2 q3 q4 q5 q6 : Nat} {R1 R2 : Nat → Value} {cc u2 u3 u5 x8 x9 x10 x11 x12 x13 x14 x15 x16 : Int32} (h_c : M.1 c = some (ob 3 [.ref b, .ref q, .int u2, .int u3, .int (nI p1), .int u5, .ref fr, .ref mr, .int x8, .int x9, .int x10, .int x11, .int x12, .int x13, .int x14, .int x15, .int x16]))  : pt (mT g) 69 [.ref c, .int 15] M (fun v M' => (v = some (.int x16) ∧ M = M')) := by
  refine pt_in (b := mb_69 g) rfl (fun kf => ?_)
  show pl (mT g) kf (mb_69 g).2 (0, [(0, .ref c), (1, .int 15)], [], M) _
  refine ps_st (S' := (1, [(0, .ref c), (1, .int 15)], [.int 15], M)) rfl rfl rfl ?_
  refine ps_st (S' := (85, [(0, .ref c), (1, .int 15)], [], M)) rfl rfl rfl ?_
  refine ps_st (S' := (86, [(0, .ref c), (1, .int 15)], [.ref c], M)) rfl rfl rfl ?_
  refine ps_get (S' := (89, [(0, .ref c), (1, .int 15)], [.int x16], M)) rfl h_c rfl rfl ?_
  exact ps_reti rfl (⟨rfl, rfl⟩)
set_option maxHeartbeats 1000000 in
theorem dk_num0 {g : xe_G} {M : mi_H} {f : Nat → Int32} {n N q c b da fr mr p1 l1 l2 q1 q2 q3 q4 q5 q6 : Nat} {R1 R2 : Nat → Value} {cc u2 u3 u5 x8 x9 x10 x11 x12 x13 x14 x15 x16 : Int32} (h_c : M.1 c = some (ob 3 [.ref b, .ref q, .int u2, .int u3, .int (nI p1), .int u5, .ref fr, .ref mr, .int x8, .int x9, .int x10, .int x11, .int x12, .int x13, .int x14, .int x15, .int x16])) (h_b : M.1 b = some (ob 1 [.ref da])) (h_da : M.1 da = some (ar .byte n f)) (h_q : M.1 q = some (ob 7 [.int (nI N), .ref q1, .ref q2, .ref q3, .ref q4, .ref q5, .ref q6, .int cc])) (h_fr : M.1 fr = some (ro "ClassGate$Member" l1 R1)) (h_mr : M.1 mr = some (ro "ClassGate$Member" l2 R2)) (hn : n ≤ 65540) (hp1 : p1 + 8 ≤ n) : pt (mT g) 73 [.ref c, .int 0] M (fun v M' => (v = some (.int (nI N)) ∧ M = M')) := by
  refine pt_in (b := mb_73 g) rfl (fun kf => ?_)
  show pl (mT g) kf (mb_73 g).2 (0, [(0, .ref c), (1, .int 0)], [], M) _
  refine ps_st (S' := (1, [(0, .ref c), (1, .int 0)], [.int 0], M)) rfl rfl rfl ?_
  refine ps_st (S' := (64, [(0, .ref c), (1, .int 0)], [], M)) rfl rfl rfl ?_
  refine ps_st (S' := (65, [(0, .ref c), (1, .int 0)], [.ref c], M)) rfl rfl rfl ?_
  refine ps_get (S' := (68, [(0, .ref c), (1, .int 0)], [.ref q], M)) rfl h_c rfl rfl ?_
  refine ps_get (S' := (71, [(0, .ref c), (1, .int 0)], [.int (nI N)], M)) rfl h_q rfl rfl ?_
  exact ps_reti rfl (⟨rfl, rfl⟩)
set_option maxHeartbeats 1000000 in
theorem dk_num1 {g : xe_G} {M : mi_H} {f : Nat → Int32} {n N q c b da fr mr p1 l1 l2 q1 q2 q3 q4 q5 q6 : Nat} {R1 R2 : Nat → Value} {cc u2 u3 u5 x8 x9 x10 x11 x12 x13 x14 x15 x16 : Int32} (h_c : M.1 c = some (ob 3 [.ref b, .ref q, .int u2, .int u3, .int (nI p1), .int u5, .ref fr, .ref mr, .int x8, .int x9, .int x10, .int x11, .int x12, .int x13, .int x14, .int x15, .int x16])) (h_b : M.1 b = some (ob 1 [.ref da])) (h_da : M.1 da = some (ar .byte n f)) (h_q : M.1 q = some (ob 7 [.int (nI N), .ref q1, .ref q2, .ref q3, .ref q4, .ref q5, .ref q6, .int cc])) (h_fr : M.1 fr = some (ro "ClassGate$Member" l1 R1)) (h_mr : M.1 mr = some (ro "ClassGate$Member" l2 R2)) (hn : n ≤ 65540) (hp1 : p1 + 8 ≤ n) : pt (mT g) 73 [.ref c, .int 1] M (fun v M' => (v = some (.int (nI l1)) ∧ M = M')) := by
  refine pt_in (b := mb_73 g) rfl (fun kf => ?_)
  show pl (mT g) kf (mb_73 g).2 (0, [(0, .ref c), (1, .int 1)], [], M) _
  refine ps_st (S' := (1, [(0, .ref c), (1, .int 1)], [.int 1], M)) rfl rfl rfl ?_
  refine ps_st (S' := (72, [(0, .ref c), (1, .int 1)], [], M)) rfl rfl rfl ?_
  refine ps_st (S' := (73, [(0, .ref c), (1, .int 1)], [.ref c], M)) rfl rfl rfl ?_
  refine ps_get (S' := (76, [(0, .ref c), (1, .int 1)], [.ref fr], M)) rfl h_c rfl rfl ?_
  refine ps_aalen (S' := (77, [(0, .ref c), (1, .int 1)], [.int (nI l1)], M)) rfl h_fr rfl ?_
  exact ps_reti rfl (⟨rfl, rfl⟩)
set_option maxHeartbeats 1000000 in
theorem dk_num2 {g : xe_G} {M : mi_H} {f : Nat → Int32} {n N q c b da fr mr p1 l1 l2 q1 q2 q3 q4 q5 q6 : Nat} {R1 R2 : Nat → Value} {cc u2 u3 u5 x8 x9 x10 x11 x12 x13 x14 x15 x16 : Int32} (h_c : M.1 c = some (ob 3 [.ref b, .ref q, .int u2, .int u3, .int (nI p1), .int u5, .ref fr, .ref mr, .int x8, .int x9, .int x10, .int x11, .int x12, .int x13, .int x14, .int x15, .int x16])) (h_b : M.1 b = some (ob 1 [.ref da])) (h_da : M.1 da = some (ar .byte n f)) (h_q : M.1 q = some (ob 7 [.int (nI N), .ref q1, .ref q2, .ref q3, .ref q4, .ref q5, .ref q6, .int cc])) (h_fr : M.1 fr = some (ro "ClassGate$Member" l1 R1)) (h_mr : M.1 mr = some (ro "ClassGate$Member" l2 R2)) (hn : n ≤ 65540) (hp1 : p1 + 8 ≤ n) : pt (mT g) 73 [.ref c, .int 2] M (fun v M' => (v = some (.int (nI l2)) ∧ M = M')) := by
  refine pt_in (b := mb_73 g) rfl (fun kf => ?_)
  show pl (mT g) kf (mb_73 g).2 (0, [(0, .ref c), (1, .int 2)], [], M) _
  refine ps_st (S' := (1, [(0, .ref c), (1, .int 2)], [.int 2], M)) rfl rfl rfl ?_
  refine ps_st (S' := (78, [(0, .ref c), (1, .int 2)], [], M)) rfl rfl rfl ?_
  refine ps_st (S' := (79, [(0, .ref c), (1, .int 2)], [.ref c], M)) rfl rfl rfl ?_
  refine ps_get (S' := (82, [(0, .ref c), (1, .int 2)], [.ref mr], M)) rfl h_c rfl rfl ?_
  refine ps_aalen (S' := (83, [(0, .ref c), (1, .int 2)], [.int (nI l2)], M)) rfl h_mr rfl ?_
  exact ps_reti rfl (⟨rfl, rfl⟩)
set_option maxHeartbeats 1000000 in
theorem dk_num3 {g : xe_G} {M : mi_H} {f : Nat → Int32} {n N q c b da fr mr p1 l1 l2 q1 q2 q3 q4 q5 q6 : Nat} {R1 R2 : Nat → Value} {cc u2 u3 u5 x8 x9 x10 x11 x12 x13 x14 x15 x16 : Int32} (h_c : M.1 c = some (ob 3 [.ref b, .ref q, .int u2, .int u3, .int (nI p1), .int u5, .ref fr, .ref mr, .int x8, .int x9, .int x10, .int x11, .int x12, .int x13, .int x14, .int x15, .int x16])) (h_b : M.1 b = some (ob 1 [.ref da])) (h_da : M.1 da = some (ar .byte n f)) (h_q : M.1 q = some (ob 7 [.int (nI N), .ref q1, .ref q2, .ref q3, .ref q4, .ref q5, .ref q6, .int cc])) (h_fr : M.1 fr = some (ro "ClassGate$Member" l1 R1)) (h_mr : M.1 mr = some (ro "ClassGate$Member" l2 R2)) (hn : n ≤ 65540) (hp1 : p1 + 8 ≤ n) : pt (mT g) 73 [.ref c, .int 3] M (fun v M' => (v = some (.int u5) ∧ M = M')) := by
  refine pt_in (b := mb_73 g) rfl (fun kf => ?_)
  show pl (mT g) kf (mb_73 g).2 (0, [(0, .ref c), (1, .int 3)], [], M) _
  refine ps_st (S' := (1, [(0, .ref c), (1, .int 3)], [.int 3], M)) rfl rfl rfl ?_
  refine ps_st (S' := (84, [(0, .ref c), (1, .int 3)], [], M)) rfl rfl rfl ?_
  refine ps_st (S' := (85, [(0, .ref c), (1, .int 3)], [.ref c], M)) rfl rfl rfl ?_
  refine ps_get (S' := (88, [(0, .ref c), (1, .int 3)], [.int u5], M)) rfl h_c rfl rfl ?_
  exact ps_reti rfl (⟨rfl, rfl⟩)
set_option maxHeartbeats 1000000 in
theorem dk_num4 {g : xe_G} {M : mi_H} {f : Nat → Int32} {n N q c b da fr mr p1 l1 l2 q1 q2 q3 q4 q5 q6 : Nat} {R1 R2 : Nat → Value} {cc u2 u3 u5 x8 x9 x10 x11 x12 x13 x14 x15 x16 : Int32} (h_c : M.1 c = some (ob 3 [.ref b, .ref q, .int u2, .int u3, .int (nI p1), .int u5, .ref fr, .ref mr, .int x8, .int x9, .int x10, .int x11, .int x12, .int x13, .int x14, .int x15, .int x16])) (h_b : M.1 b = some (ob 1 [.ref da])) (h_da : M.1 da = some (ar .byte n f)) (h_q : M.1 q = some (ob 7 [.int (nI N), .ref q1, .ref q2, .ref q3, .ref q4, .ref q5, .ref q6, .int cc])) (h_fr : M.1 fr = some (ro "ClassGate$Member" l1 R1)) (h_mr : M.1 mr = some (ro "ClassGate$Member" l2 R2)) (hn : n ≤ 65540) (hp1 : p1 + 8 ≤ n) : pt (mT g) 73 [.ref c, .int 4] M (fun v M' => (v = some (.int x11) ∧ M = M')) := by
  refine pt_in (b := mb_73 g) rfl (fun kf => ?_)
  show pl (mT g) kf (mb_73 g).2 (0, [(0, .ref c), (1, .int 4)], [], M) _
  refine ps_st (S' := (1, [(0, .ref c), (1, .int 4)], [.int 4], M)) rfl rfl rfl ?_
  refine ps_st (S' := (147, [(0, .ref c), (1, .int 4)], [], M)) rfl rfl rfl ?_
  refine ps_st (S' := (148, [(0, .ref c), (1, .int 4)], [.ref c], M)) rfl rfl rfl ?_
  refine ps_st (S' := (149, [(0, .ref c), (1, .int 4)], [.int 4, .ref c], M)) rfl rfl rfl ?_
  refine pl_call (a := [.ref c, .int 4]) (rest := []) rfl rfl rfl (dk_anum4 (f := f) (n := n) (N := N) (q := q) (c := c) (b := b) (da := da) (fr := fr) (mr := mr) (p1 := p1) (l1 := l1) (l2 := l2) (q1 := q1) (q2 := q2) (q3 := q3) (q4 := q4) (q5 := q5) (q6 := q6) (R1 := R1) (R2 := R2) (cc := cc) (u2 := u2) (u3 := u3) (u5 := u5) (x8 := x8) (x9 := x9) (x10 := x10) (x11 := x11) (x12 := x12) (x13 := x13) (x14 := x14) (x15 := x15) (x16 := x16) h_c) (fun v1 M2 q3 => ?_)
  obtain ⟨rfl, rfl⟩ := q3
  show pl _ _ _ (152, [(0, .ref c), (1, .int 4)], [.int x11], M) _
  exact ps_reti rfl (⟨rfl, rfl⟩)
set_option maxHeartbeats 1000000 in
theorem dk_num5 {g : xe_G} {M : mi_H} {f : Nat → Int32} {n N q c b da fr mr p1 l1 l2 q1 q2 q3 q4 q5 q6 : Nat} {R1 R2 : Nat → Value} {cc u2 u3 u5 x8 x9 x10 x11 x12 x13 x14 x15 x16 : Int32} (h_c : M.1 c = some (ob 3 [.ref b, .ref q, .int u2, .int u3, .int (nI p1), .int u5, .ref fr, .ref mr, .int x8, .int x9, .int x10, .int x11, .int x12, .int x13, .int x14, .int x15, .int x16])) (h_b : M.1 b = some (ob 1 [.ref da])) (h_da : M.1 da = some (ar .byte n f)) (h_q : M.1 q = some (ob 7 [.int (nI N), .ref q1, .ref q2, .ref q3, .ref q4, .ref q5, .ref q6, .int cc])) (h_fr : M.1 fr = some (ro "ClassGate$Member" l1 R1)) (h_mr : M.1 mr = some (ro "ClassGate$Member" l2 R2)) (hn : n ≤ 65540) (hp1 : p1 + 8 ≤ n) : pt (mT g) 73 [.ref c, .int 5] M (fun v M' => (v = some (.int x10) ∧ M = M')) := by
  refine pt_in (b := mb_73 g) rfl (fun kf => ?_)
  show pl (mT g) kf (mb_73 g).2 (0, [(0, .ref c), (1, .int 5)], [], M) _
  refine ps_st (S' := (1, [(0, .ref c), (1, .int 5)], [.int 5], M)) rfl rfl rfl ?_
  refine ps_st (S' := (147, [(0, .ref c), (1, .int 5)], [], M)) rfl rfl rfl ?_
  refine ps_st (S' := (148, [(0, .ref c), (1, .int 5)], [.ref c], M)) rfl rfl rfl ?_
  refine ps_st (S' := (149, [(0, .ref c), (1, .int 5)], [.int 5, .ref c], M)) rfl rfl rfl ?_
  refine pl_call (a := [.ref c, .int 5]) (rest := []) rfl rfl rfl (dk_anum5 (f := f) (n := n) (N := N) (q := q) (c := c) (b := b) (da := da) (fr := fr) (mr := mr) (p1 := p1) (l1 := l1) (l2 := l2) (q1 := q1) (q2 := q2) (q3 := q3) (q4 := q4) (q5 := q5) (q6 := q6) (R1 := R1) (R2 := R2) (cc := cc) (u2 := u2) (u3 := u3) (u5 := u5) (x8 := x8) (x9 := x9) (x10 := x10) (x11 := x11) (x12 := x12) (x13 := x13) (x14 := x14) (x15 := x15) (x16 := x16) h_c) (fun v1 M2 q3 => ?_)
  obtain ⟨rfl, rfl⟩ := q3
  show pl _ _ _ (152, [(0, .ref c), (1, .int 5)], [.int x10], M) _
  exact ps_reti rfl (⟨rfl, rfl⟩)
set_option maxHeartbeats 1000000 in
theorem dk_num6 {g : xe_G} {M : mi_H} {f : Nat → Int32} {n N q c b da fr mr p1 l1 l2 q1 q2 q3 q4 q5 q6 : Nat} {R1 R2 : Nat → Value} {cc u2 u3 u5 x8 x9 x10 x11 x12 x13 x14 x15 x16 : Int32} (h_c : M.1 c = some (ob 3 [.ref b, .ref q, .int u2, .int u3, .int (nI p1), .int u5, .ref fr, .ref mr, .int x8, .int x9, .int x10, .int x11, .int x12, .int x13, .int x14, .int x15, .int x16])) (h_b : M.1 b = some (ob 1 [.ref da])) (h_da : M.1 da = some (ar .byte n f)) (h_q : M.1 q = some (ob 7 [.int (nI N), .ref q1, .ref q2, .ref q3, .ref q4, .ref q5, .ref q6, .int cc])) (h_fr : M.1 fr = some (ro "ClassGate$Member" l1 R1)) (h_mr : M.1 mr = some (ro "ClassGate$Member" l2 R2)) (hn : n ≤ 65540) (hp1 : p1 + 8 ≤ n) : pt (mT g) 73 [.ref c, .int 6] M (fun v M' => (v = some (.int (nI (by2 f p1))) ∧ M = M')) := by
  refine pt_in (b := mb_73 g) rfl (fun kf => ?_)
  show pl (mT g) kf (mb_73 g).2 (0, [(0, .ref c), (1, .int 6)], [], M) _
  refine ps_st (S' := (1, [(0, .ref c), (1, .int 6)], [.int 6], M)) rfl rfl rfl ?_
  refine ps_st (S' := (89, [(0, .ref c), (1, .int 6)], [], M)) rfl rfl rfl ?_
  refine ps_st (S' := (90, [(0, .ref c), (1, .int 6)], [.ref c], M)) rfl rfl rfl ?_
  refine ps_get (S' := (93, [(0, .ref c), (1, .int 6)], [.ref b], M)) rfl h_c rfl rfl ?_
  refine ps_st (S' := (94, [(0, .ref c), (1, .int 6)], [.ref c, .ref b], M)) rfl rfl rfl ?_
  refine ps_get (S' := (97, [(0, .ref c), (1, .int 6)], [.int (nI p1), .ref b], M)) rfl h_c rfl rfl ?_
  refine pl_call (a := [.ref b, .int (nI p1)]) (rest := []) rfl rfl rfl (dk_u2 (f := f) (n := n) (b := b) (da := da) (p := (p1)) h_b h_da (hn) (by omega)) (fun v1 M2 q3 => ?_)
  obtain ⟨rfl, rfl⟩ := q3
  show pl _ _ _ (100, [(0, .ref c), (1, .int 6)], [.int (nI (by2 f (p1)))], M) _
  have hu_97 := by2_lt f (p1)
  exact ps_reti rfl (⟨rfl, rfl⟩)
set_option maxHeartbeats 1000000 in
theorem dk_num7 {g : xe_G} {M : mi_H} {f : Nat → Int32} {n N q c b da fr mr p1 l1 l2 q1 q2 q3 q4 q5 q6 : Nat} {R1 R2 : Nat → Value} {cc u2 u3 u5 x8 x9 x10 x11 x12 x13 x14 x15 x16 : Int32} (h_c : M.1 c = some (ob 3 [.ref b, .ref q, .int u2, .int u3, .int (nI p1), .int u5, .ref fr, .ref mr, .int x8, .int x9, .int x10, .int x11, .int x12, .int x13, .int x14, .int x15, .int x16])) (h_b : M.1 b = some (ob 1 [.ref da])) (h_da : M.1 da = some (ar .byte n f)) (h_q : M.1 q = some (ob 7 [.int (nI N), .ref q1, .ref q2, .ref q3, .ref q4, .ref q5, .ref q6, .int cc])) (h_fr : M.1 fr = some (ro "ClassGate$Member" l1 R1)) (h_mr : M.1 mr = some (ro "ClassGate$Member" l2 R2)) (hn : n ≤ 65540) (hp1 : p1 + 8 ≤ n) : pt (mT g) 73 [.ref c, .int 7] M (fun v M' => (v = some (.int u3) ∧ M = M')) := by
  refine pt_in (b := mb_73 g) rfl (fun kf => ?_)
  show pl (mT g) kf (mb_73 g).2 (0, [(0, .ref c), (1, .int 7)], [], M) _
  refine ps_st (S' := (1, [(0, .ref c), (1, .int 7)], [.int 7], M)) rfl rfl rfl ?_
  refine ps_st (S' := (101, [(0, .ref c), (1, .int 7)], [], M)) rfl rfl rfl ?_
  refine ps_st (S' := (102, [(0, .ref c), (1, .int 7)], [.ref c], M)) rfl rfl rfl ?_
  refine ps_get (S' := (105, [(0, .ref c), (1, .int 7)], [.int u3], M)) rfl h_c rfl rfl ?_
  exact ps_reti rfl (⟨rfl, rfl⟩)
set_option maxHeartbeats 1000000 in
theorem dk_num8 {g : xe_G} {M : mi_H} {f : Nat → Int32} {n N q c b da fr mr p1 l1 l2 q1 q2 q3 q4 q5 q6 : Nat} {R1 R2 : Nat → Value} {cc u2 u3 u5 x8 x9 x10 x11 x12 x13 x14 x15 x16 : Int32} (h_c : M.1 c = some (ob 3 [.ref b, .ref q, .int u2, .int u3, .int (nI p1), .int u5, .ref fr, .ref mr, .int x8, .int x9, .int x10, .int x11, .int x12, .int x13, .int x14, .int x15, .int x16])) (h_b : M.1 b = some (ob 1 [.ref da])) (h_da : M.1 da = some (ar .byte n f)) (h_q : M.1 q = some (ob 7 [.int (nI N), .ref q1, .ref q2, .ref q3, .ref q4, .ref q5, .ref q6, .int cc])) (h_fr : M.1 fr = some (ro "ClassGate$Member" l1 R1)) (h_mr : M.1 mr = some (ro "ClassGate$Member" l2 R2)) (hn : n ≤ 65540) (hp1 : p1 + 8 ≤ n) : pt (mT g) 73 [.ref c, .int 8] M (fun v M' => (v = some (.int u2) ∧ M = M')) := by
  refine pt_in (b := mb_73 g) rfl (fun kf => ?_)
  show pl (mT g) kf (mb_73 g).2 (0, [(0, .ref c), (1, .int 8)], [], M) _
  refine ps_st (S' := (1, [(0, .ref c), (1, .int 8)], [.int 8], M)) rfl rfl rfl ?_
  refine ps_st (S' := (106, [(0, .ref c), (1, .int 8)], [], M)) rfl rfl rfl ?_
  refine ps_st (S' := (107, [(0, .ref c), (1, .int 8)], [.ref c], M)) rfl rfl rfl ?_
  refine ps_get (S' := (110, [(0, .ref c), (1, .int 8)], [.int u2], M)) rfl h_c rfl rfl ?_
  exact ps_reti rfl (⟨rfl, rfl⟩)
set_option maxHeartbeats 1000000 in
theorem dk_num9 {g : xe_G} {M : mi_H} {f : Nat → Int32} {n N q c b da fr mr p1 l1 l2 q1 q2 q3 q4 q5 q6 : Nat} {R1 R2 : Nat → Value} {cc u2 u3 u5 x8 x9 x10 x11 x12 x13 x14 x15 x16 : Int32} (h_c : M.1 c = some (ob 3 [.ref b, .ref q, .int u2, .int u3, .int (nI p1), .int u5, .ref fr, .ref mr, .int x8, .int x9, .int x10, .int x11, .int x12, .int x13, .int x14, .int x15, .int x16])) (h_b : M.1 b = some (ob 1 [.ref da])) (h_da : M.1 da = some (ar .byte n f)) (h_q : M.1 q = some (ob 7 [.int (nI N), .ref q1, .ref q2, .ref q3, .ref q4, .ref q5, .ref q6, .int cc])) (h_fr : M.1 fr = some (ro "ClassGate$Member" l1 R1)) (h_mr : M.1 mr = some (ro "ClassGate$Member" l2 R2)) (hn : n ≤ 65540) (hp1 : p1 + 8 ≤ n) : pt (mT g) 73 [.ref c, .int 9] M (fun v M' => (v = some (.int (nI (by2 f (p1 + 2)))) ∧ M = M')) := by
  refine pt_in (b := mb_73 g) rfl (fun kf => ?_)
  show pl (mT g) kf (mb_73 g).2 (0, [(0, .ref c), (1, .int 9)], [], M) _
  refine ps_st (S' := (1, [(0, .ref c), (1, .int 9)], [.int 9], M)) rfl rfl rfl ?_
  refine ps_st (S' := (111, [(0, .ref c), (1, .int 9)], [], M)) rfl rfl rfl ?_
  refine ps_st (S' := (112, [(0, .ref c), (1, .int 9)], [.ref c], M)) rfl rfl rfl ?_
  refine ps_get (S' := (115, [(0, .ref c), (1, .int 9)], [.ref b], M)) rfl h_c rfl rfl ?_
  refine ps_st (S' := (116, [(0, .ref c), (1, .int 9)], [.ref c, .ref b], M)) rfl rfl rfl ?_
  refine ps_get (S' := (119, [(0, .ref c), (1, .int 9)], [.int (nI p1), .ref b], M)) rfl h_c rfl rfl ?_
  refine ps_st (S' := (120, [(0, .ref c), (1, .int 9)], [.int 2, .int (nI p1), .ref b], M)) rfl rfl rfl ?_
  refine ps_st (S' := (121, [(0, .ref c), (1, .int 9)], [.int ((nI p1) + 2), .ref b], M)) rfl rfl rfl ?_
  rw [nI_add1 (p := p1) (k := 2) (x := 2) rfl (by omega)]
  show pl _ _ _ (_, [(0, .ref c), (1, .int 9)], [.int (nI (p1 + 2)), .ref b], M) _
  refine pl_call (a := [.ref b, .int (nI (p1 + 2))]) (rest := []) rfl rfl rfl (dk_u2 (f := f) (n := n) (b := b) (da := da) (p := (p1 + 2)) h_b h_da (hn) (by omega)) (fun v1 M2 q3 => ?_)
  obtain ⟨rfl, rfl⟩ := q3
  show pl _ _ _ (124, [(0, .ref c), (1, .int 9)], [.int (nI (by2 f (p1 + 2)))], M) _
  have hu_121 := by2_lt f (p1 + 2)
  exact ps_reti rfl (⟨rfl, rfl⟩)
set_option maxHeartbeats 1000000 in
theorem dk_num10 {g : xe_G} {M : mi_H} {f : Nat → Int32} {n N q c b da fr mr p1 l1 l2 q1 q2 q3 q4 q5 q6 : Nat} {R1 R2 : Nat → Value} {cc u2 u3 u5 x8 x9 x10 x11 x12 x13 x14 x15 x16 : Int32} (h_c : M.1 c = some (ob 3 [.ref b, .ref q, .int u2, .int u3, .int (nI p1), .int u5, .ref fr, .ref mr, .int x8, .int x9, .int x10, .int x11, .int x12, .int x13, .int x14, .int x15, .int x16])) (h_b : M.1 b = some (ob 1 [.ref da])) (h_da : M.1 da = some (ar .byte n f)) (h_q : M.1 q = some (ob 7 [.int (nI N), .ref q1, .ref q2, .ref q3, .ref q4, .ref q5, .ref q6, .int cc])) (h_fr : M.1 fr = some (ro "ClassGate$Member" l1 R1)) (h_mr : M.1 mr = some (ro "ClassGate$Member" l2 R2)) (hn : n ≤ 65540) (hp1 : p1 + 8 ≤ n) : pt (mT g) 73 [.ref c, .int 10] M (fun v M' => (v = some (.int (nI (by2 f (p1 + 4)))) ∧ M = M')) := by
  refine pt_in (b := mb_73 g) rfl (fun kf => ?_)
  show pl (mT g) kf (mb_73 g).2 (0, [(0, .ref c), (1, .int 10)], [], M) _
  refine ps_st (S' := (1, [(0, .ref c), (1, .int 10)], [.int 10], M)) rfl rfl rfl ?_
  refine ps_st (S' := (125, [(0, .ref c), (1, .int 10)], [], M)) rfl rfl rfl ?_
  refine ps_st (S' := (126, [(0, .ref c), (1, .int 10)], [.ref c], M)) rfl rfl rfl ?_
  refine ps_get (S' := (129, [(0, .ref c), (1, .int 10)], [.ref b], M)) rfl h_c rfl rfl ?_
  refine ps_st (S' := (130, [(0, .ref c), (1, .int 10)], [.ref c, .ref b], M)) rfl rfl rfl ?_
  refine ps_get (S' := (133, [(0, .ref c), (1, .int 10)], [.int (nI p1), .ref b], M)) rfl h_c rfl rfl ?_
  refine ps_st (S' := (134, [(0, .ref c), (1, .int 10)], [.int 4, .int (nI p1), .ref b], M)) rfl rfl rfl ?_
  refine ps_st (S' := (135, [(0, .ref c), (1, .int 10)], [.int ((nI p1) + 4), .ref b], M)) rfl rfl rfl ?_
  rw [nI_add1 (p := p1) (k := 4) (x := 4) rfl (by omega)]
  show pl _ _ _ (_, [(0, .ref c), (1, .int 10)], [.int (nI (p1 + 4)), .ref b], M) _
  refine pl_call (a := [.ref b, .int (nI (p1 + 4))]) (rest := []) rfl rfl rfl (dk_u2 (f := f) (n := n) (b := b) (da := da) (p := (p1 + 4)) h_b h_da (hn) (by omega)) (fun v1 M2 q3 => ?_)
  obtain ⟨rfl, rfl⟩ := q3
  show pl _ _ _ (138, [(0, .ref c), (1, .int 10)], [.int (nI (by2 f (p1 + 4)))], M) _
  have hu_135 := by2_lt f (p1 + 4)
  exact ps_reti rfl (⟨rfl, rfl⟩)
set_option maxHeartbeats 1000000 in
theorem dk_num11 {g : xe_G} {M : mi_H} {f : Nat → Int32} {n N q c b da fr mr p1 l1 l2 q1 q2 q3 q4 q5 q6 : Nat} {R1 R2 : Nat → Value} {cc u2 u3 u5 x8 x9 x10 x11 x12 x13 x14 x15 x16 : Int32} (h_c : M.1 c = some (ob 3 [.ref b, .ref q, .int u2, .int u3, .int (nI p1), .int u5, .ref fr, .ref mr, .int x8, .int x9, .int x10, .int x11, .int x12, .int x13, .int x14, .int x15, .int x16])) (h_b : M.1 b = some (ob 1 [.ref da])) (h_da : M.1 da = some (ar .byte n f)) (h_q : M.1 q = some (ob 7 [.int (nI N), .ref q1, .ref q2, .ref q3, .ref q4, .ref q5, .ref q6, .int cc])) (h_fr : M.1 fr = some (ro "ClassGate$Member" l1 R1)) (h_mr : M.1 mr = some (ro "ClassGate$Member" l2 R2)) (hn : n ≤ 65540) (hp1 : p1 + 8 ≤ n) : pt (mT g) 73 [.ref c, .int 11] M (fun v M' => (v = some (.int cc) ∧ M = M')) := by
  refine pt_in (b := mb_73 g) rfl (fun kf => ?_)
  show pl (mT g) kf (mb_73 g).2 (0, [(0, .ref c), (1, .int 11)], [], M) _
  refine ps_st (S' := (1, [(0, .ref c), (1, .int 11)], [.int 11], M)) rfl rfl rfl ?_
  refine ps_st (S' := (139, [(0, .ref c), (1, .int 11)], [], M)) rfl rfl rfl ?_
  refine ps_st (S' := (140, [(0, .ref c), (1, .int 11)], [.ref c], M)) rfl rfl rfl ?_
  refine ps_get (S' := (143, [(0, .ref c), (1, .int 11)], [.ref q], M)) rfl h_c rfl rfl ?_
  refine ps_get (S' := (146, [(0, .ref c), (1, .int 11)], [.int cc], M)) rfl h_q rfl rfl ?_
  exact ps_reti rfl (⟨rfl, rfl⟩)
set_option maxHeartbeats 1000000 in
theorem dk_num12 {g : xe_G} {M : mi_H} {f : Nat → Int32} {n N q c b da fr mr p1 l1 l2 q1 q2 q3 q4 q5 q6 : Nat} {R1 R2 : Nat → Value} {cc u2 u3 u5 x8 x9 x10 x11 x12 x13 x14 x15 x16 : Int32} (h_c : M.1 c = some (ob 3 [.ref b, .ref q, .int u2, .int u3, .int (nI p1), .int u5, .ref fr, .ref mr, .int x8, .int x9, .int x10, .int x11, .int x12, .int x13, .int x14, .int x15, .int x16])) (h_b : M.1 b = some (ob 1 [.ref da])) (h_da : M.1 da = some (ar .byte n f)) (h_q : M.1 q = some (ob 7 [.int (nI N), .ref q1, .ref q2, .ref q3, .ref q4, .ref q5, .ref q6, .int cc])) (h_fr : M.1 fr = some (ro "ClassGate$Member" l1 R1)) (h_mr : M.1 mr = some (ro "ClassGate$Member" l2 R2)) (hn : n ≤ 65540) (hp1 : p1 + 8 ≤ n) : pt (mT g) 73 [.ref c, .int 12] M (fun v M' => (v = some (.int x13) ∧ M = M')) := by
  refine pt_in (b := mb_73 g) rfl (fun kf => ?_)
  show pl (mT g) kf (mb_73 g).2 (0, [(0, .ref c), (1, .int 12)], [], M) _
  refine ps_st (S' := (1, [(0, .ref c), (1, .int 12)], [.int 12], M)) rfl rfl rfl ?_
  refine ps_st (S' := (147, [(0, .ref c), (1, .int 12)], [], M)) rfl rfl rfl ?_
  refine ps_st (S' := (148, [(0, .ref c), (1, .int 12)], [.ref c], M)) rfl rfl rfl ?_
  refine ps_st (S' := (149, [(0, .ref c), (1, .int 12)], [.int 12, .ref c], M)) rfl rfl rfl ?_
  refine pl_call (a := [.ref c, .int 12]) (rest := []) rfl rfl rfl (dk_anum12 (f := f) (n := n) (N := N) (q := q) (c := c) (b := b) (da := da) (fr := fr) (mr := mr) (p1 := p1) (l1 := l1) (l2 := l2) (q1 := q1) (q2 := q2) (q3 := q3) (q4 := q4) (q5 := q5) (q6 := q6) (R1 := R1) (R2 := R2) (cc := cc) (u2 := u2) (u3 := u3) (u5 := u5) (x8 := x8) (x9 := x9) (x10 := x10) (x11 := x11) (x12 := x12) (x13 := x13) (x14 := x14) (x15 := x15) (x16 := x16) h_c) (fun v1 M2 q3 => ?_)
  obtain ⟨rfl, rfl⟩ := q3
  show pl _ _ _ (152, [(0, .ref c), (1, .int 12)], [.int x13], M) _
  exact ps_reti rfl (⟨rfl, rfl⟩)
set_option maxHeartbeats 1000000 in
theorem dk_num13 {g : xe_G} {M : mi_H} {f : Nat → Int32} {n N q c b da fr mr p1 l1 l2 q1 q2 q3 q4 q5 q6 : Nat} {R1 R2 : Nat → Value} {cc u2 u3 u5 x8 x9 x10 x11 x12 x13 x14 x15 x16 : Int32} (h_c : M.1 c = some (ob 3 [.ref b, .ref q, .int u2, .int u3, .int (nI p1), .int u5, .ref fr, .ref mr, .int x8, .int x9, .int x10, .int x11, .int x12, .int x13, .int x14, .int x15, .int x16])) (h_b : M.1 b = some (ob 1 [.ref da])) (h_da : M.1 da = some (ar .byte n f)) (h_q : M.1 q = some (ob 7 [.int (nI N), .ref q1, .ref q2, .ref q3, .ref q4, .ref q5, .ref q6, .int cc])) (h_fr : M.1 fr = some (ro "ClassGate$Member" l1 R1)) (h_mr : M.1 mr = some (ro "ClassGate$Member" l2 R2)) (hn : n ≤ 65540) (hp1 : p1 + 8 ≤ n) : pt (mT g) 73 [.ref c, .int 13] M (fun v M' => (v = some (.int x14) ∧ M = M')) := by
  refine pt_in (b := mb_73 g) rfl (fun kf => ?_)
  show pl (mT g) kf (mb_73 g).2 (0, [(0, .ref c), (1, .int 13)], [], M) _
  refine ps_st (S' := (1, [(0, .ref c), (1, .int 13)], [.int 13], M)) rfl rfl rfl ?_
  refine ps_st (S' := (147, [(0, .ref c), (1, .int 13)], [], M)) rfl rfl rfl ?_
  refine ps_st (S' := (148, [(0, .ref c), (1, .int 13)], [.ref c], M)) rfl rfl rfl ?_
  refine ps_st (S' := (149, [(0, .ref c), (1, .int 13)], [.int 13, .ref c], M)) rfl rfl rfl ?_
  refine pl_call (a := [.ref c, .int 13]) (rest := []) rfl rfl rfl (dk_anum13 (f := f) (n := n) (N := N) (q := q) (c := c) (b := b) (da := da) (fr := fr) (mr := mr) (p1 := p1) (l1 := l1) (l2 := l2) (q1 := q1) (q2 := q2) (q3 := q3) (q4 := q4) (q5 := q5) (q6 := q6) (R1 := R1) (R2 := R2) (cc := cc) (u2 := u2) (u3 := u3) (u5 := u5) (x8 := x8) (x9 := x9) (x10 := x10) (x11 := x11) (x12 := x12) (x13 := x13) (x14 := x14) (x15 := x15) (x16 := x16) h_c) (fun v1 M2 q3 => ?_)
  obtain ⟨rfl, rfl⟩ := q3
  show pl _ _ _ (152, [(0, .ref c), (1, .int 13)], [.int x14], M) _
  exact ps_reti rfl (⟨rfl, rfl⟩)
set_option maxHeartbeats 1000000 in
theorem dk_num14 {g : xe_G} {M : mi_H} {f : Nat → Int32} {n N q c b da fr mr p1 l1 l2 q1 q2 q3 q4 q5 q6 : Nat} {R1 R2 : Nat → Value} {cc u2 u3 u5 x8 x9 x10 x11 x12 x13 x14 x15 x16 : Int32} (h_c : M.1 c = some (ob 3 [.ref b, .ref q, .int u2, .int u3, .int (nI p1), .int u5, .ref fr, .ref mr, .int x8, .int x9, .int x10, .int x11, .int x12, .int x13, .int x14, .int x15, .int x16])) (h_b : M.1 b = some (ob 1 [.ref da])) (h_da : M.1 da = some (ar .byte n f)) (h_q : M.1 q = some (ob 7 [.int (nI N), .ref q1, .ref q2, .ref q3, .ref q4, .ref q5, .ref q6, .int cc])) (h_fr : M.1 fr = some (ro "ClassGate$Member" l1 R1)) (h_mr : M.1 mr = some (ro "ClassGate$Member" l2 R2)) (hn : n ≤ 65540) (hp1 : p1 + 8 ≤ n) : pt (mT g) 73 [.ref c, .int 14] M (fun v M' => (v = some (.int x15) ∧ M = M')) := by
  refine pt_in (b := mb_73 g) rfl (fun kf => ?_)
  show pl (mT g) kf (mb_73 g).2 (0, [(0, .ref c), (1, .int 14)], [], M) _
  refine ps_st (S' := (1, [(0, .ref c), (1, .int 14)], [.int 14], M)) rfl rfl rfl ?_
  refine ps_st (S' := (147, [(0, .ref c), (1, .int 14)], [], M)) rfl rfl rfl ?_
  refine ps_st (S' := (148, [(0, .ref c), (1, .int 14)], [.ref c], M)) rfl rfl rfl ?_
  refine ps_st (S' := (149, [(0, .ref c), (1, .int 14)], [.int 14, .ref c], M)) rfl rfl rfl ?_
  refine pl_call (a := [.ref c, .int 14]) (rest := []) rfl rfl rfl (dk_anum14 (f := f) (n := n) (N := N) (q := q) (c := c) (b := b) (da := da) (fr := fr) (mr := mr) (p1 := p1) (l1 := l1) (l2 := l2) (q1 := q1) (q2 := q2) (q3 := q3) (q4 := q4) (q5 := q5) (q6 := q6) (R1 := R1) (R2 := R2) (cc := cc) (u2 := u2) (u3 := u3) (u5 := u5) (x8 := x8) (x9 := x9) (x10 := x10) (x11 := x11) (x12 := x12) (x13 := x13) (x14 := x14) (x15 := x15) (x16 := x16) h_c) (fun v1 M2 q3 => ?_)
  obtain ⟨rfl, rfl⟩ := q3
  show pl _ _ _ (152, [(0, .ref c), (1, .int 14)], [.int x15], M) _
  exact ps_reti rfl (⟨rfl, rfl⟩)
set_option maxHeartbeats 1000000 in
theorem dk_num15 {g : xe_G} {M : mi_H} {f : Nat → Int32} {n N q c b da fr mr p1 l1 l2 q1 q2 q3 q4 q5 q6 : Nat} {R1 R2 : Nat → Value} {cc u2 u3 u5 x8 x9 x10 x11 x12 x13 x14 x15 x16 : Int32} (h_c : M.1 c = some (ob 3 [.ref b, .ref q, .int u2, .int u3, .int (nI p1), .int u5, .ref fr, .ref mr, .int x8, .int x9, .int x10, .int x11, .int x12, .int x13, .int x14, .int x15, .int x16])) (h_b : M.1 b = some (ob 1 [.ref da])) (h_da : M.1 da = some (ar .byte n f)) (h_q : M.1 q = some (ob 7 [.int (nI N), .ref q1, .ref q2, .ref q3, .ref q4, .ref q5, .ref q6, .int cc])) (h_fr : M.1 fr = some (ro "ClassGate$Member" l1 R1)) (h_mr : M.1 mr = some (ro "ClassGate$Member" l2 R2)) (hn : n ≤ 65540) (hp1 : p1 + 8 ≤ n) : pt (mT g) 73 [.ref c, .int 15] M (fun v M' => (v = some (.int x16) ∧ M = M')) := by
  refine pt_in (b := mb_73 g) rfl (fun kf => ?_)
  show pl (mT g) kf (mb_73 g).2 (0, [(0, .ref c), (1, .int 15)], [], M) _
  refine ps_st (S' := (1, [(0, .ref c), (1, .int 15)], [.int 15], M)) rfl rfl rfl ?_
  refine ps_st (S' := (147, [(0, .ref c), (1, .int 15)], [], M)) rfl rfl rfl ?_
  refine ps_st (S' := (148, [(0, .ref c), (1, .int 15)], [.ref c], M)) rfl rfl rfl ?_
  refine ps_st (S' := (149, [(0, .ref c), (1, .int 15)], [.int 15, .ref c], M)) rfl rfl rfl ?_
  refine pl_call (a := [.ref c, .int 15]) (rest := []) rfl rfl rfl (dk_anum15 (f := f) (n := n) (N := N) (q := q) (c := c) (b := b) (da := da) (fr := fr) (mr := mr) (p1 := p1) (l1 := l1) (l2 := l2) (q1 := q1) (q2 := q2) (q3 := q3) (q4 := q4) (q5 := q5) (q6 := q6) (R1 := R1) (R2 := R2) (cc := cc) (u2 := u2) (u3 := u3) (u5 := u5) (x8 := x8) (x9 := x9) (x10 := x10) (x11 := x11) (x12 := x12) (x13 := x13) (x14 := x14) (x15 := x15) (x16 := x16) h_c) (fun v1 M2 q3 => ?_)
  obtain ⟨rfl, rfl⟩ := q3
  show pl _ _ _ (152, [(0, .ref c), (1, .int 15)], [.int x16], M) _
  exact ps_reti rfl (⟨rfl, rfl⟩)
set_option maxHeartbeats 1000000 in
theorem dk_count0 {g : xe_G} {M : mi_H} {o ca fl : Nat} {cn wp w : Int32} (h_o : M.1 o = some (ob 11 [.ref ca, .int cn, .ref fl, .null, .int wp])) (h0 : ¬ w < 0) (h1 : w ≤ 15) : pt (mT g) 5 [.ref o, .int w] M (fun v M' => (v = some (.int (-1)) ∧ M = M')) := by
  refine pt_in (b := mb_5 g) rfl (fun kf => ?_)
  show pl (mT g) kf (mb_5 g).2 (0, [(0, .ref o), (1, .int w)], [], M) _
  refine ps_st (S' := (1, [(0, .ref o), (1, .int w)], [.int w], M)) rfl rfl rfl ?_
  refine ps_if (S1 := (10, [(0, .ref o), (1, .int w)], [], M)) (S2 := (4, [(0, .ref o), (1, .int w)], [], M)) rfl rfl rfl (fun c_1 => ?_) (fun c_1 => ?_)
  · exact absurd (of_decide_eq_true c_1) (h0)
  refine ps_st (S' := (5, [(0, .ref o), (1, .int w)], [.int w], M)) rfl rfl rfl ?_
  refine ps_st (S' := (7, [(0, .ref o), (1, .int w)], [.int 15, .int w], M)) rfl rfl rfl ?_
  refine ps_if2 (S1 := (20, [(0, .ref o), (1, .int w)], [], M)) (S2 := (10, [(0, .ref o), (1, .int w)], [], M)) rfl rfl rfl (fun c_7 => ?_) (fun c_7 => ?_)
  rotate_left
  · exact absurd (h1) (of_decide_eq_false c_7)
  refine ps_st (S' := (21, [(0, .ref o), (1, .int w)], [.ref o], M)) rfl rfl rfl ?_
  refine ps_get (S' := (24, [(0, .ref o), (1, .int w)], [.null], M)) rfl h_o rfl rfl ?_
  refine ps_st (S' := (27, [(0, .ref o), (1, .int w)], [], M)) rfl rfl rfl ?_
  refine ps_st (S' := (28, [(0, .ref o), (1, .int w)], [.int (-1)], M)) rfl rfl rfl ?_
  refine ps_st (S' := (39, [], [.int (-1)], M)) rfl rfl rfl ?_
  exact ps_ret rfl rfl (⟨rfl, rfl⟩)
set_option maxHeartbeats 1000000 in
theorem dk_count_0 {g : xe_G} {M : mi_H} {f : Nat → Int32} {n N q c b da fr mr p1 l1 l2 q1 q2 q3 q4 q5 q6 : Nat} {R1 R2 : Nat → Value} {cc u2 u3 u5 x8 x9 x10 x11 x12 x13 x14 x15 x16 : Int32} {o ca fl : Nat} {cn wp : Int32} (h_o : M.1 o = some (ob 11 [.ref ca, .int cn, .ref fl, .ref c, .int wp])) (h_c : M.1 c = some (ob 3 [.ref b, .ref q, .int u2, .int u3, .int (nI p1), .int u5, .ref fr, .ref mr, .int x8, .int x9, .int x10, .int x11, .int x12, .int x13, .int x14, .int x15, .int x16])) (h_b : M.1 b = some (ob 1 [.ref da])) (h_da : M.1 da = some (ar .byte n f)) (h_q : M.1 q = some (ob 7 [.int (nI N), .ref q1, .ref q2, .ref q3, .ref q4, .ref q5, .ref q6, .int cc])) (h_fr : M.1 fr = some (ro "ClassGate$Member" l1 R1)) (h_mr : M.1 mr = some (ro "ClassGate$Member" l2 R2)) (hn : n ≤ 65540) (hp1 : p1 + 8 ≤ n) : pt (mT g) 5 [.ref o, .int 0] M (fun v M' => (v = some (.int (nI N)) ∧ M = M')) := by
  refine pt_in (b := mb_5 g) rfl (fun kf => ?_)
  show pl (mT g) kf (mb_5 g).2 (0, [(0, .ref o), (1, .int 0)], [], M) _
  refine ps_st (S' := (1, [(0, .ref o), (1, .int 0)], [.int 0], M)) rfl rfl rfl ?_
  refine ps_if (S1 := (10, [(0, .ref o), (1, .int 0)], [], M)) (S2 := (4, [(0, .ref o), (1, .int 0)], [], M)) rfl rfl rfl (fun c_1 => ?_) (fun c_1 => ?_)
  · exact absurd (of_decide_eq_true c_1) (by decide)
  refine ps_st (S' := (5, [(0, .ref o), (1, .int 0)], [.int 0], M)) rfl rfl rfl ?_
  refine ps_st (S' := (7, [(0, .ref o), (1, .int 0)], [.int 15, .int 0], M)) rfl rfl rfl ?_
  refine ps_if2 (S1 := (20, [(0, .ref o), (1, .int 0)], [], M)) (S2 := (10, [(0, .ref o), (1, .int 0)], [], M)) rfl rfl rfl (fun c_7 => ?_) (fun c_7 => ?_)
  rotate_left
  · exact absurd (by decide) (of_decide_eq_false c_7)
  refine ps_st (S' := (21, [(0, .ref o), (1, .int 0)], [.ref o], M)) rfl rfl rfl ?_
  refine ps_get (S' := (24, [(0, .ref o), (1, .int 0)], [.ref c], M)) rfl h_o rfl rfl ?_
  refine ps_st (S' := (31, [(0, .ref o), (1, .int 0)], [], M)) rfl rfl rfl ?_
  refine ps_st (S' := (32, [(0, .ref o), (1, .int 0)], [.ref o], M)) rfl rfl rfl ?_
  refine ps_get (S' := (35, [(0, .ref o), (1, .int 0)], [.ref c], M)) rfl h_o rfl rfl ?_
  refine ps_st (S' := (36, [(0, .ref o), (1, .int 0)], [.int 0, .ref c], M)) rfl rfl rfl ?_
  refine pl_call (a := [.ref c, .int 0]) (rest := []) rfl rfl rfl (dk_num0 (f := f) (n := n) (N := N) (q := q) (c := c) (b := b) (da := da) (fr := fr) (mr := mr) (p1 := p1) (l1 := l1) (l2 := l2) (q1 := q1) (q2 := q2) (q3 := q3) (q4 := q4) (q5 := q5) (q6 := q6) (R1 := R1) (R2 := R2) (cc := cc) (u2 := u2) (u3 := u3) (u5 := u5) (x8 := x8) (x9 := x9) (x10 := x10) (x11 := x11) (x12 := x12) (x13 := x13) (x14 := x14) (x15 := x15) (x16 := x16) h_c h_b h_da h_q h_fr h_mr (hn) (hp1)) (fun v1 M2 q3 => ?_)
  obtain ⟨rfl, rfl⟩ := q3
  show pl _ _ _ (39, [], [.int (nI N)], M) _
  exact ps_reti rfl (⟨rfl, rfl⟩)
set_option maxHeartbeats 1000000 in
theorem dk_count_1 {g : xe_G} {M : mi_H} {f : Nat → Int32} {n N q c b da fr mr p1 l1 l2 q1 q2 q3 q4 q5 q6 : Nat} {R1 R2 : Nat → Value} {cc u2 u3 u5 x8 x9 x10 x11 x12 x13 x14 x15 x16 : Int32} {o ca fl : Nat} {cn wp : Int32} (h_o : M.1 o = some (ob 11 [.ref ca, .int cn, .ref fl, .ref c, .int wp])) (h_c : M.1 c = some (ob 3 [.ref b, .ref q, .int u2, .int u3, .int (nI p1), .int u5, .ref fr, .ref mr, .int x8, .int x9, .int x10, .int x11, .int x12, .int x13, .int x14, .int x15, .int x16])) (h_b : M.1 b = some (ob 1 [.ref da])) (h_da : M.1 da = some (ar .byte n f)) (h_q : M.1 q = some (ob 7 [.int (nI N), .ref q1, .ref q2, .ref q3, .ref q4, .ref q5, .ref q6, .int cc])) (h_fr : M.1 fr = some (ro "ClassGate$Member" l1 R1)) (h_mr : M.1 mr = some (ro "ClassGate$Member" l2 R2)) (hn : n ≤ 65540) (hp1 : p1 + 8 ≤ n) : pt (mT g) 5 [.ref o, .int 1] M (fun v M' => (v = some (.int (nI l1)) ∧ M = M')) := by
  refine pt_in (b := mb_5 g) rfl (fun kf => ?_)
  show pl (mT g) kf (mb_5 g).2 (0, [(0, .ref o), (1, .int 1)], [], M) _
  refine ps_st (S' := (1, [(0, .ref o), (1, .int 1)], [.int 1], M)) rfl rfl rfl ?_
  refine ps_if (S1 := (10, [(0, .ref o), (1, .int 1)], [], M)) (S2 := (4, [(0, .ref o), (1, .int 1)], [], M)) rfl rfl rfl (fun c_1 => ?_) (fun c_1 => ?_)
  · exact absurd (of_decide_eq_true c_1) (by decide)
  refine ps_st (S' := (5, [(0, .ref o), (1, .int 1)], [.int 1], M)) rfl rfl rfl ?_
  refine ps_st (S' := (7, [(0, .ref o), (1, .int 1)], [.int 15, .int 1], M)) rfl rfl rfl ?_
  refine ps_if2 (S1 := (20, [(0, .ref o), (1, .int 1)], [], M)) (S2 := (10, [(0, .ref o), (1, .int 1)], [], M)) rfl rfl rfl (fun c_7 => ?_) (fun c_7 => ?_)
  rotate_left
  · exact absurd (by decide) (of_decide_eq_false c_7)
  refine ps_st (S' := (21, [(0, .ref o), (1, .int 1)], [.ref o], M)) rfl rfl rfl ?_
  refine ps_get (S' := (24, [(0, .ref o), (1, .int 1)], [.ref c], M)) rfl h_o rfl rfl ?_
  refine ps_st (S' := (31, [(0, .ref o), (1, .int 1)], [], M)) rfl rfl rfl ?_
  refine ps_st (S' := (32, [(0, .ref o), (1, .int 1)], [.ref o], M)) rfl rfl rfl ?_
  refine ps_get (S' := (35, [(0, .ref o), (1, .int 1)], [.ref c], M)) rfl h_o rfl rfl ?_
  refine ps_st (S' := (36, [(0, .ref o), (1, .int 1)], [.int 1, .ref c], M)) rfl rfl rfl ?_
  refine pl_call (a := [.ref c, .int 1]) (rest := []) rfl rfl rfl (dk_num1 (f := f) (n := n) (N := N) (q := q) (c := c) (b := b) (da := da) (fr := fr) (mr := mr) (p1 := p1) (l1 := l1) (l2 := l2) (q1 := q1) (q2 := q2) (q3 := q3) (q4 := q4) (q5 := q5) (q6 := q6) (R1 := R1) (R2 := R2) (cc := cc) (u2 := u2) (u3 := u3) (u5 := u5) (x8 := x8) (x9 := x9) (x10 := x10) (x11 := x11) (x12 := x12) (x13 := x13) (x14 := x14) (x15 := x15) (x16 := x16) h_c h_b h_da h_q h_fr h_mr (hn) (hp1)) (fun v1 M2 q3 => ?_)
  obtain ⟨rfl, rfl⟩ := q3
  show pl _ _ _ (39, [], [.int (nI l1)], M) _
  exact ps_reti rfl (⟨rfl, rfl⟩)
set_option maxHeartbeats 1000000 in
theorem dk_count_2 {g : xe_G} {M : mi_H} {f : Nat → Int32} {n N q c b da fr mr p1 l1 l2 q1 q2 q3 q4 q5 q6 : Nat} {R1 R2 : Nat → Value} {cc u2 u3 u5 x8 x9 x10 x11 x12 x13 x14 x15 x16 : Int32} {o ca fl : Nat} {cn wp : Int32} (h_o : M.1 o = some (ob 11 [.ref ca, .int cn, .ref fl, .ref c, .int wp])) (h_c : M.1 c = some (ob 3 [.ref b, .ref q, .int u2, .int u3, .int (nI p1), .int u5, .ref fr, .ref mr, .int x8, .int x9, .int x10, .int x11, .int x12, .int x13, .int x14, .int x15, .int x16])) (h_b : M.1 b = some (ob 1 [.ref da])) (h_da : M.1 da = some (ar .byte n f)) (h_q : M.1 q = some (ob 7 [.int (nI N), .ref q1, .ref q2, .ref q3, .ref q4, .ref q5, .ref q6, .int cc])) (h_fr : M.1 fr = some (ro "ClassGate$Member" l1 R1)) (h_mr : M.1 mr = some (ro "ClassGate$Member" l2 R2)) (hn : n ≤ 65540) (hp1 : p1 + 8 ≤ n) : pt (mT g) 5 [.ref o, .int 2] M (fun v M' => (v = some (.int (nI l2)) ∧ M = M')) := by
  refine pt_in (b := mb_5 g) rfl (fun kf => ?_)
  show pl (mT g) kf (mb_5 g).2 (0, [(0, .ref o), (1, .int 2)], [], M) _
  refine ps_st (S' := (1, [(0, .ref o), (1, .int 2)], [.int 2], M)) rfl rfl rfl ?_
  refine ps_if (S1 := (10, [(0, .ref o), (1, .int 2)], [], M)) (S2 := (4, [(0, .ref o), (1, .int 2)], [], M)) rfl rfl rfl (fun c_1 => ?_) (fun c_1 => ?_)
  · exact absurd (of_decide_eq_true c_1) (by decide)
  refine ps_st (S' := (5, [(0, .ref o), (1, .int 2)], [.int 2], M)) rfl rfl rfl ?_
  refine ps_st (S' := (7, [(0, .ref o), (1, .int 2)], [.int 15, .int 2], M)) rfl rfl rfl ?_
  refine ps_if2 (S1 := (20, [(0, .ref o), (1, .int 2)], [], M)) (S2 := (10, [(0, .ref o), (1, .int 2)], [], M)) rfl rfl rfl (fun c_7 => ?_) (fun c_7 => ?_)
  rotate_left
  · exact absurd (by decide) (of_decide_eq_false c_7)
  refine ps_st (S' := (21, [(0, .ref o), (1, .int 2)], [.ref o], M)) rfl rfl rfl ?_
  refine ps_get (S' := (24, [(0, .ref o), (1, .int 2)], [.ref c], M)) rfl h_o rfl rfl ?_
  refine ps_st (S' := (31, [(0, .ref o), (1, .int 2)], [], M)) rfl rfl rfl ?_
  refine ps_st (S' := (32, [(0, .ref o), (1, .int 2)], [.ref o], M)) rfl rfl rfl ?_
  refine ps_get (S' := (35, [(0, .ref o), (1, .int 2)], [.ref c], M)) rfl h_o rfl rfl ?_
  refine ps_st (S' := (36, [(0, .ref o), (1, .int 2)], [.int 2, .ref c], M)) rfl rfl rfl ?_
  refine pl_call (a := [.ref c, .int 2]) (rest := []) rfl rfl rfl (dk_num2 (f := f) (n := n) (N := N) (q := q) (c := c) (b := b) (da := da) (fr := fr) (mr := mr) (p1 := p1) (l1 := l1) (l2 := l2) (q1 := q1) (q2 := q2) (q3 := q3) (q4 := q4) (q5 := q5) (q6 := q6) (R1 := R1) (R2 := R2) (cc := cc) (u2 := u2) (u3 := u3) (u5 := u5) (x8 := x8) (x9 := x9) (x10 := x10) (x11 := x11) (x12 := x12) (x13 := x13) (x14 := x14) (x15 := x15) (x16 := x16) h_c h_b h_da h_q h_fr h_mr (hn) (hp1)) (fun v1 M2 q3 => ?_)
  obtain ⟨rfl, rfl⟩ := q3
  show pl _ _ _ (39, [], [.int (nI l2)], M) _
  exact ps_reti rfl (⟨rfl, rfl⟩)
set_option maxHeartbeats 1000000 in
theorem dk_count_3 {g : xe_G} {M : mi_H} {f : Nat → Int32} {n N q c b da fr mr p1 l1 l2 q1 q2 q3 q4 q5 q6 : Nat} {R1 R2 : Nat → Value} {cc u2 u3 u5 x8 x9 x10 x11 x12 x13 x14 x15 x16 : Int32} {o ca fl : Nat} {cn wp : Int32} (h_o : M.1 o = some (ob 11 [.ref ca, .int cn, .ref fl, .ref c, .int wp])) (h_c : M.1 c = some (ob 3 [.ref b, .ref q, .int u2, .int u3, .int (nI p1), .int u5, .ref fr, .ref mr, .int x8, .int x9, .int x10, .int x11, .int x12, .int x13, .int x14, .int x15, .int x16])) (h_b : M.1 b = some (ob 1 [.ref da])) (h_da : M.1 da = some (ar .byte n f)) (h_q : M.1 q = some (ob 7 [.int (nI N), .ref q1, .ref q2, .ref q3, .ref q4, .ref q5, .ref q6, .int cc])) (h_fr : M.1 fr = some (ro "ClassGate$Member" l1 R1)) (h_mr : M.1 mr = some (ro "ClassGate$Member" l2 R2)) (hn : n ≤ 65540) (hp1 : p1 + 8 ≤ n) : pt (mT g) 5 [.ref o, .int 3] M (fun v M' => (v = some (.int u5) ∧ M = M')) := by
  refine pt_in (b := mb_5 g) rfl (fun kf => ?_)
  show pl (mT g) kf (mb_5 g).2 (0, [(0, .ref o), (1, .int 3)], [], M) _
  refine ps_st (S' := (1, [(0, .ref o), (1, .int 3)], [.int 3], M)) rfl rfl rfl ?_
  refine ps_if (S1 := (10, [(0, .ref o), (1, .int 3)], [], M)) (S2 := (4, [(0, .ref o), (1, .int 3)], [], M)) rfl rfl rfl (fun c_1 => ?_) (fun c_1 => ?_)
  · exact absurd (of_decide_eq_true c_1) (by decide)
  refine ps_st (S' := (5, [(0, .ref o), (1, .int 3)], [.int 3], M)) rfl rfl rfl ?_
  refine ps_st (S' := (7, [(0, .ref o), (1, .int 3)], [.int 15, .int 3], M)) rfl rfl rfl ?_
  refine ps_if2 (S1 := (20, [(0, .ref o), (1, .int 3)], [], M)) (S2 := (10, [(0, .ref o), (1, .int 3)], [], M)) rfl rfl rfl (fun c_7 => ?_) (fun c_7 => ?_)
  rotate_left
  · exact absurd (by decide) (of_decide_eq_false c_7)
  refine ps_st (S' := (21, [(0, .ref o), (1, .int 3)], [.ref o], M)) rfl rfl rfl ?_
  refine ps_get (S' := (24, [(0, .ref o), (1, .int 3)], [.ref c], M)) rfl h_o rfl rfl ?_
  refine ps_st (S' := (31, [(0, .ref o), (1, .int 3)], [], M)) rfl rfl rfl ?_
  refine ps_st (S' := (32, [(0, .ref o), (1, .int 3)], [.ref o], M)) rfl rfl rfl ?_
  refine ps_get (S' := (35, [(0, .ref o), (1, .int 3)], [.ref c], M)) rfl h_o rfl rfl ?_
  refine ps_st (S' := (36, [(0, .ref o), (1, .int 3)], [.int 3, .ref c], M)) rfl rfl rfl ?_
  refine pl_call (a := [.ref c, .int 3]) (rest := []) rfl rfl rfl (dk_num3 (f := f) (n := n) (N := N) (q := q) (c := c) (b := b) (da := da) (fr := fr) (mr := mr) (p1 := p1) (l1 := l1) (l2 := l2) (q1 := q1) (q2 := q2) (q3 := q3) (q4 := q4) (q5 := q5) (q6 := q6) (R1 := R1) (R2 := R2) (cc := cc) (u2 := u2) (u3 := u3) (u5 := u5) (x8 := x8) (x9 := x9) (x10 := x10) (x11 := x11) (x12 := x12) (x13 := x13) (x14 := x14) (x15 := x15) (x16 := x16) h_c h_b h_da h_q h_fr h_mr (hn) (hp1)) (fun v1 M2 q3 => ?_)
  obtain ⟨rfl, rfl⟩ := q3
  show pl _ _ _ (39, [], [.int u5], M) _
  exact ps_reti rfl (⟨rfl, rfl⟩)
set_option maxHeartbeats 1000000 in
theorem dk_count_4 {g : xe_G} {M : mi_H} {f : Nat → Int32} {n N q c b da fr mr p1 l1 l2 q1 q2 q3 q4 q5 q6 : Nat} {R1 R2 : Nat → Value} {cc u2 u3 u5 x8 x9 x10 x11 x12 x13 x14 x15 x16 : Int32} {o ca fl : Nat} {cn wp : Int32} (h_o : M.1 o = some (ob 11 [.ref ca, .int cn, .ref fl, .ref c, .int wp])) (h_c : M.1 c = some (ob 3 [.ref b, .ref q, .int u2, .int u3, .int (nI p1), .int u5, .ref fr, .ref mr, .int x8, .int x9, .int x10, .int x11, .int x12, .int x13, .int x14, .int x15, .int x16])) (h_b : M.1 b = some (ob 1 [.ref da])) (h_da : M.1 da = some (ar .byte n f)) (h_q : M.1 q = some (ob 7 [.int (nI N), .ref q1, .ref q2, .ref q3, .ref q4, .ref q5, .ref q6, .int cc])) (h_fr : M.1 fr = some (ro "ClassGate$Member" l1 R1)) (h_mr : M.1 mr = some (ro "ClassGate$Member" l2 R2)) (hn : n ≤ 65540) (hp1 : p1 + 8 ≤ n) : pt (mT g) 5 [.ref o, .int 4] M (fun v M' => (v = some (.int x11) ∧ M = M')) := by
  refine pt_in (b := mb_5 g) rfl (fun kf => ?_)
  show pl (mT g) kf (mb_5 g).2 (0, [(0, .ref o), (1, .int 4)], [], M) _
  refine ps_st (S' := (1, [(0, .ref o), (1, .int 4)], [.int 4], M)) rfl rfl rfl ?_
  refine ps_if (S1 := (10, [(0, .ref o), (1, .int 4)], [], M)) (S2 := (4, [(0, .ref o), (1, .int 4)], [], M)) rfl rfl rfl (fun c_1 => ?_) (fun c_1 => ?_)
  · exact absurd (of_decide_eq_true c_1) (by decide)
  refine ps_st (S' := (5, [(0, .ref o), (1, .int 4)], [.int 4], M)) rfl rfl rfl ?_
  refine ps_st (S' := (7, [(0, .ref o), (1, .int 4)], [.int 15, .int 4], M)) rfl rfl rfl ?_
  refine ps_if2 (S1 := (20, [(0, .ref o), (1, .int 4)], [], M)) (S2 := (10, [(0, .ref o), (1, .int 4)], [], M)) rfl rfl rfl (fun c_7 => ?_) (fun c_7 => ?_)
  rotate_left
  · exact absurd (by decide) (of_decide_eq_false c_7)
  refine ps_st (S' := (21, [(0, .ref o), (1, .int 4)], [.ref o], M)) rfl rfl rfl ?_
  refine ps_get (S' := (24, [(0, .ref o), (1, .int 4)], [.ref c], M)) rfl h_o rfl rfl ?_
  refine ps_st (S' := (31, [(0, .ref o), (1, .int 4)], [], M)) rfl rfl rfl ?_
  refine ps_st (S' := (32, [(0, .ref o), (1, .int 4)], [.ref o], M)) rfl rfl rfl ?_
  refine ps_get (S' := (35, [(0, .ref o), (1, .int 4)], [.ref c], M)) rfl h_o rfl rfl ?_
  refine ps_st (S' := (36, [(0, .ref o), (1, .int 4)], [.int 4, .ref c], M)) rfl rfl rfl ?_
  refine pl_call (a := [.ref c, .int 4]) (rest := []) rfl rfl rfl (dk_num4 (f := f) (n := n) (N := N) (q := q) (c := c) (b := b) (da := da) (fr := fr) (mr := mr) (p1 := p1) (l1 := l1) (l2 := l2) (q1 := q1) (q2 := q2) (q3 := q3) (q4 := q4) (q5 := q5) (q6 := q6) (R1 := R1) (R2 := R2) (cc := cc) (u2 := u2) (u3 := u3) (u5 := u5) (x8 := x8) (x9 := x9) (x10 := x10) (x11 := x11) (x12 := x12) (x13 := x13) (x14 := x14) (x15 := x15) (x16 := x16) h_c h_b h_da h_q h_fr h_mr (hn) (hp1)) (fun v1 M2 q3 => ?_)
  obtain ⟨rfl, rfl⟩ := q3
  show pl _ _ _ (39, [], [.int x11], M) _
  exact ps_reti rfl (⟨rfl, rfl⟩)
set_option maxHeartbeats 1000000 in
theorem dk_count_5 {g : xe_G} {M : mi_H} {f : Nat → Int32} {n N q c b da fr mr p1 l1 l2 q1 q2 q3 q4 q5 q6 : Nat} {R1 R2 : Nat → Value} {cc u2 u3 u5 x8 x9 x10 x11 x12 x13 x14 x15 x16 : Int32} {o ca fl : Nat} {cn wp : Int32} (h_o : M.1 o = some (ob 11 [.ref ca, .int cn, .ref fl, .ref c, .int wp])) (h_c : M.1 c = some (ob 3 [.ref b, .ref q, .int u2, .int u3, .int (nI p1), .int u5, .ref fr, .ref mr, .int x8, .int x9, .int x10, .int x11, .int x12, .int x13, .int x14, .int x15, .int x16])) (h_b : M.1 b = some (ob 1 [.ref da])) (h_da : M.1 da = some (ar .byte n f)) (h_q : M.1 q = some (ob 7 [.int (nI N), .ref q1, .ref q2, .ref q3, .ref q4, .ref q5, .ref q6, .int cc])) (h_fr : M.1 fr = some (ro "ClassGate$Member" l1 R1)) (h_mr : M.1 mr = some (ro "ClassGate$Member" l2 R2)) (hn : n ≤ 65540) (hp1 : p1 + 8 ≤ n) : pt (mT g) 5 [.ref o, .int 5] M (fun v M' => (v = some (.int x10) ∧ M = M')) := by
  refine pt_in (b := mb_5 g) rfl (fun kf => ?_)
  show pl (mT g) kf (mb_5 g).2 (0, [(0, .ref o), (1, .int 5)], [], M) _
  refine ps_st (S' := (1, [(0, .ref o), (1, .int 5)], [.int 5], M)) rfl rfl rfl ?_
  refine ps_if (S1 := (10, [(0, .ref o), (1, .int 5)], [], M)) (S2 := (4, [(0, .ref o), (1, .int 5)], [], M)) rfl rfl rfl (fun c_1 => ?_) (fun c_1 => ?_)
  · exact absurd (of_decide_eq_true c_1) (by decide)
  refine ps_st (S' := (5, [(0, .ref o), (1, .int 5)], [.int 5], M)) rfl rfl rfl ?_
  refine ps_st (S' := (7, [(0, .ref o), (1, .int 5)], [.int 15, .int 5], M)) rfl rfl rfl ?_
  refine ps_if2 (S1 := (20, [(0, .ref o), (1, .int 5)], [], M)) (S2 := (10, [(0, .ref o), (1, .int 5)], [], M)) rfl rfl rfl (fun c_7 => ?_) (fun c_7 => ?_)
  rotate_left
  · exact absurd (by decide) (of_decide_eq_false c_7)
  refine ps_st (S' := (21, [(0, .ref o), (1, .int 5)], [.ref o], M)) rfl rfl rfl ?_
  refine ps_get (S' := (24, [(0, .ref o), (1, .int 5)], [.ref c], M)) rfl h_o rfl rfl ?_
  refine ps_st (S' := (31, [(0, .ref o), (1, .int 5)], [], M)) rfl rfl rfl ?_
  refine ps_st (S' := (32, [(0, .ref o), (1, .int 5)], [.ref o], M)) rfl rfl rfl ?_
  refine ps_get (S' := (35, [(0, .ref o), (1, .int 5)], [.ref c], M)) rfl h_o rfl rfl ?_
  refine ps_st (S' := (36, [(0, .ref o), (1, .int 5)], [.int 5, .ref c], M)) rfl rfl rfl ?_
  refine pl_call (a := [.ref c, .int 5]) (rest := []) rfl rfl rfl (dk_num5 (f := f) (n := n) (N := N) (q := q) (c := c) (b := b) (da := da) (fr := fr) (mr := mr) (p1 := p1) (l1 := l1) (l2 := l2) (q1 := q1) (q2 := q2) (q3 := q3) (q4 := q4) (q5 := q5) (q6 := q6) (R1 := R1) (R2 := R2) (cc := cc) (u2 := u2) (u3 := u3) (u5 := u5) (x8 := x8) (x9 := x9) (x10 := x10) (x11 := x11) (x12 := x12) (x13 := x13) (x14 := x14) (x15 := x15) (x16 := x16) h_c h_b h_da h_q h_fr h_mr (hn) (hp1)) (fun v1 M2 q3 => ?_)
  obtain ⟨rfl, rfl⟩ := q3
  show pl _ _ _ (39, [], [.int x10], M) _
  exact ps_reti rfl (⟨rfl, rfl⟩)
set_option maxHeartbeats 1000000 in
theorem dk_count_6 {g : xe_G} {M : mi_H} {f : Nat → Int32} {n N q c b da fr mr p1 l1 l2 q1 q2 q3 q4 q5 q6 : Nat} {R1 R2 : Nat → Value} {cc u2 u3 u5 x8 x9 x10 x11 x12 x13 x14 x15 x16 : Int32} {o ca fl : Nat} {cn wp : Int32} (h_o : M.1 o = some (ob 11 [.ref ca, .int cn, .ref fl, .ref c, .int wp])) (h_c : M.1 c = some (ob 3 [.ref b, .ref q, .int u2, .int u3, .int (nI p1), .int u5, .ref fr, .ref mr, .int x8, .int x9, .int x10, .int x11, .int x12, .int x13, .int x14, .int x15, .int x16])) (h_b : M.1 b = some (ob 1 [.ref da])) (h_da : M.1 da = some (ar .byte n f)) (h_q : M.1 q = some (ob 7 [.int (nI N), .ref q1, .ref q2, .ref q3, .ref q4, .ref q5, .ref q6, .int cc])) (h_fr : M.1 fr = some (ro "ClassGate$Member" l1 R1)) (h_mr : M.1 mr = some (ro "ClassGate$Member" l2 R2)) (hn : n ≤ 65540) (hp1 : p1 + 8 ≤ n) : pt (mT g) 5 [.ref o, .int 6] M (fun v M' => (v = some (.int (nI (by2 f p1))) ∧ M = M')) := by
  refine pt_in (b := mb_5 g) rfl (fun kf => ?_)
  show pl (mT g) kf (mb_5 g).2 (0, [(0, .ref o), (1, .int 6)], [], M) _
  refine ps_st (S' := (1, [(0, .ref o), (1, .int 6)], [.int 6], M)) rfl rfl rfl ?_
  refine ps_if (S1 := (10, [(0, .ref o), (1, .int 6)], [], M)) (S2 := (4, [(0, .ref o), (1, .int 6)], [], M)) rfl rfl rfl (fun c_1 => ?_) (fun c_1 => ?_)
  · exact absurd (of_decide_eq_true c_1) (by decide)
  refine ps_st (S' := (5, [(0, .ref o), (1, .int 6)], [.int 6], M)) rfl rfl rfl ?_
  refine ps_st (S' := (7, [(0, .ref o), (1, .int 6)], [.int 15, .int 6], M)) rfl rfl rfl ?_
  refine ps_if2 (S1 := (20, [(0, .ref o), (1, .int 6)], [], M)) (S2 := (10, [(0, .ref o), (1, .int 6)], [], M)) rfl rfl rfl (fun c_7 => ?_) (fun c_7 => ?_)
  rotate_left
  · exact absurd (by decide) (of_decide_eq_false c_7)
  refine ps_st (S' := (21, [(0, .ref o), (1, .int 6)], [.ref o], M)) rfl rfl rfl ?_
  refine ps_get (S' := (24, [(0, .ref o), (1, .int 6)], [.ref c], M)) rfl h_o rfl rfl ?_
  refine ps_st (S' := (31, [(0, .ref o), (1, .int 6)], [], M)) rfl rfl rfl ?_
  refine ps_st (S' := (32, [(0, .ref o), (1, .int 6)], [.ref o], M)) rfl rfl rfl ?_
  refine ps_get (S' := (35, [(0, .ref o), (1, .int 6)], [.ref c], M)) rfl h_o rfl rfl ?_
  refine ps_st (S' := (36, [(0, .ref o), (1, .int 6)], [.int 6, .ref c], M)) rfl rfl rfl ?_
  refine pl_call (a := [.ref c, .int 6]) (rest := []) rfl rfl rfl (dk_num6 (f := f) (n := n) (N := N) (q := q) (c := c) (b := b) (da := da) (fr := fr) (mr := mr) (p1 := p1) (l1 := l1) (l2 := l2) (q1 := q1) (q2 := q2) (q3 := q3) (q4 := q4) (q5 := q5) (q6 := q6) (R1 := R1) (R2 := R2) (cc := cc) (u2 := u2) (u3 := u3) (u5 := u5) (x8 := x8) (x9 := x9) (x10 := x10) (x11 := x11) (x12 := x12) (x13 := x13) (x14 := x14) (x15 := x15) (x16 := x16) h_c h_b h_da h_q h_fr h_mr (hn) (hp1)) (fun v1 M2 q3 => ?_)
  obtain ⟨rfl, rfl⟩ := q3
  show pl _ _ _ (39, [], [.int (nI (by2 f p1))], M) _
  exact ps_reti rfl (⟨rfl, rfl⟩)
set_option maxHeartbeats 1000000 in
theorem dk_count_7 {g : xe_G} {M : mi_H} {f : Nat → Int32} {n N q c b da fr mr p1 l1 l2 q1 q2 q3 q4 q5 q6 : Nat} {R1 R2 : Nat → Value} {cc u2 u3 u5 x8 x9 x10 x11 x12 x13 x14 x15 x16 : Int32} {o ca fl : Nat} {cn wp : Int32} (h_o : M.1 o = some (ob 11 [.ref ca, .int cn, .ref fl, .ref c, .int wp])) (h_c : M.1 c = some (ob 3 [.ref b, .ref q, .int u2, .int u3, .int (nI p1), .int u5, .ref fr, .ref mr, .int x8, .int x9, .int x10, .int x11, .int x12, .int x13, .int x14, .int x15, .int x16])) (h_b : M.1 b = some (ob 1 [.ref da])) (h_da : M.1 da = some (ar .byte n f)) (h_q : M.1 q = some (ob 7 [.int (nI N), .ref q1, .ref q2, .ref q3, .ref q4, .ref q5, .ref q6, .int cc])) (h_fr : M.1 fr = some (ro "ClassGate$Member" l1 R1)) (h_mr : M.1 mr = some (ro "ClassGate$Member" l2 R2)) (hn : n ≤ 65540) (hp1 : p1 + 8 ≤ n) : pt (mT g) 5 [.ref o, .int 7] M (fun v M' => (v = some (.int u3) ∧ M = M')) := by
  refine pt_in (b := mb_5 g) rfl (fun kf => ?_)
  show pl (mT g) kf (mb_5 g).2 (0, [(0, .ref o), (1, .int 7)], [], M) _
  refine ps_st (S' := (1, [(0, .ref o), (1, .int 7)], [.int 7], M)) rfl rfl rfl ?_
  refine ps_if (S1 := (10, [(0, .ref o), (1, .int 7)], [], M)) (S2 := (4, [(0, .ref o), (1, .int 7)], [], M)) rfl rfl rfl (fun c_1 => ?_) (fun c_1 => ?_)
  · exact absurd (of_decide_eq_true c_1) (by decide)
  refine ps_st (S' := (5, [(0, .ref o), (1, .int 7)], [.int 7], M)) rfl rfl rfl ?_
  refine ps_st (S' := (7, [(0, .ref o), (1, .int 7)], [.int 15, .int 7], M)) rfl rfl rfl ?_
  refine ps_if2 (S1 := (20, [(0, .ref o), (1, .int 7)], [], M)) (S2 := (10, [(0, .ref o), (1, .int 7)], [], M)) rfl rfl rfl (fun c_7 => ?_) (fun c_7 => ?_)
  rotate_left
  · exact absurd (by decide) (of_decide_eq_false c_7)
  refine ps_st (S' := (21, [(0, .ref o), (1, .int 7)], [.ref o], M)) rfl rfl rfl ?_
  refine ps_get (S' := (24, [(0, .ref o), (1, .int 7)], [.ref c], M)) rfl h_o rfl rfl ?_
  refine ps_st (S' := (31, [(0, .ref o), (1, .int 7)], [], M)) rfl rfl rfl ?_
  refine ps_st (S' := (32, [(0, .ref o), (1, .int 7)], [.ref o], M)) rfl rfl rfl ?_
  refine ps_get (S' := (35, [(0, .ref o), (1, .int 7)], [.ref c], M)) rfl h_o rfl rfl ?_
  refine ps_st (S' := (36, [(0, .ref o), (1, .int 7)], [.int 7, .ref c], M)) rfl rfl rfl ?_
  refine pl_call (a := [.ref c, .int 7]) (rest := []) rfl rfl rfl (dk_num7 (f := f) (n := n) (N := N) (q := q) (c := c) (b := b) (da := da) (fr := fr) (mr := mr) (p1 := p1) (l1 := l1) (l2 := l2) (q1 := q1) (q2 := q2) (q3 := q3) (q4 := q4) (q5 := q5) (q6 := q6) (R1 := R1) (R2 := R2) (cc := cc) (u2 := u2) (u3 := u3) (u5 := u5) (x8 := x8) (x9 := x9) (x10 := x10) (x11 := x11) (x12 := x12) (x13 := x13) (x14 := x14) (x15 := x15) (x16 := x16) h_c h_b h_da h_q h_fr h_mr (hn) (hp1)) (fun v1 M2 q3 => ?_)
  obtain ⟨rfl, rfl⟩ := q3
  show pl _ _ _ (39, [], [.int u3], M) _
  exact ps_reti rfl (⟨rfl, rfl⟩)
set_option maxHeartbeats 1000000 in
theorem dk_count_8 {g : xe_G} {M : mi_H} {f : Nat → Int32} {n N q c b da fr mr p1 l1 l2 q1 q2 q3 q4 q5 q6 : Nat} {R1 R2 : Nat → Value} {cc u2 u3 u5 x8 x9 x10 x11 x12 x13 x14 x15 x16 : Int32} {o ca fl : Nat} {cn wp : Int32} (h_o : M.1 o = some (ob 11 [.ref ca, .int cn, .ref fl, .ref c, .int wp])) (h_c : M.1 c = some (ob 3 [.ref b, .ref q, .int u2, .int u3, .int (nI p1), .int u5, .ref fr, .ref mr, .int x8, .int x9, .int x10, .int x11, .int x12, .int x13, .int x14, .int x15, .int x16])) (h_b : M.1 b = some (ob 1 [.ref da])) (h_da : M.1 da = some (ar .byte n f)) (h_q : M.1 q = some (ob 7 [.int (nI N), .ref q1, .ref q2, .ref q3, .ref q4, .ref q5, .ref q6, .int cc])) (h_fr : M.1 fr = some (ro "ClassGate$Member" l1 R1)) (h_mr : M.1 mr = some (ro "ClassGate$Member" l2 R2)) (hn : n ≤ 65540) (hp1 : p1 + 8 ≤ n) : pt (mT g) 5 [.ref o, .int 8] M (fun v M' => (v = some (.int u2) ∧ M = M')) := by
  refine pt_in (b := mb_5 g) rfl (fun kf => ?_)
  show pl (mT g) kf (mb_5 g).2 (0, [(0, .ref o), (1, .int 8)], [], M) _
  refine ps_st (S' := (1, [(0, .ref o), (1, .int 8)], [.int 8], M)) rfl rfl rfl ?_
  refine ps_if (S1 := (10, [(0, .ref o), (1, .int 8)], [], M)) (S2 := (4, [(0, .ref o), (1, .int 8)], [], M)) rfl rfl rfl (fun c_1 => ?_) (fun c_1 => ?_)
  · exact absurd (of_decide_eq_true c_1) (by decide)
  refine ps_st (S' := (5, [(0, .ref o), (1, .int 8)], [.int 8], M)) rfl rfl rfl ?_
  refine ps_st (S' := (7, [(0, .ref o), (1, .int 8)], [.int 15, .int 8], M)) rfl rfl rfl ?_
  refine ps_if2 (S1 := (20, [(0, .ref o), (1, .int 8)], [], M)) (S2 := (10, [(0, .ref o), (1, .int 8)], [], M)) rfl rfl rfl (fun c_7 => ?_) (fun c_7 => ?_)
  rotate_left
  · exact absurd (by decide) (of_decide_eq_false c_7)
  refine ps_st (S' := (21, [(0, .ref o), (1, .int 8)], [.ref o], M)) rfl rfl rfl ?_
  refine ps_get (S' := (24, [(0, .ref o), (1, .int 8)], [.ref c], M)) rfl h_o rfl rfl ?_
  refine ps_st (S' := (31, [(0, .ref o), (1, .int 8)], [], M)) rfl rfl rfl ?_
  refine ps_st (S' := (32, [(0, .ref o), (1, .int 8)], [.ref o], M)) rfl rfl rfl ?_
  refine ps_get (S' := (35, [(0, .ref o), (1, .int 8)], [.ref c], M)) rfl h_o rfl rfl ?_
  refine ps_st (S' := (36, [(0, .ref o), (1, .int 8)], [.int 8, .ref c], M)) rfl rfl rfl ?_
  refine pl_call (a := [.ref c, .int 8]) (rest := []) rfl rfl rfl (dk_num8 (f := f) (n := n) (N := N) (q := q) (c := c) (b := b) (da := da) (fr := fr) (mr := mr) (p1 := p1) (l1 := l1) (l2 := l2) (q1 := q1) (q2 := q2) (q3 := q3) (q4 := q4) (q5 := q5) (q6 := q6) (R1 := R1) (R2 := R2) (cc := cc) (u2 := u2) (u3 := u3) (u5 := u5) (x8 := x8) (x9 := x9) (x10 := x10) (x11 := x11) (x12 := x12) (x13 := x13) (x14 := x14) (x15 := x15) (x16 := x16) h_c h_b h_da h_q h_fr h_mr (hn) (hp1)) (fun v1 M2 q3 => ?_)
  obtain ⟨rfl, rfl⟩ := q3
  show pl _ _ _ (39, [], [.int u2], M) _
  exact ps_reti rfl (⟨rfl, rfl⟩)
set_option maxHeartbeats 1000000 in
theorem dk_count_9 {g : xe_G} {M : mi_H} {f : Nat → Int32} {n N q c b da fr mr p1 l1 l2 q1 q2 q3 q4 q5 q6 : Nat} {R1 R2 : Nat → Value} {cc u2 u3 u5 x8 x9 x10 x11 x12 x13 x14 x15 x16 : Int32} {o ca fl : Nat} {cn wp : Int32} (h_o : M.1 o = some (ob 11 [.ref ca, .int cn, .ref fl, .ref c, .int wp])) (h_c : M.1 c = some (ob 3 [.ref b, .ref q, .int u2, .int u3, .int (nI p1), .int u5, .ref fr, .ref mr, .int x8, .int x9, .int x10, .int x11, .int x12, .int x13, .int x14, .int x15, .int x16])) (h_b : M.1 b = some (ob 1 [.ref da])) (h_da : M.1 da = some (ar .byte n f)) (h_q : M.1 q = some (ob 7 [.int (nI N), .ref q1, .ref q2, .ref q3, .ref q4, .ref q5, .ref q6, .int cc])) (h_fr : M.1 fr = some (ro "ClassGate$Member" l1 R1)) (h_mr : M.1 mr = some (ro "ClassGate$Member" l2 R2)) (hn : n ≤ 65540) (hp1 : p1 + 8 ≤ n) : pt (mT g) 5 [.ref o, .int 9] M (fun v M' => (v = some (.int (nI (by2 f (p1 + 2)))) ∧ M = M')) := by
  refine pt_in (b := mb_5 g) rfl (fun kf => ?_)
  show pl (mT g) kf (mb_5 g).2 (0, [(0, .ref o), (1, .int 9)], [], M) _
  refine ps_st (S' := (1, [(0, .ref o), (1, .int 9)], [.int 9], M)) rfl rfl rfl ?_
  refine ps_if (S1 := (10, [(0, .ref o), (1, .int 9)], [], M)) (S2 := (4, [(0, .ref o), (1, .int 9)], [], M)) rfl rfl rfl (fun c_1 => ?_) (fun c_1 => ?_)
  · exact absurd (of_decide_eq_true c_1) (by decide)
  refine ps_st (S' := (5, [(0, .ref o), (1, .int 9)], [.int 9], M)) rfl rfl rfl ?_
  refine ps_st (S' := (7, [(0, .ref o), (1, .int 9)], [.int 15, .int 9], M)) rfl rfl rfl ?_
  refine ps_if2 (S1 := (20, [(0, .ref o), (1, .int 9)], [], M)) (S2 := (10, [(0, .ref o), (1, .int 9)], [], M)) rfl rfl rfl (fun c_7 => ?_) (fun c_7 => ?_)
  rotate_left
  · exact absurd (by decide) (of_decide_eq_false c_7)
  refine ps_st (S' := (21, [(0, .ref o), (1, .int 9)], [.ref o], M)) rfl rfl rfl ?_
  refine ps_get (S' := (24, [(0, .ref o), (1, .int 9)], [.ref c], M)) rfl h_o rfl rfl ?_
  refine ps_st (S' := (31, [(0, .ref o), (1, .int 9)], [], M)) rfl rfl rfl ?_
  refine ps_st (S' := (32, [(0, .ref o), (1, .int 9)], [.ref o], M)) rfl rfl rfl ?_
  refine ps_get (S' := (35, [(0, .ref o), (1, .int 9)], [.ref c], M)) rfl h_o rfl rfl ?_
  refine ps_st (S' := (36, [(0, .ref o), (1, .int 9)], [.int 9, .ref c], M)) rfl rfl rfl ?_
  refine pl_call (a := [.ref c, .int 9]) (rest := []) rfl rfl rfl (dk_num9 (f := f) (n := n) (N := N) (q := q) (c := c) (b := b) (da := da) (fr := fr) (mr := mr) (p1 := p1) (l1 := l1) (l2 := l2) (q1 := q1) (q2 := q2) (q3 := q3) (q4 := q4) (q5 := q5) (q6 := q6) (R1 := R1) (R2 := R2) (cc := cc) (u2 := u2) (u3 := u3) (u5 := u5) (x8 := x8) (x9 := x9) (x10 := x10) (x11 := x11) (x12 := x12) (x13 := x13) (x14 := x14) (x15 := x15) (x16 := x16) h_c h_b h_da h_q h_fr h_mr (hn) (hp1)) (fun v1 M2 q3 => ?_)
  obtain ⟨rfl, rfl⟩ := q3
  show pl _ _ _ (39, [], [.int (nI (by2 f (p1 + 2)))], M) _
  exact ps_reti rfl (⟨rfl, rfl⟩)
set_option maxHeartbeats 1000000 in
theorem dk_count_10 {g : xe_G} {M : mi_H} {f : Nat → Int32} {n N q c b da fr mr p1 l1 l2 q1 q2 q3 q4 q5 q6 : Nat} {R1 R2 : Nat → Value} {cc u2 u3 u5 x8 x9 x10 x11 x12 x13 x14 x15 x16 : Int32} {o ca fl : Nat} {cn wp : Int32} (h_o : M.1 o = some (ob 11 [.ref ca, .int cn, .ref fl, .ref c, .int wp])) (h_c : M.1 c = some (ob 3 [.ref b, .ref q, .int u2, .int u3, .int (nI p1), .int u5, .ref fr, .ref mr, .int x8, .int x9, .int x10, .int x11, .int x12, .int x13, .int x14, .int x15, .int x16])) (h_b : M.1 b = some (ob 1 [.ref da])) (h_da : M.1 da = some (ar .byte n f)) (h_q : M.1 q = some (ob 7 [.int (nI N), .ref q1, .ref q2, .ref q3, .ref q4, .ref q5, .ref q6, .int cc])) (h_fr : M.1 fr = some (ro "ClassGate$Member" l1 R1)) (h_mr : M.1 mr = some (ro "ClassGate$Member" l2 R2)) (hn : n ≤ 65540) (hp1 : p1 + 8 ≤ n) : pt (mT g) 5 [.ref o, .int 10] M (fun v M' => (v = some (.int (nI (by2 f (p1 + 4)))) ∧ M = M')) := by
  refine pt_in (b := mb_5 g) rfl (fun kf => ?_)
  show pl (mT g) kf (mb_5 g).2 (0, [(0, .ref o), (1, .int 10)], [], M) _
  refine ps_st (S' := (1, [(0, .ref o), (1, .int 10)], [.int 10], M)) rfl rfl rfl ?_
  refine ps_if (S1 := (10, [(0, .ref o), (1, .int 10)], [], M)) (S2 := (4, [(0, .ref o), (1, .int 10)], [], M)) rfl rfl rfl (fun c_1 => ?_) (fun c_1 => ?_)
  · exact absurd (of_decide_eq_true c_1) (by decide)
  refine ps_st (S' := (5, [(0, .ref o), (1, .int 10)], [.int 10], M)) rfl rfl rfl ?_
  refine ps_st (S' := (7, [(0, .ref o), (1, .int 10)], [.int 15, .int 10], M)) rfl rfl rfl ?_
  refine ps_if2 (S1 := (20, [(0, .ref o), (1, .int 10)], [], M)) (S2 := (10, [(0, .ref o), (1, .int 10)], [], M)) rfl rfl rfl (fun c_7 => ?_) (fun c_7 => ?_)
  rotate_left
  · exact absurd (by decide) (of_decide_eq_false c_7)
  refine ps_st (S' := (21, [(0, .ref o), (1, .int 10)], [.ref o], M)) rfl rfl rfl ?_
  refine ps_get (S' := (24, [(0, .ref o), (1, .int 10)], [.ref c], M)) rfl h_o rfl rfl ?_
  refine ps_st (S' := (31, [(0, .ref o), (1, .int 10)], [], M)) rfl rfl rfl ?_
  refine ps_st (S' := (32, [(0, .ref o), (1, .int 10)], [.ref o], M)) rfl rfl rfl ?_
  refine ps_get (S' := (35, [(0, .ref o), (1, .int 10)], [.ref c], M)) rfl h_o rfl rfl ?_
  refine ps_st (S' := (36, [(0, .ref o), (1, .int 10)], [.int 10, .ref c], M)) rfl rfl rfl ?_
  refine pl_call (a := [.ref c, .int 10]) (rest := []) rfl rfl rfl (dk_num10 (f := f) (n := n) (N := N) (q := q) (c := c) (b := b) (da := da) (fr := fr) (mr := mr) (p1 := p1) (l1 := l1) (l2 := l2) (q1 := q1) (q2 := q2) (q3 := q3) (q4 := q4) (q5 := q5) (q6 := q6) (R1 := R1) (R2 := R2) (cc := cc) (u2 := u2) (u3 := u3) (u5 := u5) (x8 := x8) (x9 := x9) (x10 := x10) (x11 := x11) (x12 := x12) (x13 := x13) (x14 := x14) (x15 := x15) (x16 := x16) h_c h_b h_da h_q h_fr h_mr (hn) (hp1)) (fun v1 M2 q3 => ?_)
  obtain ⟨rfl, rfl⟩ := q3
  show pl _ _ _ (39, [], [.int (nI (by2 f (p1 + 4)))], M) _
  exact ps_reti rfl (⟨rfl, rfl⟩)
set_option maxHeartbeats 1000000 in
theorem dk_count_11 {g : xe_G} {M : mi_H} {f : Nat → Int32} {n N q c b da fr mr p1 l1 l2 q1 q2 q3 q4 q5 q6 : Nat} {R1 R2 : Nat → Value} {cc u2 u3 u5 x8 x9 x10 x11 x12 x13 x14 x15 x16 : Int32} {o ca fl : Nat} {cn wp : Int32} (h_o : M.1 o = some (ob 11 [.ref ca, .int cn, .ref fl, .ref c, .int wp])) (h_c : M.1 c = some (ob 3 [.ref b, .ref q, .int u2, .int u3, .int (nI p1), .int u5, .ref fr, .ref mr, .int x8, .int x9, .int x10, .int x11, .int x12, .int x13, .int x14, .int x15, .int x16])) (h_b : M.1 b = some (ob 1 [.ref da])) (h_da : M.1 da = some (ar .byte n f)) (h_q : M.1 q = some (ob 7 [.int (nI N), .ref q1, .ref q2, .ref q3, .ref q4, .ref q5, .ref q6, .int cc])) (h_fr : M.1 fr = some (ro "ClassGate$Member" l1 R1)) (h_mr : M.1 mr = some (ro "ClassGate$Member" l2 R2)) (hn : n ≤ 65540) (hp1 : p1 + 8 ≤ n) : pt (mT g) 5 [.ref o, .int 11] M (fun v M' => (v = some (.int cc) ∧ M = M')) := by
  refine pt_in (b := mb_5 g) rfl (fun kf => ?_)
  show pl (mT g) kf (mb_5 g).2 (0, [(0, .ref o), (1, .int 11)], [], M) _
  refine ps_st (S' := (1, [(0, .ref o), (1, .int 11)], [.int 11], M)) rfl rfl rfl ?_
  refine ps_if (S1 := (10, [(0, .ref o), (1, .int 11)], [], M)) (S2 := (4, [(0, .ref o), (1, .int 11)], [], M)) rfl rfl rfl (fun c_1 => ?_) (fun c_1 => ?_)
  · exact absurd (of_decide_eq_true c_1) (by decide)
  refine ps_st (S' := (5, [(0, .ref o), (1, .int 11)], [.int 11], M)) rfl rfl rfl ?_
  refine ps_st (S' := (7, [(0, .ref o), (1, .int 11)], [.int 15, .int 11], M)) rfl rfl rfl ?_
  refine ps_if2 (S1 := (20, [(0, .ref o), (1, .int 11)], [], M)) (S2 := (10, [(0, .ref o), (1, .int 11)], [], M)) rfl rfl rfl (fun c_7 => ?_) (fun c_7 => ?_)
  rotate_left
  · exact absurd (by decide) (of_decide_eq_false c_7)
  refine ps_st (S' := (21, [(0, .ref o), (1, .int 11)], [.ref o], M)) rfl rfl rfl ?_
  refine ps_get (S' := (24, [(0, .ref o), (1, .int 11)], [.ref c], M)) rfl h_o rfl rfl ?_
  refine ps_st (S' := (31, [(0, .ref o), (1, .int 11)], [], M)) rfl rfl rfl ?_
  refine ps_st (S' := (32, [(0, .ref o), (1, .int 11)], [.ref o], M)) rfl rfl rfl ?_
  refine ps_get (S' := (35, [(0, .ref o), (1, .int 11)], [.ref c], M)) rfl h_o rfl rfl ?_
  refine ps_st (S' := (36, [(0, .ref o), (1, .int 11)], [.int 11, .ref c], M)) rfl rfl rfl ?_
  refine pl_call (a := [.ref c, .int 11]) (rest := []) rfl rfl rfl (dk_num11 (f := f) (n := n) (N := N) (q := q) (c := c) (b := b) (da := da) (fr := fr) (mr := mr) (p1 := p1) (l1 := l1) (l2 := l2) (q1 := q1) (q2 := q2) (q3 := q3) (q4 := q4) (q5 := q5) (q6 := q6) (R1 := R1) (R2 := R2) (cc := cc) (u2 := u2) (u3 := u3) (u5 := u5) (x8 := x8) (x9 := x9) (x10 := x10) (x11 := x11) (x12 := x12) (x13 := x13) (x14 := x14) (x15 := x15) (x16 := x16) h_c h_b h_da h_q h_fr h_mr (hn) (hp1)) (fun v1 M2 q3 => ?_)
  obtain ⟨rfl, rfl⟩ := q3
  show pl _ _ _ (39, [], [.int cc], M) _
  exact ps_reti rfl (⟨rfl, rfl⟩)
set_option maxHeartbeats 1000000 in
theorem dk_count_12 {g : xe_G} {M : mi_H} {f : Nat → Int32} {n N q c b da fr mr p1 l1 l2 q1 q2 q3 q4 q5 q6 : Nat} {R1 R2 : Nat → Value} {cc u2 u3 u5 x8 x9 x10 x11 x12 x13 x14 x15 x16 : Int32} {o ca fl : Nat} {cn wp : Int32} (h_o : M.1 o = some (ob 11 [.ref ca, .int cn, .ref fl, .ref c, .int wp])) (h_c : M.1 c = some (ob 3 [.ref b, .ref q, .int u2, .int u3, .int (nI p1), .int u5, .ref fr, .ref mr, .int x8, .int x9, .int x10, .int x11, .int x12, .int x13, .int x14, .int x15, .int x16])) (h_b : M.1 b = some (ob 1 [.ref da])) (h_da : M.1 da = some (ar .byte n f)) (h_q : M.1 q = some (ob 7 [.int (nI N), .ref q1, .ref q2, .ref q3, .ref q4, .ref q5, .ref q6, .int cc])) (h_fr : M.1 fr = some (ro "ClassGate$Member" l1 R1)) (h_mr : M.1 mr = some (ro "ClassGate$Member" l2 R2)) (hn : n ≤ 65540) (hp1 : p1 + 8 ≤ n) : pt (mT g) 5 [.ref o, .int 12] M (fun v M' => (v = some (.int x13) ∧ M = M')) := by
  refine pt_in (b := mb_5 g) rfl (fun kf => ?_)
  show pl (mT g) kf (mb_5 g).2 (0, [(0, .ref o), (1, .int 12)], [], M) _
  refine ps_st (S' := (1, [(0, .ref o), (1, .int 12)], [.int 12], M)) rfl rfl rfl ?_
  refine ps_if (S1 := (10, [(0, .ref o), (1, .int 12)], [], M)) (S2 := (4, [(0, .ref o), (1, .int 12)], [], M)) rfl rfl rfl (fun c_1 => ?_) (fun c_1 => ?_)
  · exact absurd (of_decide_eq_true c_1) (by decide)
  refine ps_st (S' := (5, [(0, .ref o), (1, .int 12)], [.int 12], M)) rfl rfl rfl ?_
  refine ps_st (S' := (7, [(0, .ref o), (1, .int 12)], [.int 15, .int 12], M)) rfl rfl rfl ?_
  refine ps_if2 (S1 := (20, [(0, .ref o), (1, .int 12)], [], M)) (S2 := (10, [(0, .ref o), (1, .int 12)], [], M)) rfl rfl rfl (fun c_7 => ?_) (fun c_7 => ?_)
  rotate_left
  · exact absurd (by decide) (of_decide_eq_false c_7)
  refine ps_st (S' := (21, [(0, .ref o), (1, .int 12)], [.ref o], M)) rfl rfl rfl ?_
  refine ps_get (S' := (24, [(0, .ref o), (1, .int 12)], [.ref c], M)) rfl h_o rfl rfl ?_
  refine ps_st (S' := (31, [(0, .ref o), (1, .int 12)], [], M)) rfl rfl rfl ?_
  refine ps_st (S' := (32, [(0, .ref o), (1, .int 12)], [.ref o], M)) rfl rfl rfl ?_
  refine ps_get (S' := (35, [(0, .ref o), (1, .int 12)], [.ref c], M)) rfl h_o rfl rfl ?_
  refine ps_st (S' := (36, [(0, .ref o), (1, .int 12)], [.int 12, .ref c], M)) rfl rfl rfl ?_
  refine pl_call (a := [.ref c, .int 12]) (rest := []) rfl rfl rfl (dk_num12 (f := f) (n := n) (N := N) (q := q) (c := c) (b := b) (da := da) (fr := fr) (mr := mr) (p1 := p1) (l1 := l1) (l2 := l2) (q1 := q1) (q2 := q2) (q3 := q3) (q4 := q4) (q5 := q5) (q6 := q6) (R1 := R1) (R2 := R2) (cc := cc) (u2 := u2) (u3 := u3) (u5 := u5) (x8 := x8) (x9 := x9) (x10 := x10) (x11 := x11) (x12 := x12) (x13 := x13) (x14 := x14) (x15 := x15) (x16 := x16) h_c h_b h_da h_q h_fr h_mr (hn) (hp1)) (fun v1 M2 q3 => ?_)
  obtain ⟨rfl, rfl⟩ := q3
  show pl _ _ _ (39, [], [.int x13], M) _
  exact ps_reti rfl (⟨rfl, rfl⟩)
set_option maxHeartbeats 1000000 in
theorem dk_count_13 {g : xe_G} {M : mi_H} {f : Nat → Int32} {n N q c b da fr mr p1 l1 l2 q1 q2 q3 q4 q5 q6 : Nat} {R1 R2 : Nat → Value} {cc u2 u3 u5 x8 x9 x10 x11 x12 x13 x14 x15 x16 : Int32} {o ca fl : Nat} {cn wp : Int32} (h_o : M.1 o = some (ob 11 [.ref ca, .int cn, .ref fl, .ref c, .int wp])) (h_c : M.1 c = some (ob 3 [.ref b, .ref q, .int u2, .int u3, .int (nI p1), .int u5, .ref fr, .ref mr, .int x8, .int x9, .int x10, .int x11, .int x12, .int x13, .int x14, .int x15, .int x16])) (h_b : M.1 b = some (ob 1 [.ref da])) (h_da : M.1 da = some (ar .byte n f)) (h_q : M.1 q = some (ob 7 [.int (nI N), .ref q1, .ref q2, .ref q3, .ref q4, .ref q5, .ref q6, .int cc])) (h_fr : M.1 fr = some (ro "ClassGate$Member" l1 R1)) (h_mr : M.1 mr = some (ro "ClassGate$Member" l2 R2)) (hn : n ≤ 65540) (hp1 : p1 + 8 ≤ n) : pt (mT g) 5 [.ref o, .int 13] M (fun v M' => (v = some (.int x14) ∧ M = M')) := by
  refine pt_in (b := mb_5 g) rfl (fun kf => ?_)
  show pl (mT g) kf (mb_5 g).2 (0, [(0, .ref o), (1, .int 13)], [], M) _
  refine ps_st (S' := (1, [(0, .ref o), (1, .int 13)], [.int 13], M)) rfl rfl rfl ?_
  refine ps_if (S1 := (10, [(0, .ref o), (1, .int 13)], [], M)) (S2 := (4, [(0, .ref o), (1, .int 13)], [], M)) rfl rfl rfl (fun c_1 => ?_) (fun c_1 => ?_)
  · exact absurd (of_decide_eq_true c_1) (by decide)
  refine ps_st (S' := (5, [(0, .ref o), (1, .int 13)], [.int 13], M)) rfl rfl rfl ?_
  refine ps_st (S' := (7, [(0, .ref o), (1, .int 13)], [.int 15, .int 13], M)) rfl rfl rfl ?_
  refine ps_if2 (S1 := (20, [(0, .ref o), (1, .int 13)], [], M)) (S2 := (10, [(0, .ref o), (1, .int 13)], [], M)) rfl rfl rfl (fun c_7 => ?_) (fun c_7 => ?_)
  rotate_left
  · exact absurd (by decide) (of_decide_eq_false c_7)
  refine ps_st (S' := (21, [(0, .ref o), (1, .int 13)], [.ref o], M)) rfl rfl rfl ?_
  refine ps_get (S' := (24, [(0, .ref o), (1, .int 13)], [.ref c], M)) rfl h_o rfl rfl ?_
  refine ps_st (S' := (31, [(0, .ref o), (1, .int 13)], [], M)) rfl rfl rfl ?_
  refine ps_st (S' := (32, [(0, .ref o), (1, .int 13)], [.ref o], M)) rfl rfl rfl ?_
  refine ps_get (S' := (35, [(0, .ref o), (1, .int 13)], [.ref c], M)) rfl h_o rfl rfl ?_
  refine ps_st (S' := (36, [(0, .ref o), (1, .int 13)], [.int 13, .ref c], M)) rfl rfl rfl ?_
  refine pl_call (a := [.ref c, .int 13]) (rest := []) rfl rfl rfl (dk_num13 (f := f) (n := n) (N := N) (q := q) (c := c) (b := b) (da := da) (fr := fr) (mr := mr) (p1 := p1) (l1 := l1) (l2 := l2) (q1 := q1) (q2 := q2) (q3 := q3) (q4 := q4) (q5 := q5) (q6 := q6) (R1 := R1) (R2 := R2) (cc := cc) (u2 := u2) (u3 := u3) (u5 := u5) (x8 := x8) (x9 := x9) (x10 := x10) (x11 := x11) (x12 := x12) (x13 := x13) (x14 := x14) (x15 := x15) (x16 := x16) h_c h_b h_da h_q h_fr h_mr (hn) (hp1)) (fun v1 M2 q3 => ?_)
  obtain ⟨rfl, rfl⟩ := q3
  show pl _ _ _ (39, [], [.int x14], M) _
  exact ps_reti rfl (⟨rfl, rfl⟩)
set_option maxHeartbeats 1000000 in
theorem dk_count_14 {g : xe_G} {M : mi_H} {f : Nat → Int32} {n N q c b da fr mr p1 l1 l2 q1 q2 q3 q4 q5 q6 : Nat} {R1 R2 : Nat → Value} {cc u2 u3 u5 x8 x9 x10 x11 x12 x13 x14 x15 x16 : Int32} {o ca fl : Nat} {cn wp : Int32} (h_o : M.1 o = some (ob 11 [.ref ca, .int cn, .ref fl, .ref c, .int wp])) (h_c : M.1 c = some (ob 3 [.ref b, .ref q, .int u2, .int u3, .int (nI p1), .int u5, .ref fr, .ref mr, .int x8, .int x9, .int x10, .int x11, .int x12, .int x13, .int x14, .int x15, .int x16])) (h_b : M.1 b = some (ob 1 [.ref da])) (h_da : M.1 da = some (ar .byte n f)) (h_q : M.1 q = some (ob 7 [.int (nI N), .ref q1, .ref q2, .ref q3, .ref q4, .ref q5, .ref q6, .int cc])) (h_fr : M.1 fr = some (ro "ClassGate$Member" l1 R1)) (h_mr : M.1 mr = some (ro "ClassGate$Member" l2 R2)) (hn : n ≤ 65540) (hp1 : p1 + 8 ≤ n) : pt (mT g) 5 [.ref o, .int 14] M (fun v M' => (v = some (.int x15) ∧ M = M')) := by
  refine pt_in (b := mb_5 g) rfl (fun kf => ?_)
  show pl (mT g) kf (mb_5 g).2 (0, [(0, .ref o), (1, .int 14)], [], M) _
  refine ps_st (S' := (1, [(0, .ref o), (1, .int 14)], [.int 14], M)) rfl rfl rfl ?_
  refine ps_if (S1 := (10, [(0, .ref o), (1, .int 14)], [], M)) (S2 := (4, [(0, .ref o), (1, .int 14)], [], M)) rfl rfl rfl (fun c_1 => ?_) (fun c_1 => ?_)
  · exact absurd (of_decide_eq_true c_1) (by decide)
  refine ps_st (S' := (5, [(0, .ref o), (1, .int 14)], [.int 14], M)) rfl rfl rfl ?_
  refine ps_st (S' := (7, [(0, .ref o), (1, .int 14)], [.int 15, .int 14], M)) rfl rfl rfl ?_
  refine ps_if2 (S1 := (20, [(0, .ref o), (1, .int 14)], [], M)) (S2 := (10, [(0, .ref o), (1, .int 14)], [], M)) rfl rfl rfl (fun c_7 => ?_) (fun c_7 => ?_)
  rotate_left
  · exact absurd (by decide) (of_decide_eq_false c_7)
  refine ps_st (S' := (21, [(0, .ref o), (1, .int 14)], [.ref o], M)) rfl rfl rfl ?_
  refine ps_get (S' := (24, [(0, .ref o), (1, .int 14)], [.ref c], M)) rfl h_o rfl rfl ?_
  refine ps_st (S' := (31, [(0, .ref o), (1, .int 14)], [], M)) rfl rfl rfl ?_
  refine ps_st (S' := (32, [(0, .ref o), (1, .int 14)], [.ref o], M)) rfl rfl rfl ?_
  refine ps_get (S' := (35, [(0, .ref o), (1, .int 14)], [.ref c], M)) rfl h_o rfl rfl ?_
  refine ps_st (S' := (36, [(0, .ref o), (1, .int 14)], [.int 14, .ref c], M)) rfl rfl rfl ?_
  refine pl_call (a := [.ref c, .int 14]) (rest := []) rfl rfl rfl (dk_num14 (f := f) (n := n) (N := N) (q := q) (c := c) (b := b) (da := da) (fr := fr) (mr := mr) (p1 := p1) (l1 := l1) (l2 := l2) (q1 := q1) (q2 := q2) (q3 := q3) (q4 := q4) (q5 := q5) (q6 := q6) (R1 := R1) (R2 := R2) (cc := cc) (u2 := u2) (u3 := u3) (u5 := u5) (x8 := x8) (x9 := x9) (x10 := x10) (x11 := x11) (x12 := x12) (x13 := x13) (x14 := x14) (x15 := x15) (x16 := x16) h_c h_b h_da h_q h_fr h_mr (hn) (hp1)) (fun v1 M2 q3 => ?_)
  obtain ⟨rfl, rfl⟩ := q3
  show pl _ _ _ (39, [], [.int x15], M) _
  exact ps_reti rfl (⟨rfl, rfl⟩)
set_option maxHeartbeats 1000000 in
theorem dk_count_15 {g : xe_G} {M : mi_H} {f : Nat → Int32} {n N q c b da fr mr p1 l1 l2 q1 q2 q3 q4 q5 q6 : Nat} {R1 R2 : Nat → Value} {cc u2 u3 u5 x8 x9 x10 x11 x12 x13 x14 x15 x16 : Int32} {o ca fl : Nat} {cn wp : Int32} (h_o : M.1 o = some (ob 11 [.ref ca, .int cn, .ref fl, .ref c, .int wp])) (h_c : M.1 c = some (ob 3 [.ref b, .ref q, .int u2, .int u3, .int (nI p1), .int u5, .ref fr, .ref mr, .int x8, .int x9, .int x10, .int x11, .int x12, .int x13, .int x14, .int x15, .int x16])) (h_b : M.1 b = some (ob 1 [.ref da])) (h_da : M.1 da = some (ar .byte n f)) (h_q : M.1 q = some (ob 7 [.int (nI N), .ref q1, .ref q2, .ref q3, .ref q4, .ref q5, .ref q6, .int cc])) (h_fr : M.1 fr = some (ro "ClassGate$Member" l1 R1)) (h_mr : M.1 mr = some (ro "ClassGate$Member" l2 R2)) (hn : n ≤ 65540) (hp1 : p1 + 8 ≤ n) : pt (mT g) 5 [.ref o, .int 15] M (fun v M' => (v = some (.int x16) ∧ M = M')) := by
  refine pt_in (b := mb_5 g) rfl (fun kf => ?_)
  show pl (mT g) kf (mb_5 g).2 (0, [(0, .ref o), (1, .int 15)], [], M) _
  refine ps_st (S' := (1, [(0, .ref o), (1, .int 15)], [.int 15], M)) rfl rfl rfl ?_
  refine ps_if (S1 := (10, [(0, .ref o), (1, .int 15)], [], M)) (S2 := (4, [(0, .ref o), (1, .int 15)], [], M)) rfl rfl rfl (fun c_1 => ?_) (fun c_1 => ?_)
  · exact absurd (of_decide_eq_true c_1) (by decide)
  refine ps_st (S' := (5, [(0, .ref o), (1, .int 15)], [.int 15], M)) rfl rfl rfl ?_
  refine ps_st (S' := (7, [(0, .ref o), (1, .int 15)], [.int 15, .int 15], M)) rfl rfl rfl ?_
  refine ps_if2 (S1 := (20, [(0, .ref o), (1, .int 15)], [], M)) (S2 := (10, [(0, .ref o), (1, .int 15)], [], M)) rfl rfl rfl (fun c_7 => ?_) (fun c_7 => ?_)
  rotate_left
  · exact absurd (by decide) (of_decide_eq_false c_7)
  refine ps_st (S' := (21, [(0, .ref o), (1, .int 15)], [.ref o], M)) rfl rfl rfl ?_
  refine ps_get (S' := (24, [(0, .ref o), (1, .int 15)], [.ref c], M)) rfl h_o rfl rfl ?_
  refine ps_st (S' := (31, [(0, .ref o), (1, .int 15)], [], M)) rfl rfl rfl ?_
  refine ps_st (S' := (32, [(0, .ref o), (1, .int 15)], [.ref o], M)) rfl rfl rfl ?_
  refine ps_get (S' := (35, [(0, .ref o), (1, .int 15)], [.ref c], M)) rfl h_o rfl rfl ?_
  refine ps_st (S' := (36, [(0, .ref o), (1, .int 15)], [.int 15, .ref c], M)) rfl rfl rfl ?_
  refine pl_call (a := [.ref c, .int 15]) (rest := []) rfl rfl rfl (dk_num15 (f := f) (n := n) (N := N) (q := q) (c := c) (b := b) (da := da) (fr := fr) (mr := mr) (p1 := p1) (l1 := l1) (l2 := l2) (q1 := q1) (q2 := q2) (q3 := q3) (q4 := q4) (q5 := q5) (q6 := q6) (R1 := R1) (R2 := R2) (cc := cc) (u2 := u2) (u3 := u3) (u5 := u5) (x8 := x8) (x9 := x9) (x10 := x10) (x11 := x11) (x12 := x12) (x13 := x13) (x14 := x14) (x15 := x15) (x16 := x16) h_c h_b h_da h_q h_fr h_mr (hn) (hp1)) (fun v1 M2 q3 => ?_)
  obtain ⟨rfl, rfl⟩ := q3
  show pl _ _ _ (39, [], [.int x16], M) _
  exact ps_reti rfl (⟨rfl, rfl⟩)
theorem dk_count {g : xe_G} {M : mi_H} {ko : Option (Nat × (Nat → Int32))} {kv : Value} {cm o fl : Nat} {cn wp w : Int32} (hx : M.1 o = some (ob 11 [.ref cm, .int cn, .ref fl, kv, .int wp])) (hK : KPC g ko kv cm M) (h0 : ¬ w < 0) (h1 : w ≤ 15) : pt (mT g) 5 [.ref o, .int w] M (fun v M' => v = some (.int (cnK ko w)) ∧ M = M') := by
  cases ko with
  | none =>
    have e : kv = .null := hK
    subst e
    exact dk_count0 hx h0 h1
  | some r =>
    obtain ⟨c, da, rfl, ⟨b, q, N, E, p1, pF, pM, pA, w', k1, k2, k3, k4, k5, rfl, -, k7, fr, mr, G1, G2, _, _, bc, K, rfl, m1, m2, m3, m4, m5, m6, m7, m8, -⟩, -, -⟩ := hK
    rw [cnK_is k5 m7 m8]
    have hcl := s_class_in m3
    obtain ⟨ew, hw⟩ := i32_16 h0 h1
    obtain ⟨j, ej⟩ : ∃ j, j = w.toNatClampNeg := ⟨_, rfl⟩
    rw [← ej] at ew hw ⊢
    subst ew
    obtain ⟨R1, r1, -⟩ := m1.2.1
    obtain ⟨R2, r2, -⟩ := m2.2.1
    obtain ⟨hL9, H, m, qq, F, cc, hP9, hT9, -, hb9, hVF, -⟩ := id k4
    have hq := hP9.1
    rw [hb9.2.2.2] at hq
    have hp1 : p1 + 8 ≤ r.1 := by omega
    rcases (show j = 0 ∨ j = 1 ∨ j = 2 ∨ j = 3 ∨ j = 4 ∨ j = 5 ∨ j = 6 ∨ j = 7 ∨ j = 8 ∨ j = 9 ∨ j = 10 ∨ j = 11 ∨ j = 12 ∨ j = 13 ∨ j = 14 ∨ j = 15 by omega) with rfl | rfl | rfl | rfl | rfl | rfl | rfl | rfl | rfl | rfl | rfl | rfl | rfl | rfl | rfl | rfl
    · exact dk_count_0 hx k1 k2 k3 hq r1 r2 k7 hp1
    · exact dk_count_1 hx k1 k2 k3 hq r1 r2 k7 hp1
    · exact dk_count_2 hx k1 k2 k3 hq r1 r2 k7 hp1
    · exact dk_count_3 hx k1 k2 k3 hq r1 r2 k7 hp1
    · exact dk_count_4 hx k1 k2 k3 hq r1 r2 k7 hp1
    · exact dk_count_5 hx k1 k2 k3 hq r1 r2 k7 hp1
    · exact dk_count_6 hx k1 k2 k3 hq r1 r2 k7 hp1
    · exact dk_count_7 hx k1 k2 k3 hq r1 r2 k7 hp1
    · exact dk_count_8 hx k1 k2 k3 hq r1 r2 k7 hp1
    · exact dk_count_9 hx k1 k2 k3 hq r1 r2 k7 hp1
    · exact dk_count_10 hx k1 k2 k3 hq r1 r2 k7 hp1
    · exact dk_count_11 hx k1 k2 k3 hq r1 r2 k7 hp1
    · exact dk_count_12 hx k1 k2 k3 hq r1 r2 k7 hp1
    · exact dk_count_13 hx k1 k2 k3 hq r1 r2 k7 hp1
    · exact dk_count_14 hx k1 k2 k3 hq r1 r2 k7 hp1
    · exact dk_count_15 hx k1 k2 k3 hq r1 r2 k7 hp1
end
section
set_option maxHeartbeats 1000000 in
theorem rd_countB {g : xe_G} {m0 : Nat} {q : Nat → Nat} {z : Nat × Nat} {I : rI} {R : rR} {M : mi_H} {w : Int32} (hR : RS g m0 q z I R M)   (hbad : w < 0 ∨ ¬ w ≤ 15) : pt (mT g) 198 [.ref m0, .int w] M (fun v M' => (∃  (I' : rI) (R' : rR), v = some (.int 0) ∧ RS g m0 q z I' R' M' ∧ eqI [0] I I' ∧ eqR [] R R' ∧ I' 0 = some 1)) := by
  refine pt_in (b := mb_198 g) rfl (fun kf => ?_)
  show pl (mT g) kf (mb_198 g).2 (0, [(0, .ref m0), (1, .int w)], [], M) _
  have hEI : eqI [0] I I := eqI.rf
  have hER : eqR [] R R := eqR.rf
  refine ps_st (S' := (1, [(0, .ref m0), (1, .int w)], [.ref m0], M)) rfl rfl rfl ?_
  refine ps_st (S' := (2, [(0, .ref m0), (1, .int w)], [.int 0, .ref m0], M)) rfl rfl rfl ?_
  refine pr_put (j := 0) rfl hR rfl (fun M1 I2 hR3 hi4 hI5 => ?_)
  have hEI6 := hEI.put hI5 (by decide)
  show pl _ _ _ (5, [(0, .ref m0), (1, .int w)], [], M1) _
  refine ps_st (S' := (6, [(0, .ref m0), (1, .int w)], [.int w], M1)) rfl rfl rfl ?_
  refine ps_if (S1 := (15, [(0, .ref m0)], [], M1)) (S2 := (9, [(0, .ref m0), (1, .int w)], [], M1)) rfl rfl rfl (fun c_6 => ?_) (fun c_6 => ?_)
  · have c_6 : w < 0 := of_decide_eq_true c_6
    refine ps_st (S' := (16, [(0, .ref m0)], [.ref m0], M1)) rfl rfl rfl ?_
    refine pl_call (a := [.ref m0]) (rest := []) rfl rfl rfl (rd_bad hR3) (fun v7 M8 q9 => ?_)
    obtain ⟨I10, R11, rfl, hR12, hI13, hX14, hi15⟩ := q9
    have hEI16 := hEI6.tr hI13 (by decide)
    have hER17 := hER.tr hX14 (by decide)
    show pl _ _ _ (19, [(0, .ref m0)], [.int 0], M8) _
    exact ps_ret rfl rfl (⟨I10, R11, rfl, hR12, hEI16, hER17, hi15⟩)
  · have c_6 : ¬ (w < 0) := of_decide_eq_false c_6
    refine ps_st (S' := (10, [(0, .ref m0), (1, .int w)], [.int w], M1)) rfl rfl rfl ?_
    refine ps_st (S' := (12, [(0, .ref m0), (1, .int w)], [.int 15, .int w], M1)) rfl rfl rfl ?_
    refine ps_if2 (S1 := (20, [(0, .ref m0), (1, .int w)], [], M1)) (S2 := (15, [(0, .ref m0)], [], M1)) rfl rfl rfl (fun c_12 => ?_) (fun c_12 => ?_)
    · have c_12 : w ≤ 15 := of_decide_eq_true c_12
      exact absurd hbad (fun h9 => h9.elim c_6 (fun h8 => h8 c_12))
    · have c_12 : ¬ (w ≤ 15) := of_decide_eq_false c_12
      refine ps_st (S' := (16, [(0, .ref m0)], [.ref m0], M1)) rfl rfl rfl ?_
      refine pl_call (a := [.ref m0]) (rest := []) rfl rfl rfl (rd_bad hR3) (fun v18 M19 q20 => ?_)
      obtain ⟨I21, R22, rfl, hR23, hI24, hX25, hi26⟩ := q20
      have hEI27 := hEI6.tr hI24 (by decide)
      have hER28 := hER.tr hX25 (by decide)
      show pl _ _ _ (19, [(0, .ref m0)], [.int 0], M19) _
      exact ps_ret rfl rfl (⟨I21, R22, rfl, hR23, hEI27, hER28, hi26⟩)
set_option maxHeartbeats 1000000 in
theorem rd_count0 {g : xe_G} {m0 : Nat} {q : Nat → Nat} {z : Nat × Nat} {I : rI} {R : rR} {M : mi_H} {kn w : Int32} (hR : RS g m0 q z I R M) (hi18 : I 18 = some kn)  (h0 : ¬ w < 0) (h1 : w ≤ 15) (hk : kn < 0) : pt (mT g) 198 [.ref m0, .int w] M (fun v M' => (∃  (I' : rI) (R' : rR), v = some (.int (-1)) ∧ RS g m0 q z I' R' M' ∧ eqI [0] I I' ∧ eqR [] R R' ∧ I' 0 = some 0)) := by
  refine pt_in (b := mb_198 g) rfl (fun kf => ?_)
  show pl (mT g) kf (mb_198 g).2 (0, [(0, .ref m0), (1, .int w)], [], M) _
  have hEI : eqI [0] I I := eqI.rf
  have hER : eqR [] R R := eqR.rf
  refine ps_st (S' := (1, [(0, .ref m0), (1, .int w)], [.ref m0], M)) rfl rfl rfl ?_
  refine ps_st (S' := (2, [(0, .ref m0), (1, .int w)], [.int 0, .ref m0], M)) rfl rfl rfl ?_
  refine pr_put (j := 0) rfl hR rfl (fun M1 I2 hR3 hi4 hI5 => ?_)
  have hi6 := (hI5 18 (by decide)).trans hi18
  have hEI7 := hEI.put hI5 (by decide)
  show pl _ _ _ (5, [(0, .ref m0), (1, .int w)], [], M1) _
  refine ps_st (S' := (6, [(0, .ref m0), (1, .int w)], [.int w], M1)) rfl rfl rfl ?_
  refine ps_if (S1 := (15, [(0, .ref m0)], [], M1)) (S2 := (9, [(0, .ref m0), (1, .int w)], [], M1)) rfl rfl rfl (fun c_6 => ?_) (fun c_6 => ?_)
  · exact absurd (of_decide_eq_true c_6) (h0)
  refine ps_st (S' := (10, [(0, .ref m0), (1, .int w)], [.int w], M1)) rfl rfl rfl ?_
  refine ps_st (S' := (12, [(0, .ref m0), (1, .int w)], [.int 15, .int w], M1)) rfl rfl rfl ?_
  refine ps_if2 (S1 := (20, [(0, .ref m0), (1, .int w)], [], M1)) (S2 := (15, [(0, .ref m0)], [], M1)) rfl rfl rfl (fun c_12 => ?_) (fun c_12 => ?_)
  rotate_left
  · exact absurd (h1) (of_decide_eq_false c_12)
  refine ps_st (S' := (21, [(0, .ref m0), (1, .int w)], [.ref m0], M1)) rfl rfl rfl ?_
  refine pr_int (j := 18) (S' := (24, [(0, .ref m0), (1, .int w)], [.int kn], M1)) rfl hR3 rfl hi6 rfl ?_
  refine ps_if (S1 := (29, [(0, .ref m0), (1, .int w)], [], M1)) (S2 := (27, [(0, .ref m0), (1, .int w)], [], M1)) rfl rfl rfl (fun c_24 => ?_) (fun c_24 => ?_)
  · exact absurd (of_decide_eq_true c_24) (Int32.not_le.mpr hk)
  refine ps_st (S' := (28, [(0, .ref m0), (1, .int w)], [.int (-1)], M1)) rfl rfl rfl ?_
  exact ps_ret rfl rfl (⟨I2, R, rfl, hR3, hEI7, hER, hi4⟩)
set_option maxHeartbeats 1000000 in
theorem rd_count_0 {g : xe_G} {m0 : Nat} {q : Nat → Nat} {z : Nat × Nat} {I : rI} {R : rR} {M : mi_H} {n2 : Nat} {N : Nat} (hR : RS g m0 q z I R M) (hi18 : I 18 = some (nI n2)) (hi52 : I 52 = some (nI N))  (hn2 : n2 ≤ 65540) : pt (mT g) 198 [.ref m0, .int 0] M (fun v M' => (∃  (I' : rI) (R' : rR), v = some (.int (nI N)) ∧ RS g m0 q z I' R' M' ∧ eqI [0] I I' ∧ eqR [] R R' ∧ I' 0 = some 0)) := by
  refine pt_in (b := mb_198 g) rfl (fun kf => ?_)
  show pl (mT g) kf (mb_198 g).2 (0, [(0, .ref m0), (1, .int 0)], [], M) _
  have hEI : eqI [0] I I := eqI.rf
  have hER : eqR [] R R := eqR.rf
  refine ps_st (S' := (1, [(0, .ref m0), (1, .int 0)], [.ref m0], M)) rfl rfl rfl ?_
  refine ps_st (S' := (2, [(0, .ref m0), (1, .int 0)], [.int 0, .ref m0], M)) rfl rfl rfl ?_
  refine pr_put (j := 0) rfl hR rfl (fun M1 I2 hR3 hi4 hI5 => ?_)
  have hi6 := (hI5 18 (by decide)).trans hi18
  have hi7 := (hI5 52 (by decide)).trans hi52
  have hEI8 := hEI.put hI5 (by decide)
  show pl _ _ _ (5, [(0, .ref m0), (1, .int 0)], [], M1) _
  refine ps_st (S' := (6, [(0, .ref m0), (1, .int 0)], [.int 0], M1)) rfl rfl rfl ?_
  refine ps_if (S1 := (15, [(0, .ref m0)], [], M1)) (S2 := (9, [(0, .ref m0), (1, .int 0)], [], M1)) rfl rfl rfl (fun c_6 => ?_) (fun c_6 => ?_)
  · exact absurd (of_decide_eq_true c_6) (by decide)
  refine ps_st (S' := (10, [(0, .ref m0), (1, .int 0)], [.int 0], M1)) rfl rfl rfl ?_
  refine ps_st (S' := (12, [(0, .ref m0), (1, .int 0)], [.int 15, .int 0], M1)) rfl rfl rfl ?_
  refine ps_if2 (S1 := (20, [(0, .ref m0), (1, .int 0)], [], M1)) (S2 := (15, [(0, .ref m0)], [], M1)) rfl rfl rfl (fun c_12 => ?_) (fun c_12 => ?_)
  rotate_left
  · exact absurd (by decide) (of_decide_eq_false c_12)
  refine ps_st (S' := (21, [(0, .ref m0), (1, .int 0)], [.ref m0], M1)) rfl rfl rfl ?_
  refine pr_int (j := 18) (S' := (24, [(0, .ref m0), (1, .int 0)], [.int (nI n2)], M1)) rfl hR3 rfl hi6 rfl ?_
  refine ps_if (S1 := (29, [(0, .ref m0), (1, .int 0)], [], M1)) (S2 := (27, [(0, .ref m0), (1, .int 0)], [], M1)) rfl rfl rfl (fun c_24 => ?_) (fun c_24 => ?_)
  rotate_left
  · exact absurd ((le_nI (p := 0) (n := n2) (by decide) (by omega)).mpr (by omega)) (of_decide_eq_false c_24)
  refine ps_st (S' := (30, [(0, .ref m0), (1, .int 0)], [.int 0], M1)) rfl rfl rfl ?_
  refine ps_st (S' := (104, [(0, .ref m0), (1, .int 0)], [], M1)) rfl rfl rfl ?_
  refine ps_st (S' := (105, [(0, .ref m0), (1, .int 0)], [.ref m0], M1)) rfl rfl rfl ?_
  refine pr_int (j := 52) (S' := (108, [(0, .ref m0), (1, .int 0)], [.int (nI N)], M1)) rfl hR3 rfl hi7 rfl ?_
  exact ps_reti rfl (⟨I2, R, rfl, hR3, hEI8, hER, hi4⟩)
set_option maxHeartbeats 1000000 in
theorem rd_count_1 {g : xe_G} {m0 : Nat} {q : Nat → Nat} {z : Nat × Nat} {I : rI} {R : rR} {M : mi_H} {n2 : Nat} {l1 : Nat} (hR : RS g m0 q z I R M) (hi18 : I 18 = some (nI n2)) (hi25 : I 25 = some (nI l1))  (hn2 : n2 ≤ 65540) : pt (mT g) 198 [.ref m0, .int 1] M (fun v M' => (∃  (I' : rI) (R' : rR), v = some (.int (nI l1)) ∧ RS g m0 q z I' R' M' ∧ eqI [0] I I' ∧ eqR [] R R' ∧ I' 0 = some 0)) := by
  refine pt_in (b := mb_198 g) rfl (fun kf => ?_)
  show pl (mT g) kf (mb_198 g).2 (0, [(0, .ref m0), (1, .int 1)], [], M) _
  have hEI : eqI [0] I I := eqI.rf
  have hER : eqR [] R R := eqR.rf
  refine ps_st (S' := (1, [(0, .ref m0), (1, .int 1)], [.ref m0], M)) rfl rfl rfl ?_
  refine ps_st (S' := (2, [(0, .ref m0), (1, .int 1)], [.int 0, .ref m0], M)) rfl rfl rfl ?_
  refine pr_put (j := 0) rfl hR rfl (fun M1 I2 hR3 hi4 hI5 => ?_)
  have hi6 := (hI5 18 (by decide)).trans hi18
  have hi7 := (hI5 25 (by decide)).trans hi25
  have hEI8 := hEI.put hI5 (by decide)
  show pl _ _ _ (5, [(0, .ref m0), (1, .int 1)], [], M1) _
  refine ps_st (S' := (6, [(0, .ref m0), (1, .int 1)], [.int 1], M1)) rfl rfl rfl ?_
  refine ps_if (S1 := (15, [(0, .ref m0)], [], M1)) (S2 := (9, [(0, .ref m0), (1, .int 1)], [], M1)) rfl rfl rfl (fun c_6 => ?_) (fun c_6 => ?_)
  · exact absurd (of_decide_eq_true c_6) (by decide)
  refine ps_st (S' := (10, [(0, .ref m0), (1, .int 1)], [.int 1], M1)) rfl rfl rfl ?_
  refine ps_st (S' := (12, [(0, .ref m0), (1, .int 1)], [.int 15, .int 1], M1)) rfl rfl rfl ?_
  refine ps_if2 (S1 := (20, [(0, .ref m0), (1, .int 1)], [], M1)) (S2 := (15, [(0, .ref m0)], [], M1)) rfl rfl rfl (fun c_12 => ?_) (fun c_12 => ?_)
  rotate_left
  · exact absurd (by decide) (of_decide_eq_false c_12)
  refine ps_st (S' := (21, [(0, .ref m0), (1, .int 1)], [.ref m0], M1)) rfl rfl rfl ?_
  refine pr_int (j := 18) (S' := (24, [(0, .ref m0), (1, .int 1)], [.int (nI n2)], M1)) rfl hR3 rfl hi6 rfl ?_
  refine ps_if (S1 := (29, [(0, .ref m0), (1, .int 1)], [], M1)) (S2 := (27, [(0, .ref m0), (1, .int 1)], [], M1)) rfl rfl rfl (fun c_24 => ?_) (fun c_24 => ?_)
  rotate_left
  · exact absurd ((le_nI (p := 0) (n := n2) (by decide) (by omega)).mpr (by omega)) (of_decide_eq_false c_24)
  refine ps_st (S' := (30, [(0, .ref m0), (1, .int 1)], [.int 1], M1)) rfl rfl rfl ?_
  refine ps_st (S' := (109, [(0, .ref m0), (1, .int 1)], [], M1)) rfl rfl rfl ?_
  refine ps_st (S' := (110, [(0, .ref m0), (1, .int 1)], [.ref m0], M1)) rfl rfl rfl ?_
  refine pr_int (j := 25) (S' := (113, [(0, .ref m0), (1, .int 1)], [.int (nI l1)], M1)) rfl hR3 rfl hi7 rfl ?_
  exact ps_reti rfl (⟨I2, R, rfl, hR3, hEI8, hER, hi4⟩)
set_option maxHeartbeats 1000000 in
theorem rd_count_2 {g : xe_G} {m0 : Nat} {q : Nat → Nat} {z : Nat × Nat} {I : rI} {R : rR} {M : mi_H} {n2 : Nat} {l2 : Nat} (hR : RS g m0 q z I R M) (hi18 : I 18 = some (nI n2)) (hi26 : I 26 = some (nI l2))  (hn2 : n2 ≤ 65540) : pt (mT g) 198 [.ref m0, .int 2] M (fun v M' => (∃  (I' : rI) (R' : rR), v = some (.int (nI l2)) ∧ RS g m0 q z I' R' M' ∧ eqI [0] I I' ∧ eqR [] R R' ∧ I' 0 = some 0)) := by
  refine pt_in (b := mb_198 g) rfl (fun kf => ?_)
  show pl (mT g) kf (mb_198 g).2 (0, [(0, .ref m0), (1, .int 2)], [], M) _
  have hEI : eqI [0] I I := eqI.rf
  have hER : eqR [] R R := eqR.rf
  refine ps_st (S' := (1, [(0, .ref m0), (1, .int 2)], [.ref m0], M)) rfl rfl rfl ?_
  refine ps_st (S' := (2, [(0, .ref m0), (1, .int 2)], [.int 0, .ref m0], M)) rfl rfl rfl ?_
  refine pr_put (j := 0) rfl hR rfl (fun M1 I2 hR3 hi4 hI5 => ?_)
  have hi6 := (hI5 18 (by decide)).trans hi18
  have hi7 := (hI5 26 (by decide)).trans hi26
  have hEI8 := hEI.put hI5 (by decide)
  show pl _ _ _ (5, [(0, .ref m0), (1, .int 2)], [], M1) _
  refine ps_st (S' := (6, [(0, .ref m0), (1, .int 2)], [.int 2], M1)) rfl rfl rfl ?_
  refine ps_if (S1 := (15, [(0, .ref m0)], [], M1)) (S2 := (9, [(0, .ref m0), (1, .int 2)], [], M1)) rfl rfl rfl (fun c_6 => ?_) (fun c_6 => ?_)
  · exact absurd (of_decide_eq_true c_6) (by decide)
  refine ps_st (S' := (10, [(0, .ref m0), (1, .int 2)], [.int 2], M1)) rfl rfl rfl ?_
  refine ps_st (S' := (12, [(0, .ref m0), (1, .int 2)], [.int 15, .int 2], M1)) rfl rfl rfl ?_
  refine ps_if2 (S1 := (20, [(0, .ref m0), (1, .int 2)], [], M1)) (S2 := (15, [(0, .ref m0)], [], M1)) rfl rfl rfl (fun c_12 => ?_) (fun c_12 => ?_)
  rotate_left
  · exact absurd (by decide) (of_decide_eq_false c_12)
  refine ps_st (S' := (21, [(0, .ref m0), (1, .int 2)], [.ref m0], M1)) rfl rfl rfl ?_
  refine pr_int (j := 18) (S' := (24, [(0, .ref m0), (1, .int 2)], [.int (nI n2)], M1)) rfl hR3 rfl hi6 rfl ?_
  refine ps_if (S1 := (29, [(0, .ref m0), (1, .int 2)], [], M1)) (S2 := (27, [(0, .ref m0), (1, .int 2)], [], M1)) rfl rfl rfl (fun c_24 => ?_) (fun c_24 => ?_)
  rotate_left
  · exact absurd ((le_nI (p := 0) (n := n2) (by decide) (by omega)).mpr (by omega)) (of_decide_eq_false c_24)
  refine ps_st (S' := (30, [(0, .ref m0), (1, .int 2)], [.int 2], M1)) rfl rfl rfl ?_
  refine ps_st (S' := (114, [(0, .ref m0), (1, .int 2)], [], M1)) rfl rfl rfl ?_
  refine ps_st (S' := (115, [(0, .ref m0), (1, .int 2)], [.ref m0], M1)) rfl rfl rfl ?_
  refine pr_int (j := 26) (S' := (118, [(0, .ref m0), (1, .int 2)], [.int (nI l2)], M1)) rfl hR3 rfl hi7 rfl ?_
  exact ps_reti rfl (⟨I2, R, rfl, hR3, hEI8, hER, hi4⟩)
set_option maxHeartbeats 1000000 in
theorem rd_count_3 {g : xe_G} {m0 : Nat} {q : Nat → Nat} {z : Nat × Nat} {I : rI} {R : rR} {M : mi_H} {n2 : Nat} {vv : Int32} (hR : RS g m0 q z I R M) (hi18 : I 18 = some (nI n2)) (hi61 : I 61 = some vv)  (hn2 : n2 ≤ 65540) : pt (mT g) 198 [.ref m0, .int 3] M (fun v M' => (∃  (I' : rI) (R' : rR), v = some (.int vv) ∧ RS g m0 q z I' R' M' ∧ eqI [0] I I' ∧ eqR [] R R' ∧ I' 0 = some 0)) := by
  refine pt_in (b := mb_198 g) rfl (fun kf => ?_)
  show pl (mT g) kf (mb_198 g).2 (0, [(0, .ref m0), (1, .int 3)], [], M) _
  have hEI : eqI [0] I I := eqI.rf
  have hER : eqR [] R R := eqR.rf
  refine ps_st (S' := (1, [(0, .ref m0), (1, .int 3)], [.ref m0], M)) rfl rfl rfl ?_
  refine ps_st (S' := (2, [(0, .ref m0), (1, .int 3)], [.int 0, .ref m0], M)) rfl rfl rfl ?_
  refine pr_put (j := 0) rfl hR rfl (fun M1 I2 hR3 hi4 hI5 => ?_)
  have hi6 := (hI5 18 (by decide)).trans hi18
  have hi7 := (hI5 61 (by decide)).trans hi61
  have hEI8 := hEI.put hI5 (by decide)
  show pl _ _ _ (5, [(0, .ref m0), (1, .int 3)], [], M1) _
  refine ps_st (S' := (6, [(0, .ref m0), (1, .int 3)], [.int 3], M1)) rfl rfl rfl ?_
  refine ps_if (S1 := (15, [(0, .ref m0)], [], M1)) (S2 := (9, [(0, .ref m0), (1, .int 3)], [], M1)) rfl rfl rfl (fun c_6 => ?_) (fun c_6 => ?_)
  · exact absurd (of_decide_eq_true c_6) (by decide)
  refine ps_st (S' := (10, [(0, .ref m0), (1, .int 3)], [.int 3], M1)) rfl rfl rfl ?_
  refine ps_st (S' := (12, [(0, .ref m0), (1, .int 3)], [.int 15, .int 3], M1)) rfl rfl rfl ?_
  refine ps_if2 (S1 := (20, [(0, .ref m0), (1, .int 3)], [], M1)) (S2 := (15, [(0, .ref m0)], [], M1)) rfl rfl rfl (fun c_12 => ?_) (fun c_12 => ?_)
  rotate_left
  · exact absurd (by decide) (of_decide_eq_false c_12)
  refine ps_st (S' := (21, [(0, .ref m0), (1, .int 3)], [.ref m0], M1)) rfl rfl rfl ?_
  refine pr_int (j := 18) (S' := (24, [(0, .ref m0), (1, .int 3)], [.int (nI n2)], M1)) rfl hR3 rfl hi6 rfl ?_
  refine ps_if (S1 := (29, [(0, .ref m0), (1, .int 3)], [], M1)) (S2 := (27, [(0, .ref m0), (1, .int 3)], [], M1)) rfl rfl rfl (fun c_24 => ?_) (fun c_24 => ?_)
  rotate_left
  · exact absurd ((le_nI (p := 0) (n := n2) (by decide) (by omega)).mpr (by omega)) (of_decide_eq_false c_24)
  refine ps_st (S' := (30, [(0, .ref m0), (1, .int 3)], [.int 3], M1)) rfl rfl rfl ?_
  refine ps_st (S' := (119, [(0, .ref m0), (1, .int 3)], [], M1)) rfl rfl rfl ?_
  refine ps_st (S' := (120, [(0, .ref m0), (1, .int 3)], [.ref m0], M1)) rfl rfl rfl ?_
  refine pr_int (j := 61) (S' := (123, [(0, .ref m0), (1, .int 3)], [.int vv], M1)) rfl hR3 rfl hi7 rfl ?_
  exact ps_reti rfl (⟨I2, R, rfl, hR3, hEI8, hER, hi4⟩)
set_option maxHeartbeats 1000000 in
theorem rd_count_4 {g : xe_G} {m0 : Nat} {q : Nat → Nat} {z : Nat × Nat} {I : rI} {R : rR} {M : mi_H} {n2 : Nat} {vv : Int32} (hR : RS g m0 q z I R M) (hi18 : I 18 = some (nI n2)) (hi71 : I 71 = some vv)  (hn2 : n2 ≤ 65540) : pt (mT g) 198 [.ref m0, .int 4] M (fun v M' => (∃  (I' : rI) (R' : rR), v = some (.int vv) ∧ RS g m0 q z I' R' M' ∧ eqI [0] I I' ∧ eqR [] R R' ∧ I' 0 = some 0)) := by
  refine pt_in (b := mb_198 g) rfl (fun kf => ?_)
  show pl (mT g) kf (mb_198 g).2 (0, [(0, .ref m0), (1, .int 4)], [], M) _
  have hEI : eqI [0] I I := eqI.rf
  have hER : eqR [] R R := eqR.rf
  refine ps_st (S' := (1, [(0, .ref m0), (1, .int 4)], [.ref m0], M)) rfl rfl rfl ?_
  refine ps_st (S' := (2, [(0, .ref m0), (1, .int 4)], [.int 0, .ref m0], M)) rfl rfl rfl ?_
  refine pr_put (j := 0) rfl hR rfl (fun M1 I2 hR3 hi4 hI5 => ?_)
  have hi6 := (hI5 18 (by decide)).trans hi18
  have hi7 := (hI5 71 (by decide)).trans hi71
  have hEI8 := hEI.put hI5 (by decide)
  show pl _ _ _ (5, [(0, .ref m0), (1, .int 4)], [], M1) _
  refine ps_st (S' := (6, [(0, .ref m0), (1, .int 4)], [.int 4], M1)) rfl rfl rfl ?_
  refine ps_if (S1 := (15, [(0, .ref m0)], [], M1)) (S2 := (9, [(0, .ref m0), (1, .int 4)], [], M1)) rfl rfl rfl (fun c_6 => ?_) (fun c_6 => ?_)
  · exact absurd (of_decide_eq_true c_6) (by decide)
  refine ps_st (S' := (10, [(0, .ref m0), (1, .int 4)], [.int 4], M1)) rfl rfl rfl ?_
  refine ps_st (S' := (12, [(0, .ref m0), (1, .int 4)], [.int 15, .int 4], M1)) rfl rfl rfl ?_
  refine ps_if2 (S1 := (20, [(0, .ref m0), (1, .int 4)], [], M1)) (S2 := (15, [(0, .ref m0)], [], M1)) rfl rfl rfl (fun c_12 => ?_) (fun c_12 => ?_)
  rotate_left
  · exact absurd (by decide) (of_decide_eq_false c_12)
  refine ps_st (S' := (21, [(0, .ref m0), (1, .int 4)], [.ref m0], M1)) rfl rfl rfl ?_
  refine pr_int (j := 18) (S' := (24, [(0, .ref m0), (1, .int 4)], [.int (nI n2)], M1)) rfl hR3 rfl hi6 rfl ?_
  refine ps_if (S1 := (29, [(0, .ref m0), (1, .int 4)], [], M1)) (S2 := (27, [(0, .ref m0), (1, .int 4)], [], M1)) rfl rfl rfl (fun c_24 => ?_) (fun c_24 => ?_)
  rotate_left
  · exact absurd ((le_nI (p := 0) (n := n2) (by decide) (by omega)).mpr (by omega)) (of_decide_eq_false c_24)
  refine ps_st (S' := (30, [(0, .ref m0), (1, .int 4)], [.int 4], M1)) rfl rfl rfl ?_
  refine ps_st (S' := (124, [(0, .ref m0), (1, .int 4)], [], M1)) rfl rfl rfl ?_
  refine ps_st (S' := (125, [(0, .ref m0), (1, .int 4)], [.ref m0], M1)) rfl rfl rfl ?_
  refine pr_int (j := 71) (S' := (128, [(0, .ref m0), (1, .int 4)], [.int vv], M1)) rfl hR3 rfl hi7 rfl ?_
  exact ps_reti rfl (⟨I2, R, rfl, hR3, hEI8, hER, hi4⟩)
set_option maxHeartbeats 1000000 in
theorem rd_count_5 {g : xe_G} {m0 : Nat} {q : Nat → Nat} {z : Nat × Nat} {I : rI} {R : rR} {M : mi_H} {n2 : Nat} {vv : Int32} (hR : RS g m0 q z I R M) (hi18 : I 18 = some (nI n2)) (hi66 : I 66 = some vv)  (hn2 : n2 ≤ 65540) : pt (mT g) 198 [.ref m0, .int 5] M (fun v M' => (∃  (I' : rI) (R' : rR), v = some (.int vv) ∧ RS g m0 q z I' R' M' ∧ eqI [0] I I' ∧ eqR [] R R' ∧ I' 0 = some 0)) := by
  refine pt_in (b := mb_198 g) rfl (fun kf => ?_)
  show pl (mT g) kf (mb_198 g).2 (0, [(0, .ref m0), (1, .int 5)], [], M) _
  have hEI : eqI [0] I I := eqI.rf
  have hER : eqR [] R R := eqR.rf
  refine ps_st (S' := (1, [(0, .ref m0), (1, .int 5)], [.ref m0], M)) rfl rfl rfl ?_
  refine ps_st (S' := (2, [(0, .ref m0), (1, .int 5)], [.int 0, .ref m0], M)) rfl rfl rfl ?_
  refine pr_put (j := 0) rfl hR rfl (fun M1 I2 hR3 hi4 hI5 => ?_)
  have hi6 := (hI5 18 (by decide)).trans hi18
  have hi7 := (hI5 66 (by decide)).trans hi66
  have hEI8 := hEI.put hI5 (by decide)
  show pl _ _ _ (5, [(0, .ref m0), (1, .int 5)], [], M1) _
  refine ps_st (S' := (6, [(0, .ref m0), (1, .int 5)], [.int 5], M1)) rfl rfl rfl ?_
  refine ps_if (S1 := (15, [(0, .ref m0)], [], M1)) (S2 := (9, [(0, .ref m0), (1, .int 5)], [], M1)) rfl rfl rfl (fun c_6 => ?_) (fun c_6 => ?_)
  · exact absurd (of_decide_eq_true c_6) (by decide)
  refine ps_st (S' := (10, [(0, .ref m0), (1, .int 5)], [.int 5], M1)) rfl rfl rfl ?_
  refine ps_st (S' := (12, [(0, .ref m0), (1, .int 5)], [.int 15, .int 5], M1)) rfl rfl rfl ?_
  refine ps_if2 (S1 := (20, [(0, .ref m0), (1, .int 5)], [], M1)) (S2 := (15, [(0, .ref m0)], [], M1)) rfl rfl rfl (fun c_12 => ?_) (fun c_12 => ?_)
  rotate_left
  · exact absurd (by decide) (of_decide_eq_false c_12)
  refine ps_st (S' := (21, [(0, .ref m0), (1, .int 5)], [.ref m0], M1)) rfl rfl rfl ?_
  refine pr_int (j := 18) (S' := (24, [(0, .ref m0), (1, .int 5)], [.int (nI n2)], M1)) rfl hR3 rfl hi6 rfl ?_
  refine ps_if (S1 := (29, [(0, .ref m0), (1, .int 5)], [], M1)) (S2 := (27, [(0, .ref m0), (1, .int 5)], [], M1)) rfl rfl rfl (fun c_24 => ?_) (fun c_24 => ?_)
  rotate_left
  · exact absurd ((le_nI (p := 0) (n := n2) (by decide) (by omega)).mpr (by omega)) (of_decide_eq_false c_24)
  refine ps_st (S' := (30, [(0, .ref m0), (1, .int 5)], [.int 5], M1)) rfl rfl rfl ?_
  refine ps_st (S' := (129, [(0, .ref m0), (1, .int 5)], [], M1)) rfl rfl rfl ?_
  refine ps_st (S' := (130, [(0, .ref m0), (1, .int 5)], [.ref m0], M1)) rfl rfl rfl ?_
  refine pr_int (j := 66) (S' := (133, [(0, .ref m0), (1, .int 5)], [.int vv], M1)) rfl hR3 rfl hi7 rfl ?_
  exact ps_reti rfl (⟨I2, R, rfl, hR3, hEI8, hER, hi4⟩)
set_option maxHeartbeats 1000000 in
theorem rd_count_6 {g : xe_G} {m0 : Nat} {q : Nat → Nat} {z : Nat × Nat} {I : rI} {R : rR} {M : mi_H} {n2 : Nat} {vv : Int32} (hR : RS g m0 q z I R M) (hi18 : I 18 = some (nI n2)) (hi58 : I 58 = some vv)  (hn2 : n2 ≤ 65540) : pt (mT g) 198 [.ref m0, .int 6] M (fun v M' => (∃  (I' : rI) (R' : rR), v = some (.int vv) ∧ RS g m0 q z I' R' M' ∧ eqI [0] I I' ∧ eqR [] R R' ∧ I' 0 = some 0)) := by
  refine pt_in (b := mb_198 g) rfl (fun kf => ?_)
  show pl (mT g) kf (mb_198 g).2 (0, [(0, .ref m0), (1, .int 6)], [], M) _
  have hEI : eqI [0] I I := eqI.rf
  have hER : eqR [] R R := eqR.rf
  refine ps_st (S' := (1, [(0, .ref m0), (1, .int 6)], [.ref m0], M)) rfl rfl rfl ?_
  refine ps_st (S' := (2, [(0, .ref m0), (1, .int 6)], [.int 0, .ref m0], M)) rfl rfl rfl ?_
  refine pr_put (j := 0) rfl hR rfl (fun M1 I2 hR3 hi4 hI5 => ?_)
  have hi6 := (hI5 18 (by decide)).trans hi18
  have hi7 := (hI5 58 (by decide)).trans hi58
  have hEI8 := hEI.put hI5 (by decide)
  show pl _ _ _ (5, [(0, .ref m0), (1, .int 6)], [], M1) _
  refine ps_st (S' := (6, [(0, .ref m0), (1, .int 6)], [.int 6], M1)) rfl rfl rfl ?_
  refine ps_if (S1 := (15, [(0, .ref m0)], [], M1)) (S2 := (9, [(0, .ref m0), (1, .int 6)], [], M1)) rfl rfl rfl (fun c_6 => ?_) (fun c_6 => ?_)
  · exact absurd (of_decide_eq_true c_6) (by decide)
  refine ps_st (S' := (10, [(0, .ref m0), (1, .int 6)], [.int 6], M1)) rfl rfl rfl ?_
  refine ps_st (S' := (12, [(0, .ref m0), (1, .int 6)], [.int 15, .int 6], M1)) rfl rfl rfl ?_
  refine ps_if2 (S1 := (20, [(0, .ref m0), (1, .int 6)], [], M1)) (S2 := (15, [(0, .ref m0)], [], M1)) rfl rfl rfl (fun c_12 => ?_) (fun c_12 => ?_)
  rotate_left
  · exact absurd (by decide) (of_decide_eq_false c_12)
  refine ps_st (S' := (21, [(0, .ref m0), (1, .int 6)], [.ref m0], M1)) rfl rfl rfl ?_
  refine pr_int (j := 18) (S' := (24, [(0, .ref m0), (1, .int 6)], [.int (nI n2)], M1)) rfl hR3 rfl hi6 rfl ?_
  refine ps_if (S1 := (29, [(0, .ref m0), (1, .int 6)], [], M1)) (S2 := (27, [(0, .ref m0), (1, .int 6)], [], M1)) rfl rfl rfl (fun c_24 => ?_) (fun c_24 => ?_)
  rotate_left
  · exact absurd ((le_nI (p := 0) (n := n2) (by decide) (by omega)).mpr (by omega)) (of_decide_eq_false c_24)
  refine ps_st (S' := (30, [(0, .ref m0), (1, .int 6)], [.int 6], M1)) rfl rfl rfl ?_
  refine ps_st (S' := (134, [(0, .ref m0), (1, .int 6)], [], M1)) rfl rfl rfl ?_
  refine ps_st (S' := (135, [(0, .ref m0), (1, .int 6)], [.ref m0], M1)) rfl rfl rfl ?_
  refine pr_int (j := 58) (S' := (138, [(0, .ref m0), (1, .int 6)], [.int vv], M1)) rfl hR3 rfl hi7 rfl ?_
  exact ps_reti rfl (⟨I2, R, rfl, hR3, hEI8, hER, hi4⟩)
set_option maxHeartbeats 1000000 in
theorem rd_count_7 {g : xe_G} {m0 : Nat} {q : Nat → Nat} {z : Nat × Nat} {I : rI} {R : rR} {M : mi_H} {n2 : Nat} {vv : Int32} (hR : RS g m0 q z I R M) (hi18 : I 18 = some (nI n2)) (hi53 : I 53 = some vv)  (hn2 : n2 ≤ 65540) : pt (mT g) 198 [.ref m0, .int 7] M (fun v M' => (∃  (I' : rI) (R' : rR), v = some (.int vv) ∧ RS g m0 q z I' R' M' ∧ eqI [0] I I' ∧ eqR [] R R' ∧ I' 0 = some 0)) := by
  refine pt_in (b := mb_198 g) rfl (fun kf => ?_)
  show pl (mT g) kf (mb_198 g).2 (0, [(0, .ref m0), (1, .int 7)], [], M) _
  have hEI : eqI [0] I I := eqI.rf
  have hER : eqR [] R R := eqR.rf
  refine ps_st (S' := (1, [(0, .ref m0), (1, .int 7)], [.ref m0], M)) rfl rfl rfl ?_
  refine ps_st (S' := (2, [(0, .ref m0), (1, .int 7)], [.int 0, .ref m0], M)) rfl rfl rfl ?_
  refine pr_put (j := 0) rfl hR rfl (fun M1 I2 hR3 hi4 hI5 => ?_)
  have hi6 := (hI5 18 (by decide)).trans hi18
  have hi7 := (hI5 53 (by decide)).trans hi53
  have hEI8 := hEI.put hI5 (by decide)
  show pl _ _ _ (5, [(0, .ref m0), (1, .int 7)], [], M1) _
  refine ps_st (S' := (6, [(0, .ref m0), (1, .int 7)], [.int 7], M1)) rfl rfl rfl ?_
  refine ps_if (S1 := (15, [(0, .ref m0)], [], M1)) (S2 := (9, [(0, .ref m0), (1, .int 7)], [], M1)) rfl rfl rfl (fun c_6 => ?_) (fun c_6 => ?_)
  · exact absurd (of_decide_eq_true c_6) (by decide)
  refine ps_st (S' := (10, [(0, .ref m0), (1, .int 7)], [.int 7], M1)) rfl rfl rfl ?_
  refine ps_st (S' := (12, [(0, .ref m0), (1, .int 7)], [.int 15, .int 7], M1)) rfl rfl rfl ?_
  refine ps_if2 (S1 := (20, [(0, .ref m0), (1, .int 7)], [], M1)) (S2 := (15, [(0, .ref m0)], [], M1)) rfl rfl rfl (fun c_12 => ?_) (fun c_12 => ?_)
  rotate_left
  · exact absurd (by decide) (of_decide_eq_false c_12)
  refine ps_st (S' := (21, [(0, .ref m0), (1, .int 7)], [.ref m0], M1)) rfl rfl rfl ?_
  refine pr_int (j := 18) (S' := (24, [(0, .ref m0), (1, .int 7)], [.int (nI n2)], M1)) rfl hR3 rfl hi6 rfl ?_
  refine ps_if (S1 := (29, [(0, .ref m0), (1, .int 7)], [], M1)) (S2 := (27, [(0, .ref m0), (1, .int 7)], [], M1)) rfl rfl rfl (fun c_24 => ?_) (fun c_24 => ?_)
  rotate_left
  · exact absurd ((le_nI (p := 0) (n := n2) (by decide) (by omega)).mpr (by omega)) (of_decide_eq_false c_24)
  refine ps_st (S' := (30, [(0, .ref m0), (1, .int 7)], [.int 7], M1)) rfl rfl rfl ?_
  refine ps_st (S' := (139, [(0, .ref m0), (1, .int 7)], [], M1)) rfl rfl rfl ?_
  refine ps_st (S' := (140, [(0, .ref m0), (1, .int 7)], [.ref m0], M1)) rfl rfl rfl ?_
  refine pr_int (j := 53) (S' := (143, [(0, .ref m0), (1, .int 7)], [.int vv], M1)) rfl hR3 rfl hi7 rfl ?_
  exact ps_reti rfl (⟨I2, R, rfl, hR3, hEI8, hER, hi4⟩)
set_option maxHeartbeats 1000000 in
theorem rd_count_12 {g : xe_G} {m0 : Nat} {q : Nat → Nat} {z : Nat × Nat} {I : rI} {R : rR} {M : mi_H} {n2 : Nat} {vv : Int32} (hR : RS g m0 q z I R M) (hi18 : I 18 = some (nI n2)) (hi65 : I 65 = some vv)  (hn2 : n2 ≤ 65540) : pt (mT g) 198 [.ref m0, .int 12] M (fun v M' => (∃  (I' : rI) (R' : rR), v = some (.int vv) ∧ RS g m0 q z I' R' M' ∧ eqI [0] I I' ∧ eqR [] R R' ∧ I' 0 = some 0)) := by
  refine pt_in (b := mb_198 g) rfl (fun kf => ?_)
  show pl (mT g) kf (mb_198 g).2 (0, [(0, .ref m0), (1, .int 12)], [], M) _
  have hEI : eqI [0] I I := eqI.rf
  have hER : eqR [] R R := eqR.rf
  refine ps_st (S' := (1, [(0, .ref m0), (1, .int 12)], [.ref m0], M)) rfl rfl rfl ?_
  refine ps_st (S' := (2, [(0, .ref m0), (1, .int 12)], [.int 0, .ref m0], M)) rfl rfl rfl ?_
  refine pr_put (j := 0) rfl hR rfl (fun M1 I2 hR3 hi4 hI5 => ?_)
  have hi6 := (hI5 18 (by decide)).trans hi18
  have hi7 := (hI5 65 (by decide)).trans hi65
  have hEI8 := hEI.put hI5 (by decide)
  show pl _ _ _ (5, [(0, .ref m0), (1, .int 12)], [], M1) _
  refine ps_st (S' := (6, [(0, .ref m0), (1, .int 12)], [.int 12], M1)) rfl rfl rfl ?_
  refine ps_if (S1 := (15, [(0, .ref m0)], [], M1)) (S2 := (9, [(0, .ref m0), (1, .int 12)], [], M1)) rfl rfl rfl (fun c_6 => ?_) (fun c_6 => ?_)
  · exact absurd (of_decide_eq_true c_6) (by decide)
  refine ps_st (S' := (10, [(0, .ref m0), (1, .int 12)], [.int 12], M1)) rfl rfl rfl ?_
  refine ps_st (S' := (12, [(0, .ref m0), (1, .int 12)], [.int 15, .int 12], M1)) rfl rfl rfl ?_
  refine ps_if2 (S1 := (20, [(0, .ref m0), (1, .int 12)], [], M1)) (S2 := (15, [(0, .ref m0)], [], M1)) rfl rfl rfl (fun c_12 => ?_) (fun c_12 => ?_)
  rotate_left
  · exact absurd (by decide) (of_decide_eq_false c_12)
  refine ps_st (S' := (21, [(0, .ref m0), (1, .int 12)], [.ref m0], M1)) rfl rfl rfl ?_
  refine pr_int (j := 18) (S' := (24, [(0, .ref m0), (1, .int 12)], [.int (nI n2)], M1)) rfl hR3 rfl hi6 rfl ?_
  refine ps_if (S1 := (29, [(0, .ref m0), (1, .int 12)], [], M1)) (S2 := (27, [(0, .ref m0), (1, .int 12)], [], M1)) rfl rfl rfl (fun c_24 => ?_) (fun c_24 => ?_)
  rotate_left
  · exact absurd ((le_nI (p := 0) (n := n2) (by decide) (by omega)).mpr (by omega)) (of_decide_eq_false c_24)
  refine ps_st (S' := (30, [(0, .ref m0), (1, .int 12)], [.int 12], M1)) rfl rfl rfl ?_
  refine ps_st (S' := (213, [(0, .ref m0), (1, .int 12)], [], M1)) rfl rfl rfl ?_
  refine ps_st (S' := (214, [(0, .ref m0), (1, .int 12)], [.ref m0], M1)) rfl rfl rfl ?_
  refine pr_int (j := 65) (S' := (217, [(0, .ref m0), (1, .int 12)], [.int vv], M1)) rfl hR3 rfl hi7 rfl ?_
  exact ps_reti rfl (⟨I2, R, rfl, hR3, hEI8, hER, hi4⟩)
set_option maxHeartbeats 1000000 in
theorem rd_count_13 {g : xe_G} {m0 : Nat} {q : Nat → Nat} {z : Nat × Nat} {I : rI} {R : rR} {M : mi_H} {n2 : Nat} {vv : Int32} (hR : RS g m0 q z I R M) (hi18 : I 18 = some (nI n2)) (hi68 : I 68 = some vv)  (hn2 : n2 ≤ 65540) : pt (mT g) 198 [.ref m0, .int 13] M (fun v M' => (∃  (I' : rI) (R' : rR), v = some (.int vv) ∧ RS g m0 q z I' R' M' ∧ eqI [0] I I' ∧ eqR [] R R' ∧ I' 0 = some 0)) := by
  refine pt_in (b := mb_198 g) rfl (fun kf => ?_)
  show pl (mT g) kf (mb_198 g).2 (0, [(0, .ref m0), (1, .int 13)], [], M) _
  have hEI : eqI [0] I I := eqI.rf
  have hER : eqR [] R R := eqR.rf
  refine ps_st (S' := (1, [(0, .ref m0), (1, .int 13)], [.ref m0], M)) rfl rfl rfl ?_
  refine ps_st (S' := (2, [(0, .ref m0), (1, .int 13)], [.int 0, .ref m0], M)) rfl rfl rfl ?_
  refine pr_put (j := 0) rfl hR rfl (fun M1 I2 hR3 hi4 hI5 => ?_)
  have hi6 := (hI5 18 (by decide)).trans hi18
  have hi7 := (hI5 68 (by decide)).trans hi68
  have hEI8 := hEI.put hI5 (by decide)
  show pl _ _ _ (5, [(0, .ref m0), (1, .int 13)], [], M1) _
  refine ps_st (S' := (6, [(0, .ref m0), (1, .int 13)], [.int 13], M1)) rfl rfl rfl ?_
  refine ps_if (S1 := (15, [(0, .ref m0)], [], M1)) (S2 := (9, [(0, .ref m0), (1, .int 13)], [], M1)) rfl rfl rfl (fun c_6 => ?_) (fun c_6 => ?_)
  · exact absurd (of_decide_eq_true c_6) (by decide)
  refine ps_st (S' := (10, [(0, .ref m0), (1, .int 13)], [.int 13], M1)) rfl rfl rfl ?_
  refine ps_st (S' := (12, [(0, .ref m0), (1, .int 13)], [.int 15, .int 13], M1)) rfl rfl rfl ?_
  refine ps_if2 (S1 := (20, [(0, .ref m0), (1, .int 13)], [], M1)) (S2 := (15, [(0, .ref m0)], [], M1)) rfl rfl rfl (fun c_12 => ?_) (fun c_12 => ?_)
  rotate_left
  · exact absurd (by decide) (of_decide_eq_false c_12)
  refine ps_st (S' := (21, [(0, .ref m0), (1, .int 13)], [.ref m0], M1)) rfl rfl rfl ?_
  refine pr_int (j := 18) (S' := (24, [(0, .ref m0), (1, .int 13)], [.int (nI n2)], M1)) rfl hR3 rfl hi6 rfl ?_
  refine ps_if (S1 := (29, [(0, .ref m0), (1, .int 13)], [], M1)) (S2 := (27, [(0, .ref m0), (1, .int 13)], [], M1)) rfl rfl rfl (fun c_24 => ?_) (fun c_24 => ?_)
  rotate_left
  · exact absurd ((le_nI (p := 0) (n := n2) (by decide) (by omega)).mpr (by omega)) (of_decide_eq_false c_24)
  refine ps_st (S' := (30, [(0, .ref m0), (1, .int 13)], [.int 13], M1)) rfl rfl rfl ?_
  refine ps_st (S' := (218, [(0, .ref m0), (1, .int 13)], [], M1)) rfl rfl rfl ?_
  refine ps_st (S' := (219, [(0, .ref m0), (1, .int 13)], [.ref m0], M1)) rfl rfl rfl ?_
  refine pr_int (j := 68) (S' := (222, [(0, .ref m0), (1, .int 13)], [.int vv], M1)) rfl hR3 rfl hi7 rfl ?_
  exact ps_reti rfl (⟨I2, R, rfl, hR3, hEI8, hER, hi4⟩)
set_option maxHeartbeats 1000000 in
theorem rd_count_14 {g : xe_G} {m0 : Nat} {q : Nat → Nat} {z : Nat × Nat} {I : rI} {R : rR} {M : mi_H} {n2 : Nat} {vv : Int32} (hR : RS g m0 q z I R M) (hi18 : I 18 = some (nI n2)) (hi69 : I 69 = some vv)  (hn2 : n2 ≤ 65540) : pt (mT g) 198 [.ref m0, .int 14] M (fun v M' => (∃  (I' : rI) (R' : rR), v = some (.int vv) ∧ RS g m0 q z I' R' M' ∧ eqI [0] I I' ∧ eqR [] R R' ∧ I' 0 = some 0)) := by
  refine pt_in (b := mb_198 g) rfl (fun kf => ?_)
  show pl (mT g) kf (mb_198 g).2 (0, [(0, .ref m0), (1, .int 14)], [], M) _
  have hEI : eqI [0] I I := eqI.rf
  have hER : eqR [] R R := eqR.rf
  refine ps_st (S' := (1, [(0, .ref m0), (1, .int 14)], [.ref m0], M)) rfl rfl rfl ?_
  refine ps_st (S' := (2, [(0, .ref m0), (1, .int 14)], [.int 0, .ref m0], M)) rfl rfl rfl ?_
  refine pr_put (j := 0) rfl hR rfl (fun M1 I2 hR3 hi4 hI5 => ?_)
  have hi6 := (hI5 18 (by decide)).trans hi18
  have hi7 := (hI5 69 (by decide)).trans hi69
  have hEI8 := hEI.put hI5 (by decide)
  show pl _ _ _ (5, [(0, .ref m0), (1, .int 14)], [], M1) _
  refine ps_st (S' := (6, [(0, .ref m0), (1, .int 14)], [.int 14], M1)) rfl rfl rfl ?_
  refine ps_if (S1 := (15, [(0, .ref m0)], [], M1)) (S2 := (9, [(0, .ref m0), (1, .int 14)], [], M1)) rfl rfl rfl (fun c_6 => ?_) (fun c_6 => ?_)
  · exact absurd (of_decide_eq_true c_6) (by decide)
  refine ps_st (S' := (10, [(0, .ref m0), (1, .int 14)], [.int 14], M1)) rfl rfl rfl ?_
  refine ps_st (S' := (12, [(0, .ref m0), (1, .int 14)], [.int 15, .int 14], M1)) rfl rfl rfl ?_
  refine ps_if2 (S1 := (20, [(0, .ref m0), (1, .int 14)], [], M1)) (S2 := (15, [(0, .ref m0)], [], M1)) rfl rfl rfl (fun c_12 => ?_) (fun c_12 => ?_)
  rotate_left
  · exact absurd (by decide) (of_decide_eq_false c_12)
  refine ps_st (S' := (21, [(0, .ref m0), (1, .int 14)], [.ref m0], M1)) rfl rfl rfl ?_
  refine pr_int (j := 18) (S' := (24, [(0, .ref m0), (1, .int 14)], [.int (nI n2)], M1)) rfl hR3 rfl hi6 rfl ?_
  refine ps_if (S1 := (29, [(0, .ref m0), (1, .int 14)], [], M1)) (S2 := (27, [(0, .ref m0), (1, .int 14)], [], M1)) rfl rfl rfl (fun c_24 => ?_) (fun c_24 => ?_)
  rotate_left
  · exact absurd ((le_nI (p := 0) (n := n2) (by decide) (by omega)).mpr (by omega)) (of_decide_eq_false c_24)
  refine ps_st (S' := (30, [(0, .ref m0), (1, .int 14)], [.int 14], M1)) rfl rfl rfl ?_
  refine ps_st (S' := (223, [(0, .ref m0), (1, .int 14)], [], M1)) rfl rfl rfl ?_
  refine ps_st (S' := (224, [(0, .ref m0), (1, .int 14)], [.ref m0], M1)) rfl rfl rfl ?_
  refine pr_int (j := 69) (S' := (227, [(0, .ref m0), (1, .int 14)], [.int vv], M1)) rfl hR3 rfl hi7 rfl ?_
  exact ps_reti rfl (⟨I2, R, rfl, hR3, hEI8, hER, hi4⟩)
set_option maxHeartbeats 1000000 in
theorem rd_count_15 {g : xe_G} {m0 : Nat} {q : Nat → Nat} {z : Nat × Nat} {I : rI} {R : rR} {M : mi_H} {n2 : Nat} {vv : Int32} (hR : RS g m0 q z I R M) (hi18 : I 18 = some (nI n2)) (hi72 : I 72 = some vv)  (hn2 : n2 ≤ 65540) : pt (mT g) 198 [.ref m0, .int 15] M (fun v M' => (∃  (I' : rI) (R' : rR), v = some (.int vv) ∧ RS g m0 q z I' R' M' ∧ eqI [0] I I' ∧ eqR [] R R' ∧ I' 0 = some 0)) := by
  refine pt_in (b := mb_198 g) rfl (fun kf => ?_)
  show pl (mT g) kf (mb_198 g).2 (0, [(0, .ref m0), (1, .int 15)], [], M) _
  have hEI : eqI [0] I I := eqI.rf
  have hER : eqR [] R R := eqR.rf
  refine ps_st (S' := (1, [(0, .ref m0), (1, .int 15)], [.ref m0], M)) rfl rfl rfl ?_
  refine ps_st (S' := (2, [(0, .ref m0), (1, .int 15)], [.int 0, .ref m0], M)) rfl rfl rfl ?_
  refine pr_put (j := 0) rfl hR rfl (fun M1 I2 hR3 hi4 hI5 => ?_)
  have hi6 := (hI5 18 (by decide)).trans hi18
  have hi7 := (hI5 72 (by decide)).trans hi72
  have hEI8 := hEI.put hI5 (by decide)
  show pl _ _ _ (5, [(0, .ref m0), (1, .int 15)], [], M1) _
  refine ps_st (S' := (6, [(0, .ref m0), (1, .int 15)], [.int 15], M1)) rfl rfl rfl ?_
  refine ps_if (S1 := (15, [(0, .ref m0)], [], M1)) (S2 := (9, [(0, .ref m0), (1, .int 15)], [], M1)) rfl rfl rfl (fun c_6 => ?_) (fun c_6 => ?_)
  · exact absurd (of_decide_eq_true c_6) (by decide)
  refine ps_st (S' := (10, [(0, .ref m0), (1, .int 15)], [.int 15], M1)) rfl rfl rfl ?_
  refine ps_st (S' := (12, [(0, .ref m0), (1, .int 15)], [.int 15, .int 15], M1)) rfl rfl rfl ?_
  refine ps_if2 (S1 := (20, [(0, .ref m0), (1, .int 15)], [], M1)) (S2 := (15, [(0, .ref m0)], [], M1)) rfl rfl rfl (fun c_12 => ?_) (fun c_12 => ?_)
  rotate_left
  · exact absurd (by decide) (of_decide_eq_false c_12)
  refine ps_st (S' := (21, [(0, .ref m0), (1, .int 15)], [.ref m0], M1)) rfl rfl rfl ?_
  refine pr_int (j := 18) (S' := (24, [(0, .ref m0), (1, .int 15)], [.int (nI n2)], M1)) rfl hR3 rfl hi6 rfl ?_
  refine ps_if (S1 := (29, [(0, .ref m0), (1, .int 15)], [], M1)) (S2 := (27, [(0, .ref m0), (1, .int 15)], [], M1)) rfl rfl rfl (fun c_24 => ?_) (fun c_24 => ?_)
  rotate_left
  · exact absurd ((le_nI (p := 0) (n := n2) (by decide) (by omega)).mpr (by omega)) (of_decide_eq_false c_24)
  refine ps_st (S' := (30, [(0, .ref m0), (1, .int 15)], [.int 15], M1)) rfl rfl rfl ?_
  refine ps_st (S' := (228, [(0, .ref m0), (1, .int 15)], [], M1)) rfl rfl rfl ?_
  refine ps_st (S' := (229, [(0, .ref m0), (1, .int 15)], [.ref m0], M1)) rfl rfl rfl ?_
  refine pr_int (j := 72) (S' := (232, [(0, .ref m0), (1, .int 15)], [.int vv], M1)) rfl hR3 rfl hi7 rfl ?_
  exact ps_reti rfl (⟨I2, R, rfl, hR3, hEI8, hER, hi4⟩)
set_option maxHeartbeats 1000000 in
theorem rd_count_8 {g : xe_G} {m0 : Nat} {q : Nat → Nat} {z : Nat × Nat} {I : rI} {R : rR} {M : mi_H} {n : Nat} {f : Nat → Int32} {n2 p1 : Nat} (hR : RS g m0 q z I R M) (hi18 : I 18 = some (nI n2)) (hi54 : I 54 = some (nI p1)) (hF : FK n f I R) (hn2 : n2 ≤ 65540) (hp1 : p1 + 8 ≤ n) : pt (mT g) 198 [.ref m0, .int 8] M (fun v M' => (∃  (I' : rI) (R' : rR), v = some (.int (nI (by2 f (4)))) ∧ RS g m0 q z I' R' M' ∧ eqI [0] I I' ∧ eqR [] R R' ∧ I' 0 = some 0)) := by
  refine pt_in (b := mb_198 g) rfl (fun kf => ?_)
  show pl (mT g) kf (mb_198 g).2 (0, [(0, .ref m0), (1, .int 8)], [], M) _
  have hEI : eqI [0] I I := eqI.rf
  have hER : eqR [] R R := eqR.rf
  have hn := hF.1
  refine ps_st (S' := (1, [(0, .ref m0), (1, .int 8)], [.ref m0], M)) rfl rfl rfl ?_
  refine ps_st (S' := (2, [(0, .ref m0), (1, .int 8)], [.int 0, .ref m0], M)) rfl rfl rfl ?_
  refine pr_put (j := 0) rfl hR rfl (fun M1 I2 hR3 hi4 hI5 => ?_)
  have hi6 := (hI5 18 (by decide)).trans hi18
  have hi7 := (hI5 54 (by decide)).trans hi54
  have hF_8 := hF.mono (pIx hI5 (by decide)) (fun _ _ => rfl)
  have hEI9 := hEI.put hI5 (by decide)
  show pl _ _ _ (5, [(0, .ref m0), (1, .int 8)], [], M1) _
  refine ps_st (S' := (6, [(0, .ref m0), (1, .int 8)], [.int 8], M1)) rfl rfl rfl ?_
  refine ps_if (S1 := (15, [(0, .ref m0)], [], M1)) (S2 := (9, [(0, .ref m0), (1, .int 8)], [], M1)) rfl rfl rfl (fun c_6 => ?_) (fun c_6 => ?_)
  · exact absurd (of_decide_eq_true c_6) (by decide)
  refine ps_st (S' := (10, [(0, .ref m0), (1, .int 8)], [.int 8], M1)) rfl rfl rfl ?_
  refine ps_st (S' := (12, [(0, .ref m0), (1, .int 8)], [.int 15, .int 8], M1)) rfl rfl rfl ?_
  refine ps_if2 (S1 := (20, [(0, .ref m0), (1, .int 8)], [], M1)) (S2 := (15, [(0, .ref m0)], [], M1)) rfl rfl rfl (fun c_12 => ?_) (fun c_12 => ?_)
  rotate_left
  · exact absurd (by decide) (of_decide_eq_false c_12)
  refine ps_st (S' := (21, [(0, .ref m0), (1, .int 8)], [.ref m0], M1)) rfl rfl rfl ?_
  refine pr_int (j := 18) (S' := (24, [(0, .ref m0), (1, .int 8)], [.int (nI n2)], M1)) rfl hR3 rfl hi6 rfl ?_
  refine ps_if (S1 := (29, [(0, .ref m0), (1, .int 8)], [], M1)) (S2 := (27, [(0, .ref m0), (1, .int 8)], [], M1)) rfl rfl rfl (fun c_24 => ?_) (fun c_24 => ?_)
  rotate_left
  · exact absurd ((le_nI (p := 0) (n := n2) (by decide) (by omega)).mpr (by omega)) (of_decide_eq_false c_24)
  refine ps_st (S' := (30, [(0, .ref m0), (1, .int 8)], [.int 8], M1)) rfl rfl rfl ?_
  refine ps_st (S' := (144, [(0, .ref m0), (1, .int 8)], [], M1)) rfl rfl rfl ?_
  refine ps_st (S' := (145, [(0, .ref m0), (1, .int 8)], [.ref m0], M1)) rfl rfl rfl ?_
  refine ps_st (S' := (146, [(0, .ref m0), (1, .int 8)], [.int 4, .ref m0], M1)) rfl rfl rfl ?_
  refine pl_call (a := [.ref m0, .int 4]) (rest := []) rfl rfl rfl (rd_u2 (n := n) (f := f) (p := 4) hR3 hF_8 (by omega)) (fun v10 M11 q12 => ?_)
  obtain ⟨rfl, rfl⟩ := q12
  show pl _ _ _ (149, [(0, .ref m0), (1, .int 8)], [.int (nI (by2 f 4))], M1) _
  have hu_146 := by2_lt f 4
  exact ps_reti rfl (⟨I2, R, rfl, hR3, hEI9, hER, hi4⟩)
set_option maxHeartbeats 1000000 in
theorem rd_count_9 {g : xe_G} {m0 : Nat} {q : Nat → Nat} {z : Nat × Nat} {I : rI} {R : rR} {M : mi_H} {n : Nat} {f : Nat → Int32} {n2 p1 : Nat} (hR : RS g m0 q z I R M) (hi18 : I 18 = some (nI n2)) (hi54 : I 54 = some (nI p1)) (hF : FK n f I R) (hn2 : n2 ≤ 65540) (hp1 : p1 + 8 ≤ n) : pt (mT g) 198 [.ref m0, .int 9] M (fun v M' => (∃  (I' : rI) (R' : rR), v = some (.int (nI (by2 f (p1 + 2)))) ∧ RS g m0 q z I' R' M' ∧ eqI [0] I I' ∧ eqR [] R R' ∧ I' 0 = some 0)) := by
  refine pt_in (b := mb_198 g) rfl (fun kf => ?_)
  show pl (mT g) kf (mb_198 g).2 (0, [(0, .ref m0), (1, .int 9)], [], M) _
  have hEI : eqI [0] I I := eqI.rf
  have hER : eqR [] R R := eqR.rf
  have hn := hF.1
  refine ps_st (S' := (1, [(0, .ref m0), (1, .int 9)], [.ref m0], M)) rfl rfl rfl ?_
  refine ps_st (S' := (2, [(0, .ref m0), (1, .int 9)], [.int 0, .ref m0], M)) rfl rfl rfl ?_
  refine pr_put (j := 0) rfl hR rfl (fun M1 I2 hR3 hi4 hI5 => ?_)
  have hi6 := (hI5 18 (by decide)).trans hi18
  have hi7 := (hI5 54 (by decide)).trans hi54
  have hF_8 := hF.mono (pIx hI5 (by decide)) (fun _ _ => rfl)
  have hEI9 := hEI.put hI5 (by decide)
  show pl _ _ _ (5, [(0, .ref m0), (1, .int 9)], [], M1) _
  refine ps_st (S' := (6, [(0, .ref m0), (1, .int 9)], [.int 9], M1)) rfl rfl rfl ?_
  refine ps_if (S1 := (15, [(0, .ref m0)], [], M1)) (S2 := (9, [(0, .ref m0), (1, .int 9)], [], M1)) rfl rfl rfl (fun c_6 => ?_) (fun c_6 => ?_)
  · exact absurd (of_decide_eq_true c_6) (by decide)
  refine ps_st (S' := (10, [(0, .ref m0), (1, .int 9)], [.int 9], M1)) rfl rfl rfl ?_
  refine ps_st (S' := (12, [(0, .ref m0), (1, .int 9)], [.int 15, .int 9], M1)) rfl rfl rfl ?_
  refine ps_if2 (S1 := (20, [(0, .ref m0), (1, .int 9)], [], M1)) (S2 := (15, [(0, .ref m0)], [], M1)) rfl rfl rfl (fun c_12 => ?_) (fun c_12 => ?_)
  rotate_left
  · exact absurd (by decide) (of_decide_eq_false c_12)
  refine ps_st (S' := (21, [(0, .ref m0), (1, .int 9)], [.ref m0], M1)) rfl rfl rfl ?_
  refine pr_int (j := 18) (S' := (24, [(0, .ref m0), (1, .int 9)], [.int (nI n2)], M1)) rfl hR3 rfl hi6 rfl ?_
  refine ps_if (S1 := (29, [(0, .ref m0), (1, .int 9)], [], M1)) (S2 := (27, [(0, .ref m0), (1, .int 9)], [], M1)) rfl rfl rfl (fun c_24 => ?_) (fun c_24 => ?_)
  rotate_left
  · exact absurd ((le_nI (p := 0) (n := n2) (by decide) (by omega)).mpr (by omega)) (of_decide_eq_false c_24)
  refine ps_st (S' := (30, [(0, .ref m0), (1, .int 9)], [.int 9], M1)) rfl rfl rfl ?_
  refine ps_st (S' := (150, [(0, .ref m0), (1, .int 9)], [], M1)) rfl rfl rfl ?_
  refine ps_st (S' := (151, [(0, .ref m0), (1, .int 9)], [.ref m0], M1)) rfl rfl rfl ?_
  refine ps_st (S' := (152, [(0, .ref m0), (1, .int 9)], [.ref m0, .ref m0], M1)) rfl rfl rfl ?_
  refine pr_int (j := 54) (S' := (155, [(0, .ref m0), (1, .int 9)], [.int (nI p1), .ref m0], M1)) rfl hR3 rfl hi7 rfl ?_
  refine ps_st (S' := (156, [(0, .ref m0), (1, .int 9)], [.int 2, .int (nI p1), .ref m0], M1)) rfl rfl rfl ?_
  refine ps_st (S' := (157, [(0, .ref m0), (1, .int 9)], [.int ((nI p1) + 2), .ref m0], M1)) rfl rfl rfl ?_
  rw [nI_add1 (p := p1) (k := 2) (x := 2) rfl (by omega)]
  show pl _ _ _ (_, [(0, .ref m0), (1, .int 9)], [.int (nI (p1 + 2)), .ref m0], M1) _
  refine pl_call (a := [.ref m0, .int (nI (p1 + 2))]) (rest := []) rfl rfl rfl (rd_u2 (n := n) (f := f) (p := (p1 + 2)) hR3 hF_8 (by omega)) (fun v10 M11 q12 => ?_)
  obtain ⟨rfl, rfl⟩ := q12
  show pl _ _ _ (160, [(0, .ref m0), (1, .int 9)], [.int (nI (by2 f (p1 + 2)))], M1) _
  have hu_157 := by2_lt f (p1 + 2)
  exact ps_reti rfl (⟨I2, R, rfl, hR3, hEI9, hER, hi4⟩)
set_option maxHeartbeats 1000000 in
theorem rd_count_10 {g : xe_G} {m0 : Nat} {q : Nat → Nat} {z : Nat × Nat} {I : rI} {R : rR} {M : mi_H} {n : Nat} {f : Nat → Int32} {n2 p1 : Nat} (hR : RS g m0 q z I R M) (hi18 : I 18 = some (nI n2)) (hi54 : I 54 = some (nI p1)) (hF : FK n f I R) (hn2 : n2 ≤ 65540) (hp1 : p1 + 8 ≤ n) : pt (mT g) 198 [.ref m0, .int 10] M (fun v M' => (∃  (I' : rI) (R' : rR), v = some (.int (nI (by2 f (p1 + 4)))) ∧ RS g m0 q z I' R' M' ∧ eqI [0] I I' ∧ eqR [] R R' ∧ I' 0 = some 0)) := by
  refine pt_in (b := mb_198 g) rfl (fun kf => ?_)
  show pl (mT g) kf (mb_198 g).2 (0, [(0, .ref m0), (1, .int 10)], [], M) _
  have hEI : eqI [0] I I := eqI.rf
  have hER : eqR [] R R := eqR.rf
  have hn := hF.1
  refine ps_st (S' := (1, [(0, .ref m0), (1, .int 10)], [.ref m0], M)) rfl rfl rfl ?_
  refine ps_st (S' := (2, [(0, .ref m0), (1, .int 10)], [.int 0, .ref m0], M)) rfl rfl rfl ?_
  refine pr_put (j := 0) rfl hR rfl (fun M1 I2 hR3 hi4 hI5 => ?_)
  have hi6 := (hI5 18 (by decide)).trans hi18
  have hi7 := (hI5 54 (by decide)).trans hi54
  have hF_8 := hF.mono (pIx hI5 (by decide)) (fun _ _ => rfl)
  have hEI9 := hEI.put hI5 (by decide)
  show pl _ _ _ (5, [(0, .ref m0), (1, .int 10)], [], M1) _
  refine ps_st (S' := (6, [(0, .ref m0), (1, .int 10)], [.int 10], M1)) rfl rfl rfl ?_
  refine ps_if (S1 := (15, [(0, .ref m0)], [], M1)) (S2 := (9, [(0, .ref m0), (1, .int 10)], [], M1)) rfl rfl rfl (fun c_6 => ?_) (fun c_6 => ?_)
  · exact absurd (of_decide_eq_true c_6) (by decide)
  refine ps_st (S' := (10, [(0, .ref m0), (1, .int 10)], [.int 10], M1)) rfl rfl rfl ?_
  refine ps_st (S' := (12, [(0, .ref m0), (1, .int 10)], [.int 15, .int 10], M1)) rfl rfl rfl ?_
  refine ps_if2 (S1 := (20, [(0, .ref m0), (1, .int 10)], [], M1)) (S2 := (15, [(0, .ref m0)], [], M1)) rfl rfl rfl (fun c_12 => ?_) (fun c_12 => ?_)
  rotate_left
  · exact absurd (by decide) (of_decide_eq_false c_12)
  refine ps_st (S' := (21, [(0, .ref m0), (1, .int 10)], [.ref m0], M1)) rfl rfl rfl ?_
  refine pr_int (j := 18) (S' := (24, [(0, .ref m0), (1, .int 10)], [.int (nI n2)], M1)) rfl hR3 rfl hi6 rfl ?_
  refine ps_if (S1 := (29, [(0, .ref m0), (1, .int 10)], [], M1)) (S2 := (27, [(0, .ref m0), (1, .int 10)], [], M1)) rfl rfl rfl (fun c_24 => ?_) (fun c_24 => ?_)
  rotate_left
  · exact absurd ((le_nI (p := 0) (n := n2) (by decide) (by omega)).mpr (by omega)) (of_decide_eq_false c_24)
  refine ps_st (S' := (30, [(0, .ref m0), (1, .int 10)], [.int 10], M1)) rfl rfl rfl ?_
  refine ps_st (S' := (161, [(0, .ref m0), (1, .int 10)], [], M1)) rfl rfl rfl ?_
  refine ps_st (S' := (162, [(0, .ref m0), (1, .int 10)], [.ref m0], M1)) rfl rfl rfl ?_
  refine ps_st (S' := (163, [(0, .ref m0), (1, .int 10)], [.ref m0, .ref m0], M1)) rfl rfl rfl ?_
  refine pr_int (j := 54) (S' := (166, [(0, .ref m0), (1, .int 10)], [.int (nI p1), .ref m0], M1)) rfl hR3 rfl hi7 rfl ?_
  refine ps_st (S' := (167, [(0, .ref m0), (1, .int 10)], [.int 4, .int (nI p1), .ref m0], M1)) rfl rfl rfl ?_
  refine ps_st (S' := (168, [(0, .ref m0), (1, .int 10)], [.int ((nI p1) + 4), .ref m0], M1)) rfl rfl rfl ?_
  rw [nI_add1 (p := p1) (k := 4) (x := 4) rfl (by omega)]
  show pl _ _ _ (_, [(0, .ref m0), (1, .int 10)], [.int (nI (p1 + 4)), .ref m0], M1) _
  refine pl_call (a := [.ref m0, .int (nI (p1 + 4))]) (rest := []) rfl rfl rfl (rd_u2 (n := n) (f := f) (p := (p1 + 4)) hR3 hF_8 (by omega)) (fun v10 M11 q12 => ?_)
  obtain ⟨rfl, rfl⟩ := q12
  show pl _ _ _ (171, [(0, .ref m0), (1, .int 10)], [.int (nI (by2 f (p1 + 4)))], M1) _
  have hu_168 := by2_lt f (p1 + 4)
  exact ps_reti rfl (⟨I2, R, rfl, hR3, hEI9, hER, hi4⟩)
set_option maxHeartbeats 1000000 in
theorem rd_count_11 {g : xe_G} {m0 : Nat} {q : Nat → Nat} {z : Nat × Nat} {I : rI} {R : rR} {M : mi_H} {n : Nat} {f : Nat → Int32} {tx : List (List Nat)} {cN : Nat} {A : Nat → Nat} {N mj : Nat} {E : List (Nat × Nat)} {n2 : Nat} (hR : RS g m0 q z I R M) (hi18 : I 18 = some (nI n2)) (hi51 : I 51 = some 0) (hi52 : I 52 = some (nI N)) (hi53 : I 53 = some (nI mj)) (hF : FK n f I R) (hY : SYT tx cN A I R) (hP : RPV f n E tx N I R) (hEP : EP f n E) (hN : N < 65536) (hmj : mj < 65536) (hn2 : n2 ≤ 65540) (hch : chX f n E N ≤ 65540) (hN1 : 1 ≤ N) (h0 : tg f E 0 = 0) : pt (mT g) 198 [.ref m0, .int 11] M (fun v M' => (∃  (I' : rI) (R' : rR), v = some (.int (nI (chX f n E N))) ∧ RS g m0 q z I' R' M' ∧ eqI [0] I I' ∧ eqR [] R R' ∧ I' 0 = some 0)) := by
  refine pt_in (b := mb_198 g) rfl (fun kf => ?_)
  show pl (mT g) kf (mb_198 g).2 (0, [(0, .ref m0), (1, .int 11)], [], M) _
  have hEI : eqI [0] I I := eqI.rf
  have hER : eqR [] R R := eqR.rf
  have hn := hF.1
  have LL : ∀ (kf : Nat), (∀ (k a : Nat) (M1 : mi_H) (I1 : rI) (R1 : rR), (RS g m0 q z I1 R1 M1) → (eqI [0] I I1) → (eqR [] R R1) → (I1 0 = some 0) → (I1 51 = some 0) → (I1 52 = some (nI N)) → (I1 53 = some (nI mj)) → (FK n f I1 R1) → (SYT tx cN A I1 R1) → (RPV f n E tx N I1 R1) → (1 ≤ k ∧ k ≤ N) → (a = chX f n E k) →  pl (mT g) kf (mb_198 g).2 (176, [(0, .ref m0), (2, .int (nI a)), (3, .int (nI k))], [], M1) (fun v M' => (∃  (I' : rI) (R' : rR), v = some (.int (nI (chX f n E N))) ∧ RS g m0 q z I' R' M' ∧ eqI [0] I I' ∧ eqR [] R R' ∧ I' 0 = some 0))) := by
    intro kf
    induction kf with
    | zero => exact (by intros; exact pl_0)
    | succ kf ih =>
      intro k a M1 I1 R1 hR1 hEI1 hER1 hl0 hl51 hl52 hl53 hF1 hY1 hP1 hk ha
      have hn := hF1.1
      have hm9 := chX_mono (f := f) (n := n) (E := E) (m := N) (k := k) hk.2
      have htl9 := tg_lt f E k
      refine ps_st1 (S' := (177, [(0, .ref m0), (2, .int (nI a)), (3, .int (nI k))], [.int (nI k)], M1)) rfl rfl rfl ?_
      refine ps_st (S' := (178, [(0, .ref m0), (2, .int (nI a)), (3, .int (nI k))], [.ref m0, .int (nI k)], M1)) rfl rfl rfl ?_
      refine pr_int (j := 52) (S' := (181, [(0, .ref m0), (2, .int (nI a)), (3, .int (nI k))], [.int (nI N), .int (nI k)], M1)) rfl hR1 rfl hl52 rfl ?_
      refine ps_if2 (S1 := (211, [(0, .ref m0), (2, .int (nI a)), (3, .int (nI k))], [], M1)) (S2 := (184, [(0, .ref m0), (2, .int (nI a)), (3, .int (nI k))], [], M1)) rfl rfl rfl (fun c_181 => ?_) (fun c_181 => ?_)
      · have c_181 : (nI N) ≤ (nI k) := of_decide_eq_true c_181
        have n_181 : N ≤ k := (le_nI (p := N) (n := k) (by omega) (by omega)).mp c_181
        refine ps_st (S' := (212, [(0, .ref m0), (2, .int (nI a)), (3, .int (nI k))], [.int (nI a)], M1)) rfl rfl rfl ?_
        exact ps_reti rfl (⟨I1, R1, by rw [ha, show k = N by omega], hR1, hEI1, hER1, hl0⟩)
      · have c_181 : ¬ ((nI N) ≤ (nI k)) := of_decide_eq_false c_181
        have n_181 : ¬ (N ≤ k) := fun h9 => c_181 ((le_nI (p := N) (n := k) (by omega) (by omega)).mpr h9)
        refine ps_st (S' := (185, [(0, .ref m0), (2, .int (nI a)), (3, .int (nI k))], [.ref m0], M1)) rfl rfl rfl ?_
        refine ps_st (S' := (186, [(0, .ref m0), (2, .int (nI a)), (3, .int (nI k))], [.int (nI k), .ref m0], M1)) rfl rfl rfl ?_
        refine pl_call (a := [.ref m0, .int (nI k)]) (rest := []) rfl rfl rfl (rd_tag (n := n) (f := f) (tx := tx) (cN := cN) (A := A) (N := N) (mj := mj) (E := E) (k := k) hR1 hl51 hl52 hl53 hF1 hY1 hP1 (hEP) (hN) (hmj) (by omega)) (fun v1 M2 q3 => ?_)
        obtain ⟨rfl, rfl⟩ := q3
        show pl _ _ _ (189, [(0, .ref m0), (2, .int (nI a)), (3, .int (nI k))], [.int (nI (tg f E k))], M1) _
        have htg_186 := tg_lt f E k
        refine ps_st (S' := (190, [(0, .ref m0), (2, .int (nI a)), (3, .int (nI k))], [.int 1, .int (nI (tg f E k))], M1)) rfl rfl rfl ?_
        refine ps_if2 (S1 := (205, [(0, .ref m0), (2, .int (nI a)), (3, .int (nI k))], [], M1)) (S2 := (193, [(0, .ref m0), (2, .int (nI a)), (3, .int (nI k))], [], M1)) rfl rfl rfl (fun c_190 => ?_) (fun c_190 => ?_)
        · have c_190 : ¬ (nI (tg f E k)) = 1 := of_decide_eq_true c_190
          have n_190 : ¬ (tg f E k = 1) := fun h9 => c_190 ((eq_nI (p := tg f E k) (n := 1) (Nat.lt_trans (tg_lt _ _ _) (by decide)) (by decide)).mpr h9)
          refine ps_st (S' := (208, [(3, .int ((nI k) + 1)), (0, .ref m0), (2, .int (nI a))], [], M1)) rfl rfl rfl ?_
          rw [nI_add1 (p := k) (k := 1) (x := 1) rfl (by omega)]
          show pl _ _ _ (_, [(3, .int (nI (k + 1))), (0, .ref m0), (2, .int (nI a))], [], M1) _
          refine ps_st (S' := (176, [(0, .ref m0), (2, .int (nI a)), (3, .int (nI (k + 1)))], [], M1)) rfl rfl rfl ?_
          exact ih (k + 1) (a) M1 I1 R1 hR1 hEI1 hER1 hl0 hl51 hl52 hl53 hF1 hY1 hP1 (by omega) (by
              show a = chX f n E k + (tX f n E k).length
              rw [tx_no (by omega), ha]
              rfl)
        · have c_190 : ¬ (¬ (nI (tg f E k)) = 1) := of_decide_eq_false c_190
          have n_190 : tg f E k = 1 := (eq_nI (p := tg f E k) (n := 1) (Nat.lt_trans (tg_lt _ _ _) (by decide)) (by decide)).mp (Decidable.not_not.mp c_190)
          have hm8 := chX_mono (f := f) (n := n) (E := E) (m := N) (k := k + 1) (by omega)
          have hm7 : chX f n E (k + 1) = chX f n E k + (tX f n E k).length := rfl
          refine ps_st (S' := (194, [(0, .ref m0), (2, .int (nI a)), (3, .int (nI k))], [.int (nI a)], M1)) rfl rfl rfl ?_
          refine ps_st (S' := (195, [(0, .ref m0), (2, .int (nI a)), (3, .int (nI k))], [.ref m0, .int (nI a)], M1)) rfl rfl rfl ?_
          refine ps_st (S' := (196, [(0, .ref m0), (2, .int (nI a)), (3, .int (nI k))], [.ref m0, .ref m0, .int (nI a)], M1)) rfl rfl rfl ?_
          refine ps_st (S' := (197, [(0, .ref m0), (2, .int (nI a)), (3, .int (nI k))], [.int (nI k), .ref m0, .ref m0, .int (nI a)], M1)) rfl rfl rfl ?_
          refine pl_call (a := [.ref m0, .int (nI k)]) (rest := [.ref m0, .int (nI a)]) rfl rfl rfl (rd_symOf (n := n) (f := f) (tx := tx) (cN := cN) (A := A) (N := N) (mj := mj) (E := E) (k := k) hR1 hl51 hl52 hl53 hF1 hY1 hP1 (hEP) (hN) (hmj) (by omega)) (fun v4 M5 q6 => ?_)
          obtain ⟨s7, q197_s, rfl, rfl⟩ := q6
          show pl _ _ _ (200, [(0, .ref m0), (2, .int (nI a)), (3, .int (nI k))], [.int (nI s7), .ref m0, .int (nI a)], M1) _
          have hsl_197 := q197_s.1
          have htl_197 := hY1.1.2.2.1
          refine pl_call (a := [.ref m0, .int (nI s7)]) (rest := [.int (nI a)]) rfl rfl rfl (rd_length (tx := tx) (cN := cN) (A := A) (s := s7) (l := (tX f n E k)) hR1 hY1 (q197_s)) (fun v8 M9 q10 => ?_)
          obtain ⟨rfl, rfl⟩ := q10
          show pl _ _ _ (203, [(0, .ref m0), (2, .int (nI a)), (3, .int (nI k))], [.int (nI ((tX f n E k).length)), .int (nI a)], M1) _
          refine ps_st (S' := (204, [(0, .ref m0), (2, .int (nI a)), (3, .int (nI k))], [.int ((nI a) + (nI ((tX f n E k).length)))], M1)) rfl rfl rfl ?_
          rw [nI_add1 (p := a) (k := (tX f n E k).length) (x := (nI ((tX f n E k).length))) rfl (by omega)]
          show pl _ _ _ (_, [(0, .ref m0), (2, .int (nI a)), (3, .int (nI k))], [.int (nI (a + (tX f n E k).length))], M1) _
          refine ps_st (S' := (205, [(0, .ref m0), (2, .int (nI (a + (tX f n E k).length))), (3, .int (nI k))], [], M1)) rfl rfl rfl ?_
          refine ps_st (S' := (208, [(3, .int ((nI k) + 1)), (0, .ref m0), (2, .int (nI (a + (tX f n E k).length)))], [], M1)) rfl rfl rfl ?_
          rw [nI_add1 (p := k) (k := 1) (x := 1) rfl (by omega)]
          show pl _ _ _ (_, [(3, .int (nI (k + 1))), (0, .ref m0), (2, .int (nI (a + (tX f n E k).length)))], [], M1) _
          refine ps_st (S' := (176, [(0, .ref m0), (2, .int (nI (a + (tX f n E k).length))), (3, .int (nI (k + 1)))], [], M1)) rfl rfl rfl ?_
          exact ih (k + 1) (a + (tX f n E k).length) M1 I1 R1 hR1 hEI1 hER1 hl0 hl51 hl52 hl53 hF1 hY1 hP1 (by omega) (by
              rw [ha]
              rfl)
  refine ps_st (S' := (1, [(0, .ref m0), (1, .int 11)], [.ref m0], M)) rfl rfl rfl ?_
  refine ps_st (S' := (2, [(0, .ref m0), (1, .int 11)], [.int 0, .ref m0], M)) rfl rfl rfl ?_
  refine pr_put (j := 0) rfl hR rfl (fun M11 I12 hR13 hi14 hI15 => ?_)
  have hi16 := (hI15 18 (by decide)).trans hi18
  have hi17 := (hI15 51 (by decide)).trans hi51
  have hi19 := (hI15 52 (by decide)).trans hi52
  have hi20 := (hI15 53 (by decide)).trans hi53
  have hF_21 := hF.mono (pIx hI15 (by decide)) (fun _ _ => rfl)
  have hY_22 := hY.mono (pIx hI15 (by decide)) (fun _ _ => rfl)
  have hP_23 := hP.mono (pIx hI15 (by decide)) (fun _ _ => rfl)
  have hEI24 := hEI.put hI15 (by decide)
  show pl _ _ _ (5, [(0, .ref m0), (1, .int 11)], [], M11) _
  refine ps_st (S' := (6, [(0, .ref m0), (1, .int 11)], [.int 11], M11)) rfl rfl rfl ?_
  refine ps_if (S1 := (15, [(0, .ref m0)], [], M11)) (S2 := (9, [(0, .ref m0), (1, .int 11)], [], M11)) rfl rfl rfl (fun c_6 => ?_) (fun c_6 => ?_)
  · exact absurd (of_decide_eq_true c_6) (by decide)
  refine ps_st (S' := (10, [(0, .ref m0), (1, .int 11)], [.int 11], M11)) rfl rfl rfl ?_
  refine ps_st (S' := (12, [(0, .ref m0), (1, .int 11)], [.int 15, .int 11], M11)) rfl rfl rfl ?_
  refine ps_if2 (S1 := (20, [(0, .ref m0), (1, .int 11)], [], M11)) (S2 := (15, [(0, .ref m0)], [], M11)) rfl rfl rfl (fun c_12 => ?_) (fun c_12 => ?_)
  rotate_left
  · exact absurd (by decide) (of_decide_eq_false c_12)
  refine ps_st (S' := (21, [(0, .ref m0), (1, .int 11)], [.ref m0], M11)) rfl rfl rfl ?_
  refine pr_int (j := 18) (S' := (24, [(0, .ref m0), (1, .int 11)], [.int (nI n2)], M11)) rfl hR13 rfl hi16 rfl ?_
  refine ps_if (S1 := (29, [(0, .ref m0), (1, .int 11)], [], M11)) (S2 := (27, [(0, .ref m0), (1, .int 11)], [], M11)) rfl rfl rfl (fun c_24 => ?_) (fun c_24 => ?_)
  rotate_left
  · exact absurd ((le_nI (p := 0) (n := n2) (by decide) (by omega)).mpr (by omega)) (of_decide_eq_false c_24)
  refine ps_st (S' := (30, [(0, .ref m0), (1, .int 11)], [.int 11], M11)) rfl rfl rfl ?_
  refine ps_st (S' := (172, [(0, .ref m0), (1, .int 11)], [], M11)) rfl rfl rfl ?_
  refine ps_st (S' := (173, [(0, .ref m0), (1, .int 11)], [.int 0], M11)) rfl rfl rfl ?_
  refine ps_st (S' := (174, [(2, .int 0), (0, .ref m0), (1, .int 11)], [], M11)) rfl rfl rfl ?_
  refine ps_st (S' := (175, [(2, .int 0), (0, .ref m0), (1, .int 11)], [.int 1], M11)) rfl rfl rfl ?_
  refine ps_st (S' := (176, [(0, .ref m0), (2, .int 0), (3, .int 1)], [], M11)) rfl rfl rfl ?_
  exact (LL kf) (1) (0) M11 I12 R hR13 hEI24 hER hi14 hi17 hi19 hi20 hF_21 hY_22 hP_23 (⟨Nat.le_refl _, hN1⟩) (by
      show 0 = 0 + (tX f n E 0).length
      rw [tx_no (by omega)]
      rfl)
theorem rd_count {g : xe_G} {m0 : Nat} {q : Nat → Nat} {z : Nat × Nat} {I : rI} {R : rR} {M : mi_H} {ko : Option (Nat × (Nat → Int32))} {w : Int32} (hR : RS g m0 q z I R M) (hK : KPR ko I R) (h0 : ¬ w < 0) (h1 : w ≤ 15) : pt (mT g) 198 [.ref m0, .int w] M (fun v M' => ∃ (I' : rI) (R' : rR), v = some (.int (cnK ko w)) ∧ RS g m0 q z I' R' M' ∧ eqI [0] I I' ∧ eqR [] R R' ∧ I' 0 = some 0) := by
  cases ko with
  | none =>
    obtain ⟨kn, k1, k2⟩ := hK
    exact rd_count0 hR k1 h0 h1 k2
  | some r =>
    obtain ⟨h2, h3, -, -, tx, cN, A, E, N, mj, p1, pF, pM, pA, k1, k2, k3, k4, k5, k6, k7, rfl, rfl, m1, m2, m3, m4, m5, m6, m7, m8, ⟨a1, a2, a3, -⟩, bc, K, m9, m10, g1, g2, g3, g4, g5, g6, g7⟩ := hK
    rw [cnK_is k7 m9 m10]
    have hcl := s_class_in m7
    have hN := by2_lt r.2 8
    have hpl := whole_in k7
    obtain ⟨hEP, hN1⟩ := EP_of hpl
    have hc0 := tg_0 hpl
    obtain ⟨ew, hw⟩ := i32_16 h0 h1
    obtain ⟨j, ej⟩ : ∃ j, j = w.toNatClampNeg := ⟨_, rfl⟩
    rw [← ej] at ew hw ⊢
    subst ew
    have hp1 : p1 + 8 ≤ r.1 := by omega
    have hch := chX_all hpl
    have hch2 := chL_pool hpl
    rcases (show j = 0 ∨ j = 1 ∨ j = 2 ∨ j = 3 ∨ j = 4 ∨ j = 5 ∨ j = 6 ∨ j = 7 ∨ j = 8 ∨ j = 9 ∨ j = 10 ∨ j = 11 ∨ j = 12 ∨ j = 13 ∨ j = 14 ∨ j = 15 by omega) with rfl | rfl | rfl | rfl | rfl | rfl | rfl | rfl | rfl | rfl | rfl | rfl | rfl | rfl | rfl | rfl
    · exact rd_count_0 hR h2 k5 h3
    · exact rd_count_1 hR h2 m1 h3
    · exact rd_count_2 hR h2 m2 h3
    · exact rd_count_3 hR h2 a3 h3
    · exact rd_count_4 hR h2 g1 h3
    · exact rd_count_5 hR h2 g2 h3
    · exact rd_count_6 hR h2 a2 h3
    · exact rd_count_7 hR h2 k6 h3
    · exact rd_count_8 hR h2 a1 k1 h3 hp1
    · exact rd_count_9 hR h2 a1 k1 h3 hp1
    · exact rd_count_10 hR h2 a1 k1 h3 hp1
    · exact (by rw [show cnV r.2 r.1 E p1 pF pM bc K 11 = nI (chX r.2 r.1 E (by2 r.2 8)) from by rw [hch]; rfl]; exact rd_count_11 hR h2 k4 k5 k6 k1 k2 k3 hEP hN (by2_lt _ _) h3 (by have := k1.1; omega) hN1 hc0)
    · exact rd_count_12 hR h2 g3 h3
    · exact rd_count_13 hR h2 g4 h3
    · exact rd_count_14 hR h2 g5 h3
    · exact rd_count_15 hR h2 g7 h3
end
section
/-! members and rows, as both sides tell them (my own text) -/
section MEA
variable {f : Nat → Int32} {n : Nat} {E : List (Nat × Nat)}
end MEA
end
section

end
